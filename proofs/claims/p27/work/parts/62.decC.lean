theorem dlw_C_0 : zdal code [(852, (.aload_n 2, 1)), (853, (.aload_n 0, 1)), (854, (.iload_n 3, 1)), (855, (.iconst 1, 1)), (856, (.iadd, 1)), (857, (.iaload, 1)), (858, (.invokevirtual 101, 3)), (861, (.pop, 1)), (862, (.goto 648, 3)), (865, (.aload_n 1, 1)), (866, (.aload_n 0, 1)), (867, (.iload_n 3, 1)), (868, (.iconst 1, 1)), (869, (.iadd, 1)), (870, (.iaload, 1)), (871, (.invokevirtual 102, 3)), (874, (.pop, 1)), (875, (.aload_n 2, 1)), (876, (.aload_n 0, 1)), (877, (.iload_n 3, 1)), (878, (.iconst 1, 1)), (879, (.iadd, 1)), (880, (.iaload, 1)), (881, (.invokevirtual 105, 3)), (884, (.pop, 1)), (885, (.goto 625, 3)), (888, (.aload_n 1, 1)), (889, (.aload_n 0, 1)), (890, (.iload_n 3, 1)), (891, (.iconst 1, 1)), (892, (.iadd, 1)), (893, (.iaload, 1)), (894, (.invokevirtual 106, 3)), (897, (.pop, 1)), (898, (.aload_n 2, 1)), (899, (.aload_n 0, 1)), (900, (.iload_n 3, 1)), (901, (.iconst 1, 1)), (902, (.iadd, 1)), (903, (.iaload, 1)), (904, (.invokevirtual 109, 3)), (907, (.pop, 1)), (908, (.goto 602, 3)), (911, (.aload_n 1, 1)), (912, (.aload_n 0, 1)), (913, (.iload_n 3, 1)), (914, (.iconst 1, 1)), (915, (.iadd, 1)), (916, (.iaload, 1)), (917, (.aload_n 0, 1)), (918, (.iload_n 3, 1)), (919, (.iconst 2, 1)), (920, (.iadd, 1)), (921, (.iaload, 1)), (922, (.invokevirtual 110, 3)), (925, (.pop, 1)), (926, (.aload_n 2, 1)), (927, (.aload_n 0, 1)), (928, (.iload_n 3, 1)), (929, (.iconst 1, 1)), (930, (.iadd, 1)), (931, (.iaload, 1)), (932, (.aload_n 0, 1)), (933, (.iload_n 3, 1))] = true := zDs 852 (by decide +kernel)
theorem d_Law_852 : decode code 852 = .ok (.aload_n 2, 1) := zdal_p dlw_C_0 (i := 0) rfl
theorem d_Law_853 : decode code 853 = .ok (.aload_n 0, 1) := zdal_p dlw_C_0 (i := 1) rfl
theorem d_Law_854 : decode code 854 = .ok (.iload_n 3, 1) := zdal_p dlw_C_0 (i := 2) rfl
theorem d_Law_855 : decode code 855 = .ok (.iconst 1, 1) := zdal_p dlw_C_0 (i := 3) rfl
theorem d_Law_856 : decode code 856 = .ok (.iadd, 1) := zdal_p dlw_C_0 (i := 4) rfl
theorem d_Law_857 : decode code 857 = .ok (.iaload, 1) := zdal_p dlw_C_0 (i := 5) rfl
theorem d_Law_858 : decode code 858 = .ok (.invokevirtual 101, 3) := zdal_p dlw_C_0 (i := 6) rfl
theorem d_Law_861 : decode code 861 = .ok (.pop, 1) := zdal_p dlw_C_0 (i := 7) rfl
theorem d_Law_862 : decode code 862 = .ok (.goto 648, 3) := zdal_p dlw_C_0 (i := 8) rfl
theorem d_Law_865 : decode code 865 = .ok (.aload_n 1, 1) := zdal_p dlw_C_0 (i := 9) rfl
theorem d_Law_866 : decode code 866 = .ok (.aload_n 0, 1) := zdal_p dlw_C_0 (i := 10) rfl
theorem d_Law_867 : decode code 867 = .ok (.iload_n 3, 1) := zdal_p dlw_C_0 (i := 11) rfl
theorem d_Law_868 : decode code 868 = .ok (.iconst 1, 1) := zdal_p dlw_C_0 (i := 12) rfl
theorem d_Law_869 : decode code 869 = .ok (.iadd, 1) := zdal_p dlw_C_0 (i := 13) rfl
theorem d_Law_870 : decode code 870 = .ok (.iaload, 1) := zdal_p dlw_C_0 (i := 14) rfl
theorem d_Law_871 : decode code 871 = .ok (.invokevirtual 102, 3) := zdal_p dlw_C_0 (i := 15) rfl
theorem d_Law_874 : decode code 874 = .ok (.pop, 1) := zdal_p dlw_C_0 (i := 16) rfl
theorem d_Law_875 : decode code 875 = .ok (.aload_n 2, 1) := zdal_p dlw_C_0 (i := 17) rfl
theorem d_Law_876 : decode code 876 = .ok (.aload_n 0, 1) := zdal_p dlw_C_0 (i := 18) rfl
theorem d_Law_877 : decode code 877 = .ok (.iload_n 3, 1) := zdal_p dlw_C_0 (i := 19) rfl
theorem d_Law_878 : decode code 878 = .ok (.iconst 1, 1) := zdal_p dlw_C_0 (i := 20) rfl
theorem d_Law_879 : decode code 879 = .ok (.iadd, 1) := zdal_p dlw_C_0 (i := 21) rfl
theorem d_Law_880 : decode code 880 = .ok (.iaload, 1) := zdal_p dlw_C_0 (i := 22) rfl
theorem d_Law_881 : decode code 881 = .ok (.invokevirtual 105, 3) := zdal_p dlw_C_0 (i := 23) rfl
theorem d_Law_884 : decode code 884 = .ok (.pop, 1) := zdal_p dlw_C_0 (i := 24) rfl
theorem d_Law_885 : decode code 885 = .ok (.goto 625, 3) := zdal_p dlw_C_0 (i := 25) rfl
theorem d_Law_888 : decode code 888 = .ok (.aload_n 1, 1) := zdal_p dlw_C_0 (i := 26) rfl
theorem d_Law_889 : decode code 889 = .ok (.aload_n 0, 1) := zdal_p dlw_C_0 (i := 27) rfl
theorem d_Law_890 : decode code 890 = .ok (.iload_n 3, 1) := zdal_p dlw_C_0 (i := 28) rfl
theorem d_Law_891 : decode code 891 = .ok (.iconst 1, 1) := zdal_p dlw_C_0 (i := 29) rfl
theorem d_Law_892 : decode code 892 = .ok (.iadd, 1) := zdal_p dlw_C_0 (i := 30) rfl
theorem d_Law_893 : decode code 893 = .ok (.iaload, 1) := zdal_p dlw_C_0 (i := 31) rfl
theorem d_Law_894 : decode code 894 = .ok (.invokevirtual 106, 3) := zdal_p dlw_C_0 (i := 32) rfl
theorem d_Law_897 : decode code 897 = .ok (.pop, 1) := zdal_p dlw_C_0 (i := 33) rfl
theorem d_Law_898 : decode code 898 = .ok (.aload_n 2, 1) := zdal_p dlw_C_0 (i := 34) rfl
theorem d_Law_899 : decode code 899 = .ok (.aload_n 0, 1) := zdal_p dlw_C_0 (i := 35) rfl
theorem d_Law_900 : decode code 900 = .ok (.iload_n 3, 1) := zdal_p dlw_C_0 (i := 36) rfl
theorem d_Law_901 : decode code 901 = .ok (.iconst 1, 1) := zdal_p dlw_C_0 (i := 37) rfl
theorem d_Law_902 : decode code 902 = .ok (.iadd, 1) := zdal_p dlw_C_0 (i := 38) rfl
theorem d_Law_903 : decode code 903 = .ok (.iaload, 1) := zdal_p dlw_C_0 (i := 39) rfl
theorem d_Law_904 : decode code 904 = .ok (.invokevirtual 109, 3) := zdal_p dlw_C_0 (i := 40) rfl
theorem d_Law_907 : decode code 907 = .ok (.pop, 1) := zdal_p dlw_C_0 (i := 41) rfl
theorem d_Law_908 : decode code 908 = .ok (.goto 602, 3) := zdal_p dlw_C_0 (i := 42) rfl
theorem d_Law_911 : decode code 911 = .ok (.aload_n 1, 1) := zdal_p dlw_C_0 (i := 43) rfl
theorem d_Law_912 : decode code 912 = .ok (.aload_n 0, 1) := zdal_p dlw_C_0 (i := 44) rfl
theorem d_Law_913 : decode code 913 = .ok (.iload_n 3, 1) := zdal_p dlw_C_0 (i := 45) rfl
theorem d_Law_914 : decode code 914 = .ok (.iconst 1, 1) := zdal_p dlw_C_0 (i := 46) rfl
theorem d_Law_915 : decode code 915 = .ok (.iadd, 1) := zdal_p dlw_C_0 (i := 47) rfl
theorem d_Law_916 : decode code 916 = .ok (.iaload, 1) := zdal_p dlw_C_0 (i := 48) rfl
theorem d_Law_917 : decode code 917 = .ok (.aload_n 0, 1) := zdal_p dlw_C_0 (i := 49) rfl
theorem d_Law_918 : decode code 918 = .ok (.iload_n 3, 1) := zdal_p dlw_C_0 (i := 50) rfl
theorem d_Law_919 : decode code 919 = .ok (.iconst 2, 1) := zdal_p dlw_C_0 (i := 51) rfl
theorem d_Law_920 : decode code 920 = .ok (.iadd, 1) := zdal_p dlw_C_0 (i := 52) rfl
theorem d_Law_921 : decode code 921 = .ok (.iaload, 1) := zdal_p dlw_C_0 (i := 53) rfl
theorem d_Law_922 : decode code 922 = .ok (.invokevirtual 110, 3) := zdal_p dlw_C_0 (i := 54) rfl
theorem d_Law_925 : decode code 925 = .ok (.pop, 1) := zdal_p dlw_C_0 (i := 55) rfl
theorem d_Law_926 : decode code 926 = .ok (.aload_n 2, 1) := zdal_p dlw_C_0 (i := 56) rfl
theorem d_Law_927 : decode code 927 = .ok (.aload_n 0, 1) := zdal_p dlw_C_0 (i := 57) rfl
theorem d_Law_928 : decode code 928 = .ok (.iload_n 3, 1) := zdal_p dlw_C_0 (i := 58) rfl
theorem d_Law_929 : decode code 929 = .ok (.iconst 1, 1) := zdal_p dlw_C_0 (i := 59) rfl
theorem d_Law_930 : decode code 930 = .ok (.iadd, 1) := zdal_p dlw_C_0 (i := 60) rfl
theorem d_Law_931 : decode code 931 = .ok (.iaload, 1) := zdal_p dlw_C_0 (i := 61) rfl
theorem d_Law_932 : decode code 932 = .ok (.aload_n 0, 1) := zdal_p dlw_C_0 (i := 62) rfl
theorem d_Law_933 : decode code 933 = .ok (.iload_n 3, 1) := zdal_p dlw_C_0 (i := 63) rfl
theorem dlw_C_1 : zdal code [(934, (.iconst 2, 1)), (935, (.iadd, 1)), (936, (.iaload, 1)), (937, (.invokevirtual 113, 3)), (940, (.pop, 1)), (941, (.goto 569, 3)), (944, (.aload_n 1, 1)), (945, (.invokevirtual 114, 3)), (948, (.pop, 1)), (949, (.aload_n 2, 1)), (950, (.invokevirtual 117, 3)), (953, (.pop, 1)), (954, (.goto 556, 3)), (957, (.aload_n 1, 1)), (958, (.aload_n 0, 1)), (959, (.iload_n 3, 1)), (960, (.iconst 1, 1)), (961, (.iadd, 1)), (962, (.iaload, 1)), (963, (.aload_n 0, 1)), (964, (.iload_n 3, 1)), (965, (.iconst 2, 1)), (966, (.iadd, 1)), (967, (.iaload, 1)), (968, (.invokevirtual 118, 3)), (971, (.aload_n 2, 1)), (972, (.aload_n 0, 1)), (973, (.iload_n 3, 1)), (974, (.iconst 1, 1)), (975, (.iadd, 1)), (976, (.iaload, 1)), (977, (.aload_n 0, 1)), (978, (.iload_n 3, 1)), (979, (.iconst 2, 1)), (980, (.iadd, 1)), (981, (.iaload, 1)), (982, (.invokevirtual 121, 3)), (985, (.if_icmp .eq 525, 3)), (988, (.iconst 0, 1)), (989, (.ireturn, 1)), (990, (.aload_n 1, 1)), (991, (.aload_n 0, 1)), (992, (.iload_n 3, 1)), (993, (.iconst 1, 1)), (994, (.iadd, 1)), (995, (.iaload, 1)), (996, (.aload_n 0, 1)), (997, (.iload_n 3, 1)), (998, (.iconst 2, 1)), (999, (.iadd, 1)), (1000, (.iaload, 1)), (1001, (.invokevirtual 122, 3)), (1004, (.pop, 1)), (1005, (.aload_n 2, 1)), (1006, (.aload_n 0, 1)), (1007, (.iload_n 3, 1)), (1008, (.iconst 1, 1)), (1009, (.iadd, 1)), (1010, (.iaload, 1)), (1011, (.aload_n 0, 1)), (1012, (.iload_n 3, 1)), (1013, (.iconst 2, 1)), (1014, (.iadd, 1)), (1015, (.iaload, 1))] = true := zDs 934 (by decide +kernel)
theorem d_Law_934 : decode code 934 = .ok (.iconst 2, 1) := zdal_p dlw_C_1 (i := 0) rfl
theorem d_Law_935 : decode code 935 = .ok (.iadd, 1) := zdal_p dlw_C_1 (i := 1) rfl
theorem d_Law_936 : decode code 936 = .ok (.iaload, 1) := zdal_p dlw_C_1 (i := 2) rfl
theorem d_Law_937 : decode code 937 = .ok (.invokevirtual 113, 3) := zdal_p dlw_C_1 (i := 3) rfl
theorem d_Law_940 : decode code 940 = .ok (.pop, 1) := zdal_p dlw_C_1 (i := 4) rfl
theorem d_Law_941 : decode code 941 = .ok (.goto 569, 3) := zdal_p dlw_C_1 (i := 5) rfl
theorem d_Law_944 : decode code 944 = .ok (.aload_n 1, 1) := zdal_p dlw_C_1 (i := 6) rfl
theorem d_Law_945 : decode code 945 = .ok (.invokevirtual 114, 3) := zdal_p dlw_C_1 (i := 7) rfl
theorem d_Law_948 : decode code 948 = .ok (.pop, 1) := zdal_p dlw_C_1 (i := 8) rfl
theorem d_Law_949 : decode code 949 = .ok (.aload_n 2, 1) := zdal_p dlw_C_1 (i := 9) rfl
theorem d_Law_950 : decode code 950 = .ok (.invokevirtual 117, 3) := zdal_p dlw_C_1 (i := 10) rfl
theorem d_Law_953 : decode code 953 = .ok (.pop, 1) := zdal_p dlw_C_1 (i := 11) rfl
theorem d_Law_954 : decode code 954 = .ok (.goto 556, 3) := zdal_p dlw_C_1 (i := 12) rfl
theorem d_Law_957 : decode code 957 = .ok (.aload_n 1, 1) := zdal_p dlw_C_1 (i := 13) rfl
theorem d_Law_958 : decode code 958 = .ok (.aload_n 0, 1) := zdal_p dlw_C_1 (i := 14) rfl
theorem d_Law_959 : decode code 959 = .ok (.iload_n 3, 1) := zdal_p dlw_C_1 (i := 15) rfl
theorem d_Law_960 : decode code 960 = .ok (.iconst 1, 1) := zdal_p dlw_C_1 (i := 16) rfl
theorem d_Law_961 : decode code 961 = .ok (.iadd, 1) := zdal_p dlw_C_1 (i := 17) rfl
theorem d_Law_962 : decode code 962 = .ok (.iaload, 1) := zdal_p dlw_C_1 (i := 18) rfl
theorem d_Law_963 : decode code 963 = .ok (.aload_n 0, 1) := zdal_p dlw_C_1 (i := 19) rfl
theorem d_Law_964 : decode code 964 = .ok (.iload_n 3, 1) := zdal_p dlw_C_1 (i := 20) rfl
theorem d_Law_965 : decode code 965 = .ok (.iconst 2, 1) := zdal_p dlw_C_1 (i := 21) rfl
theorem d_Law_966 : decode code 966 = .ok (.iadd, 1) := zdal_p dlw_C_1 (i := 22) rfl
theorem d_Law_967 : decode code 967 = .ok (.iaload, 1) := zdal_p dlw_C_1 (i := 23) rfl
theorem d_Law_968 : decode code 968 = .ok (.invokevirtual 118, 3) := zdal_p dlw_C_1 (i := 24) rfl
theorem d_Law_971 : decode code 971 = .ok (.aload_n 2, 1) := zdal_p dlw_C_1 (i := 25) rfl
theorem d_Law_972 : decode code 972 = .ok (.aload_n 0, 1) := zdal_p dlw_C_1 (i := 26) rfl
theorem d_Law_973 : decode code 973 = .ok (.iload_n 3, 1) := zdal_p dlw_C_1 (i := 27) rfl
theorem d_Law_974 : decode code 974 = .ok (.iconst 1, 1) := zdal_p dlw_C_1 (i := 28) rfl
theorem d_Law_975 : decode code 975 = .ok (.iadd, 1) := zdal_p dlw_C_1 (i := 29) rfl
theorem d_Law_976 : decode code 976 = .ok (.iaload, 1) := zdal_p dlw_C_1 (i := 30) rfl
theorem d_Law_977 : decode code 977 = .ok (.aload_n 0, 1) := zdal_p dlw_C_1 (i := 31) rfl
theorem d_Law_978 : decode code 978 = .ok (.iload_n 3, 1) := zdal_p dlw_C_1 (i := 32) rfl
theorem d_Law_979 : decode code 979 = .ok (.iconst 2, 1) := zdal_p dlw_C_1 (i := 33) rfl
theorem d_Law_980 : decode code 980 = .ok (.iadd, 1) := zdal_p dlw_C_1 (i := 34) rfl
theorem d_Law_981 : decode code 981 = .ok (.iaload, 1) := zdal_p dlw_C_1 (i := 35) rfl
theorem d_Law_982 : decode code 982 = .ok (.invokevirtual 121, 3) := zdal_p dlw_C_1 (i := 36) rfl
theorem d_Law_985 : decode code 985 = .ok (.if_icmp .eq 525, 3) := zdal_p dlw_C_1 (i := 37) rfl
theorem d_Law_990 : decode code 990 = .ok (.aload_n 1, 1) := zdal_p dlw_C_1 (i := 40) rfl
theorem d_Law_991 : decode code 991 = .ok (.aload_n 0, 1) := zdal_p dlw_C_1 (i := 41) rfl
theorem d_Law_992 : decode code 992 = .ok (.iload_n 3, 1) := zdal_p dlw_C_1 (i := 42) rfl
theorem d_Law_993 : decode code 993 = .ok (.iconst 1, 1) := zdal_p dlw_C_1 (i := 43) rfl
theorem d_Law_994 : decode code 994 = .ok (.iadd, 1) := zdal_p dlw_C_1 (i := 44) rfl
theorem d_Law_995 : decode code 995 = .ok (.iaload, 1) := zdal_p dlw_C_1 (i := 45) rfl
theorem d_Law_996 : decode code 996 = .ok (.aload_n 0, 1) := zdal_p dlw_C_1 (i := 46) rfl
theorem d_Law_997 : decode code 997 = .ok (.iload_n 3, 1) := zdal_p dlw_C_1 (i := 47) rfl
theorem d_Law_998 : decode code 998 = .ok (.iconst 2, 1) := zdal_p dlw_C_1 (i := 48) rfl
theorem d_Law_999 : decode code 999 = .ok (.iadd, 1) := zdal_p dlw_C_1 (i := 49) rfl
theorem d_Law_1000 : decode code 1000 = .ok (.iaload, 1) := zdal_p dlw_C_1 (i := 50) rfl
theorem d_Law_1001 : decode code 1001 = .ok (.invokevirtual 122, 3) := zdal_p dlw_C_1 (i := 51) rfl
theorem d_Law_1004 : decode code 1004 = .ok (.pop, 1) := zdal_p dlw_C_1 (i := 52) rfl
theorem d_Law_1005 : decode code 1005 = .ok (.aload_n 2, 1) := zdal_p dlw_C_1 (i := 53) rfl
theorem d_Law_1006 : decode code 1006 = .ok (.aload_n 0, 1) := zdal_p dlw_C_1 (i := 54) rfl
theorem d_Law_1007 : decode code 1007 = .ok (.iload_n 3, 1) := zdal_p dlw_C_1 (i := 55) rfl
theorem d_Law_1008 : decode code 1008 = .ok (.iconst 1, 1) := zdal_p dlw_C_1 (i := 56) rfl
theorem d_Law_1009 : decode code 1009 = .ok (.iadd, 1) := zdal_p dlw_C_1 (i := 57) rfl
theorem d_Law_1010 : decode code 1010 = .ok (.iaload, 1) := zdal_p dlw_C_1 (i := 58) rfl
theorem d_Law_1011 : decode code 1011 = .ok (.aload_n 0, 1) := zdal_p dlw_C_1 (i := 59) rfl
theorem d_Law_1012 : decode code 1012 = .ok (.iload_n 3, 1) := zdal_p dlw_C_1 (i := 60) rfl
theorem d_Law_1013 : decode code 1013 = .ok (.iconst 2, 1) := zdal_p dlw_C_1 (i := 61) rfl
theorem d_Law_1014 : decode code 1014 = .ok (.iadd, 1) := zdal_p dlw_C_1 (i := 62) rfl
theorem d_Law_1015 : decode code 1015 = .ok (.iaload, 1) := zdal_p dlw_C_1 (i := 63) rfl
theorem dlw_C_2 : zdal code [(1016, (.invokevirtual 125, 3)), (1019, (.pop, 1)), (1020, (.goto 490, 3)), (1023, (.aload_n 1, 1)), (1024, (.aload_n 0, 1)), (1025, (.iload_n 3, 1)), (1026, (.iconst 1, 1)), (1027, (.iadd, 1)), (1028, (.iaload, 1)), (1029, (.invokevirtual 126, 3)), (1032, (.pop, 1)), (1033, (.aload_n 2, 1)), (1034, (.aload_n 0, 1)), (1035, (.iload_n 3, 1)), (1036, (.iconst 1, 1)), (1037, (.iadd, 1)), (1038, (.iaload, 1)), (1039, (.invokevirtual 129, 3)), (1042, (.pop, 1)), (1043, (.goto 467, 3)), (1046, (.aload_n 1, 1)), (1047, (.aload_n 0, 1)), (1048, (.iload_n 3, 1)), (1049, (.iconst 1, 1)), (1050, (.iadd, 1)), (1051, (.iaload, 1)), (1052, (.invokevirtual 130, 3)), (1055, (.pop, 1)), (1056, (.aload_n 2, 1)), (1057, (.aload_n 0, 1)), (1058, (.iload_n 3, 1)), (1059, (.iconst 1, 1)), (1060, (.iadd, 1)), (1061, (.iaload, 1)), (1062, (.invokevirtual 133, 3)), (1065, (.pop, 1)), (1066, (.goto 444, 3)), (1069, (.aload_n 1, 1)), (1070, (.aload_n 0, 1)), (1071, (.iload_n 3, 1)), (1072, (.iconst 1, 1)), (1073, (.iadd, 1)), (1074, (.iaload, 1)), (1075, (.aload_n 0, 1)), (1076, (.iload_n 3, 1)), (1077, (.iconst 2, 1)), (1078, (.iadd, 1)), (1079, (.iaload, 1)), (1080, (.aload_n 0, 1)), (1081, (.iload_n 3, 1)), (1082, (.iconst 3, 1)), (1083, (.iadd, 1)), (1084, (.iaload, 1)), (1085, (.invokevirtual 134, 3)), (1088, (.pop, 1)), (1089, (.aload_n 2, 1)), (1090, (.aload_n 0, 1)), (1091, (.iload_n 3, 1)), (1092, (.iconst 1, 1)), (1093, (.iadd, 1)), (1094, (.iaload, 1)), (1095, (.aload_n 0, 1)), (1096, (.iload_n 3, 1)), (1097, (.iconst 2, 1))] = true := zDs 1016 (by decide +kernel)
theorem d_Law_1016 : decode code 1016 = .ok (.invokevirtual 125, 3) := zdal_p dlw_C_2 (i := 0) rfl
theorem d_Law_1019 : decode code 1019 = .ok (.pop, 1) := zdal_p dlw_C_2 (i := 1) rfl
theorem d_Law_1020 : decode code 1020 = .ok (.goto 490, 3) := zdal_p dlw_C_2 (i := 2) rfl
theorem d_Law_1023 : decode code 1023 = .ok (.aload_n 1, 1) := zdal_p dlw_C_2 (i := 3) rfl
theorem d_Law_1024 : decode code 1024 = .ok (.aload_n 0, 1) := zdal_p dlw_C_2 (i := 4) rfl
theorem d_Law_1025 : decode code 1025 = .ok (.iload_n 3, 1) := zdal_p dlw_C_2 (i := 5) rfl
theorem d_Law_1026 : decode code 1026 = .ok (.iconst 1, 1) := zdal_p dlw_C_2 (i := 6) rfl
theorem d_Law_1027 : decode code 1027 = .ok (.iadd, 1) := zdal_p dlw_C_2 (i := 7) rfl
theorem d_Law_1028 : decode code 1028 = .ok (.iaload, 1) := zdal_p dlw_C_2 (i := 8) rfl
theorem d_Law_1029 : decode code 1029 = .ok (.invokevirtual 126, 3) := zdal_p dlw_C_2 (i := 9) rfl
theorem d_Law_1032 : decode code 1032 = .ok (.pop, 1) := zdal_p dlw_C_2 (i := 10) rfl
theorem d_Law_1033 : decode code 1033 = .ok (.aload_n 2, 1) := zdal_p dlw_C_2 (i := 11) rfl
theorem d_Law_1034 : decode code 1034 = .ok (.aload_n 0, 1) := zdal_p dlw_C_2 (i := 12) rfl
theorem d_Law_1035 : decode code 1035 = .ok (.iload_n 3, 1) := zdal_p dlw_C_2 (i := 13) rfl
theorem d_Law_1036 : decode code 1036 = .ok (.iconst 1, 1) := zdal_p dlw_C_2 (i := 14) rfl
theorem d_Law_1037 : decode code 1037 = .ok (.iadd, 1) := zdal_p dlw_C_2 (i := 15) rfl
theorem d_Law_1038 : decode code 1038 = .ok (.iaload, 1) := zdal_p dlw_C_2 (i := 16) rfl
theorem d_Law_1039 : decode code 1039 = .ok (.invokevirtual 129, 3) := zdal_p dlw_C_2 (i := 17) rfl
theorem d_Law_1042 : decode code 1042 = .ok (.pop, 1) := zdal_p dlw_C_2 (i := 18) rfl
theorem d_Law_1043 : decode code 1043 = .ok (.goto 467, 3) := zdal_p dlw_C_2 (i := 19) rfl
theorem d_Law_1046 : decode code 1046 = .ok (.aload_n 1, 1) := zdal_p dlw_C_2 (i := 20) rfl
theorem d_Law_1047 : decode code 1047 = .ok (.aload_n 0, 1) := zdal_p dlw_C_2 (i := 21) rfl
theorem d_Law_1048 : decode code 1048 = .ok (.iload_n 3, 1) := zdal_p dlw_C_2 (i := 22) rfl
theorem d_Law_1049 : decode code 1049 = .ok (.iconst 1, 1) := zdal_p dlw_C_2 (i := 23) rfl
theorem d_Law_1050 : decode code 1050 = .ok (.iadd, 1) := zdal_p dlw_C_2 (i := 24) rfl
theorem d_Law_1051 : decode code 1051 = .ok (.iaload, 1) := zdal_p dlw_C_2 (i := 25) rfl
theorem d_Law_1052 : decode code 1052 = .ok (.invokevirtual 130, 3) := zdal_p dlw_C_2 (i := 26) rfl
theorem d_Law_1055 : decode code 1055 = .ok (.pop, 1) := zdal_p dlw_C_2 (i := 27) rfl
theorem d_Law_1056 : decode code 1056 = .ok (.aload_n 2, 1) := zdal_p dlw_C_2 (i := 28) rfl
theorem d_Law_1057 : decode code 1057 = .ok (.aload_n 0, 1) := zdal_p dlw_C_2 (i := 29) rfl
theorem d_Law_1058 : decode code 1058 = .ok (.iload_n 3, 1) := zdal_p dlw_C_2 (i := 30) rfl
theorem d_Law_1059 : decode code 1059 = .ok (.iconst 1, 1) := zdal_p dlw_C_2 (i := 31) rfl
theorem d_Law_1060 : decode code 1060 = .ok (.iadd, 1) := zdal_p dlw_C_2 (i := 32) rfl
theorem d_Law_1061 : decode code 1061 = .ok (.iaload, 1) := zdal_p dlw_C_2 (i := 33) rfl
theorem d_Law_1062 : decode code 1062 = .ok (.invokevirtual 133, 3) := zdal_p dlw_C_2 (i := 34) rfl
theorem d_Law_1065 : decode code 1065 = .ok (.pop, 1) := zdal_p dlw_C_2 (i := 35) rfl
theorem d_Law_1066 : decode code 1066 = .ok (.goto 444, 3) := zdal_p dlw_C_2 (i := 36) rfl
theorem d_Law_1069 : decode code 1069 = .ok (.aload_n 1, 1) := zdal_p dlw_C_2 (i := 37) rfl
theorem d_Law_1070 : decode code 1070 = .ok (.aload_n 0, 1) := zdal_p dlw_C_2 (i := 38) rfl
theorem d_Law_1071 : decode code 1071 = .ok (.iload_n 3, 1) := zdal_p dlw_C_2 (i := 39) rfl
theorem d_Law_1072 : decode code 1072 = .ok (.iconst 1, 1) := zdal_p dlw_C_2 (i := 40) rfl
theorem d_Law_1073 : decode code 1073 = .ok (.iadd, 1) := zdal_p dlw_C_2 (i := 41) rfl
theorem d_Law_1074 : decode code 1074 = .ok (.iaload, 1) := zdal_p dlw_C_2 (i := 42) rfl
theorem d_Law_1075 : decode code 1075 = .ok (.aload_n 0, 1) := zdal_p dlw_C_2 (i := 43) rfl
theorem d_Law_1076 : decode code 1076 = .ok (.iload_n 3, 1) := zdal_p dlw_C_2 (i := 44) rfl
theorem d_Law_1077 : decode code 1077 = .ok (.iconst 2, 1) := zdal_p dlw_C_2 (i := 45) rfl
theorem d_Law_1078 : decode code 1078 = .ok (.iadd, 1) := zdal_p dlw_C_2 (i := 46) rfl
theorem d_Law_1079 : decode code 1079 = .ok (.iaload, 1) := zdal_p dlw_C_2 (i := 47) rfl
theorem d_Law_1080 : decode code 1080 = .ok (.aload_n 0, 1) := zdal_p dlw_C_2 (i := 48) rfl
theorem d_Law_1081 : decode code 1081 = .ok (.iload_n 3, 1) := zdal_p dlw_C_2 (i := 49) rfl
theorem d_Law_1082 : decode code 1082 = .ok (.iconst 3, 1) := zdal_p dlw_C_2 (i := 50) rfl
theorem d_Law_1083 : decode code 1083 = .ok (.iadd, 1) := zdal_p dlw_C_2 (i := 51) rfl
theorem d_Law_1084 : decode code 1084 = .ok (.iaload, 1) := zdal_p dlw_C_2 (i := 52) rfl
theorem d_Law_1085 : decode code 1085 = .ok (.invokevirtual 134, 3) := zdal_p dlw_C_2 (i := 53) rfl
theorem d_Law_1088 : decode code 1088 = .ok (.pop, 1) := zdal_p dlw_C_2 (i := 54) rfl
theorem d_Law_1089 : decode code 1089 = .ok (.aload_n 2, 1) := zdal_p dlw_C_2 (i := 55) rfl
theorem d_Law_1090 : decode code 1090 = .ok (.aload_n 0, 1) := zdal_p dlw_C_2 (i := 56) rfl
theorem d_Law_1091 : decode code 1091 = .ok (.iload_n 3, 1) := zdal_p dlw_C_2 (i := 57) rfl
theorem d_Law_1092 : decode code 1092 = .ok (.iconst 1, 1) := zdal_p dlw_C_2 (i := 58) rfl
theorem d_Law_1093 : decode code 1093 = .ok (.iadd, 1) := zdal_p dlw_C_2 (i := 59) rfl
theorem d_Law_1094 : decode code 1094 = .ok (.iaload, 1) := zdal_p dlw_C_2 (i := 60) rfl
theorem d_Law_1095 : decode code 1095 = .ok (.aload_n 0, 1) := zdal_p dlw_C_2 (i := 61) rfl
theorem d_Law_1096 : decode code 1096 = .ok (.iload_n 3, 1) := zdal_p dlw_C_2 (i := 62) rfl
theorem d_Law_1097 : decode code 1097 = .ok (.iconst 2, 1) := zdal_p dlw_C_2 (i := 63) rfl
theorem dlw_C_3 : zdal code [(1098, (.iadd, 1)), (1099, (.iaload, 1)), (1100, (.aload_n 0, 1)), (1101, (.iload_n 3, 1)), (1102, (.iconst 3, 1)), (1103, (.iadd, 1)), (1104, (.iaload, 1)), (1105, (.invokevirtual 137, 3)), (1108, (.pop, 1)), (1109, (.goto 401, 3)), (1112, (.aload_n 1, 1)), (1113, (.aload_n 0, 1)), (1114, (.iload_n 3, 1)), (1115, (.iconst 1, 1)), (1116, (.iadd, 1)), (1117, (.iaload, 1)), (1118, (.aload_n 0, 1)), (1119, (.iload_n 3, 1)), (1120, (.iconst 2, 1)), (1121, (.iadd, 1)), (1122, (.iaload, 1)), (1123, (.aload_n 0, 1)), (1124, (.iload_n 3, 1)), (1125, (.iconst 3, 1)), (1126, (.iadd, 1)), (1127, (.iaload, 1)), (1128, (.aload_n 0, 1)), (1129, (.iload_n 3, 1)), (1130, (.iconst 4, 1)), (1131, (.iadd, 1)), (1132, (.iaload, 1)), (1133, (.invokevirtual 138, 3)), (1136, (.pop, 1)), (1137, (.aload_n 2, 1)), (1138, (.aload_n 0, 1)), (1139, (.iload_n 3, 1)), (1140, (.iconst 1, 1)), (1141, (.iadd, 1)), (1142, (.iaload, 1)), (1143, (.aload_n 0, 1)), (1144, (.iload_n 3, 1)), (1145, (.iconst 2, 1)), (1146, (.iadd, 1)), (1147, (.iaload, 1)), (1148, (.aload_n 0, 1)), (1149, (.iload_n 3, 1)), (1150, (.iconst 3, 1)), (1151, (.iadd, 1)), (1152, (.iaload, 1)), (1153, (.aload_n 0, 1)), (1154, (.iload_n 3, 1)), (1155, (.iconst 4, 1)), (1156, (.iadd, 1)), (1157, (.iaload, 1)), (1158, (.invokevirtual 142, 3)), (1161, (.pop, 1)), (1162, (.goto 348, 3)), (1165, (.aload_n 1, 1)), (1166, (.invokevirtual 143, 3)), (1169, (.pop, 1)), (1170, (.aload_n 2, 1)), (1171, (.invokevirtual 146, 3)), (1174, (.pop, 1)), (1175, (.goto 335, 3))] = true := zDs 1098 (by decide +kernel)
theorem d_Law_1098 : decode code 1098 = .ok (.iadd, 1) := zdal_p dlw_C_3 (i := 0) rfl
theorem d_Law_1099 : decode code 1099 = .ok (.iaload, 1) := zdal_p dlw_C_3 (i := 1) rfl
theorem d_Law_1100 : decode code 1100 = .ok (.aload_n 0, 1) := zdal_p dlw_C_3 (i := 2) rfl
theorem d_Law_1101 : decode code 1101 = .ok (.iload_n 3, 1) := zdal_p dlw_C_3 (i := 3) rfl
theorem d_Law_1102 : decode code 1102 = .ok (.iconst 3, 1) := zdal_p dlw_C_3 (i := 4) rfl
theorem d_Law_1103 : decode code 1103 = .ok (.iadd, 1) := zdal_p dlw_C_3 (i := 5) rfl
theorem d_Law_1104 : decode code 1104 = .ok (.iaload, 1) := zdal_p dlw_C_3 (i := 6) rfl
theorem d_Law_1105 : decode code 1105 = .ok (.invokevirtual 137, 3) := zdal_p dlw_C_3 (i := 7) rfl
theorem d_Law_1108 : decode code 1108 = .ok (.pop, 1) := zdal_p dlw_C_3 (i := 8) rfl
theorem d_Law_1109 : decode code 1109 = .ok (.goto 401, 3) := zdal_p dlw_C_3 (i := 9) rfl
theorem d_Law_1112 : decode code 1112 = .ok (.aload_n 1, 1) := zdal_p dlw_C_3 (i := 10) rfl
theorem d_Law_1113 : decode code 1113 = .ok (.aload_n 0, 1) := zdal_p dlw_C_3 (i := 11) rfl
theorem d_Law_1114 : decode code 1114 = .ok (.iload_n 3, 1) := zdal_p dlw_C_3 (i := 12) rfl
theorem d_Law_1115 : decode code 1115 = .ok (.iconst 1, 1) := zdal_p dlw_C_3 (i := 13) rfl
theorem d_Law_1116 : decode code 1116 = .ok (.iadd, 1) := zdal_p dlw_C_3 (i := 14) rfl
theorem d_Law_1117 : decode code 1117 = .ok (.iaload, 1) := zdal_p dlw_C_3 (i := 15) rfl
theorem d_Law_1118 : decode code 1118 = .ok (.aload_n 0, 1) := zdal_p dlw_C_3 (i := 16) rfl
theorem d_Law_1119 : decode code 1119 = .ok (.iload_n 3, 1) := zdal_p dlw_C_3 (i := 17) rfl
theorem d_Law_1120 : decode code 1120 = .ok (.iconst 2, 1) := zdal_p dlw_C_3 (i := 18) rfl
theorem d_Law_1121 : decode code 1121 = .ok (.iadd, 1) := zdal_p dlw_C_3 (i := 19) rfl
theorem d_Law_1122 : decode code 1122 = .ok (.iaload, 1) := zdal_p dlw_C_3 (i := 20) rfl
theorem d_Law_1123 : decode code 1123 = .ok (.aload_n 0, 1) := zdal_p dlw_C_3 (i := 21) rfl
theorem d_Law_1124 : decode code 1124 = .ok (.iload_n 3, 1) := zdal_p dlw_C_3 (i := 22) rfl
theorem d_Law_1125 : decode code 1125 = .ok (.iconst 3, 1) := zdal_p dlw_C_3 (i := 23) rfl
theorem d_Law_1126 : decode code 1126 = .ok (.iadd, 1) := zdal_p dlw_C_3 (i := 24) rfl
theorem d_Law_1127 : decode code 1127 = .ok (.iaload, 1) := zdal_p dlw_C_3 (i := 25) rfl
theorem d_Law_1128 : decode code 1128 = .ok (.aload_n 0, 1) := zdal_p dlw_C_3 (i := 26) rfl
theorem d_Law_1129 : decode code 1129 = .ok (.iload_n 3, 1) := zdal_p dlw_C_3 (i := 27) rfl
theorem d_Law_1130 : decode code 1130 = .ok (.iconst 4, 1) := zdal_p dlw_C_3 (i := 28) rfl
theorem d_Law_1131 : decode code 1131 = .ok (.iadd, 1) := zdal_p dlw_C_3 (i := 29) rfl
theorem d_Law_1132 : decode code 1132 = .ok (.iaload, 1) := zdal_p dlw_C_3 (i := 30) rfl
theorem d_Law_1133 : decode code 1133 = .ok (.invokevirtual 138, 3) := zdal_p dlw_C_3 (i := 31) rfl
theorem d_Law_1136 : decode code 1136 = .ok (.pop, 1) := zdal_p dlw_C_3 (i := 32) rfl
theorem d_Law_1137 : decode code 1137 = .ok (.aload_n 2, 1) := zdal_p dlw_C_3 (i := 33) rfl
theorem d_Law_1138 : decode code 1138 = .ok (.aload_n 0, 1) := zdal_p dlw_C_3 (i := 34) rfl
theorem d_Law_1139 : decode code 1139 = .ok (.iload_n 3, 1) := zdal_p dlw_C_3 (i := 35) rfl
theorem d_Law_1140 : decode code 1140 = .ok (.iconst 1, 1) := zdal_p dlw_C_3 (i := 36) rfl
theorem d_Law_1141 : decode code 1141 = .ok (.iadd, 1) := zdal_p dlw_C_3 (i := 37) rfl
theorem d_Law_1142 : decode code 1142 = .ok (.iaload, 1) := zdal_p dlw_C_3 (i := 38) rfl
theorem d_Law_1143 : decode code 1143 = .ok (.aload_n 0, 1) := zdal_p dlw_C_3 (i := 39) rfl
theorem d_Law_1144 : decode code 1144 = .ok (.iload_n 3, 1) := zdal_p dlw_C_3 (i := 40) rfl
theorem d_Law_1145 : decode code 1145 = .ok (.iconst 2, 1) := zdal_p dlw_C_3 (i := 41) rfl
theorem d_Law_1146 : decode code 1146 = .ok (.iadd, 1) := zdal_p dlw_C_3 (i := 42) rfl
theorem d_Law_1147 : decode code 1147 = .ok (.iaload, 1) := zdal_p dlw_C_3 (i := 43) rfl
theorem d_Law_1148 : decode code 1148 = .ok (.aload_n 0, 1) := zdal_p dlw_C_3 (i := 44) rfl
theorem d_Law_1149 : decode code 1149 = .ok (.iload_n 3, 1) := zdal_p dlw_C_3 (i := 45) rfl
theorem d_Law_1150 : decode code 1150 = .ok (.iconst 3, 1) := zdal_p dlw_C_3 (i := 46) rfl
theorem d_Law_1151 : decode code 1151 = .ok (.iadd, 1) := zdal_p dlw_C_3 (i := 47) rfl
theorem d_Law_1152 : decode code 1152 = .ok (.iaload, 1) := zdal_p dlw_C_3 (i := 48) rfl
theorem d_Law_1153 : decode code 1153 = .ok (.aload_n 0, 1) := zdal_p dlw_C_3 (i := 49) rfl
theorem d_Law_1154 : decode code 1154 = .ok (.iload_n 3, 1) := zdal_p dlw_C_3 (i := 50) rfl
theorem d_Law_1155 : decode code 1155 = .ok (.iconst 4, 1) := zdal_p dlw_C_3 (i := 51) rfl
theorem d_Law_1156 : decode code 1156 = .ok (.iadd, 1) := zdal_p dlw_C_3 (i := 52) rfl
theorem d_Law_1157 : decode code 1157 = .ok (.iaload, 1) := zdal_p dlw_C_3 (i := 53) rfl
theorem d_Law_1158 : decode code 1158 = .ok (.invokevirtual 142, 3) := zdal_p dlw_C_3 (i := 54) rfl
theorem d_Law_1161 : decode code 1161 = .ok (.pop, 1) := zdal_p dlw_C_3 (i := 55) rfl
theorem d_Law_1162 : decode code 1162 = .ok (.goto 348, 3) := zdal_p dlw_C_3 (i := 56) rfl
theorem d_Law_1165 : decode code 1165 = .ok (.aload_n 1, 1) := zdal_p dlw_C_3 (i := 57) rfl
theorem d_Law_1166 : decode code 1166 = .ok (.invokevirtual 143, 3) := zdal_p dlw_C_3 (i := 58) rfl
theorem d_Law_1169 : decode code 1169 = .ok (.pop, 1) := zdal_p dlw_C_3 (i := 59) rfl
theorem d_Law_1170 : decode code 1170 = .ok (.aload_n 2, 1) := zdal_p dlw_C_3 (i := 60) rfl
theorem d_Law_1171 : decode code 1171 = .ok (.invokevirtual 146, 3) := zdal_p dlw_C_3 (i := 61) rfl
theorem d_Law_1174 : decode code 1174 = .ok (.pop, 1) := zdal_p dlw_C_3 (i := 62) rfl
theorem d_Law_1175 : decode code 1175 = .ok (.goto 335, 3) := zdal_p dlw_C_3 (i := 63) rfl
theorem dlw_C_4 : zdal code [(1178, (.aload_n 1, 1)), (1179, (.aload_n 0, 1)), (1180, (.iload_n 3, 1)), (1181, (.iconst 1, 1))] = true := zDs 1178 (by decide +kernel)
theorem d_Law_1178 : decode code 1178 = .ok (.aload_n 1, 1) := zdal_p dlw_C_4 (i := 0) rfl
theorem d_Law_1179 : decode code 1179 = .ok (.aload_n 0, 1) := zdal_p dlw_C_4 (i := 1) rfl
theorem d_Law_1180 : decode code 1180 = .ok (.iload_n 3, 1) := zdal_p dlw_C_4 (i := 2) rfl
theorem d_Law_1181 : decode code 1181 = .ok (.iconst 1, 1) := zdal_p dlw_C_4 (i := 3) rfl
