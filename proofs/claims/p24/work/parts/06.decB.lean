theorem dlB_Group_isCommuting_0 : zdal (zb m_Group_isCommuting) [(0, (.aload_n 0, 1)), (1, (.iload_n 1, 1)), (2, (.invokevirtual 100, 3)), (5, (.iload_n 1, 1)), (6, (.if_icmp .ne 7, 3)), (9, (.iconst 1, 1)), (10, (.goto 4, 3)), (13, (.iconst 0, 1)), (14, (.ireturn, 1))] = true := zDs 0 (by decide +kernel)
theorem d_Group_isCommuting_0 : decode (zb m_Group_isCommuting) 0 = .ok (.aload_n 0, 1) := zdal_p dlB_Group_isCommuting_0 (i := 0) rfl
theorem d_Group_isCommuting_1 : decode (zb m_Group_isCommuting) 1 = .ok (.iload_n 1, 1) := zdal_p dlB_Group_isCommuting_0 (i := 1) rfl
theorem d_Group_isCommuting_2 : decode (zb m_Group_isCommuting) 2 = .ok (.invokevirtual 100, 3) := zdal_p dlB_Group_isCommuting_0 (i := 2) rfl
theorem d_Group_isCommuting_5 : decode (zb m_Group_isCommuting) 5 = .ok (.iload_n 1, 1) := zdal_p dlB_Group_isCommuting_0 (i := 3) rfl
theorem d_Group_isCommuting_6 : decode (zb m_Group_isCommuting) 6 = .ok (.if_icmp .ne 7, 3) := zdal_p dlB_Group_isCommuting_0 (i := 4) rfl
theorem d_Group_isCommuting_9 : decode (zb m_Group_isCommuting) 9 = .ok (.iconst 1, 1) := zdal_p dlB_Group_isCommuting_0 (i := 5) rfl
theorem d_Group_isCommuting_10 : decode (zb m_Group_isCommuting) 10 = .ok (.goto 4, 3) := zdal_p dlB_Group_isCommuting_0 (i := 6) rfl
theorem d_Group_isCommuting_13 : decode (zb m_Group_isCommuting) 13 = .ok (.iconst 0, 1) := zdal_p dlB_Group_isCommuting_0 (i := 7) rfl
theorem d_Group_isCommuting_14 : decode (zb m_Group_isCommuting) 14 = .ok (.ireturn, 1) := zdal_p dlB_Group_isCommuting_0 (i := 8) rfl
theorem dlB_Group_centreOf_1 : zdal (zb m_Group_centreOf) [(0, (.iload_n 1, 1)), (1, (.istore_n 2, 1)), (2, (.iconst 0, 1)), (3, (.istore_n 3, 1)), (4, (.iload_n 3, 1)), (5, (.aload_n 0, 1)), (6, (.getfield 39, 3)), (9, (.if_icmp .ge 26, 3)), (12, (.iload_n 1, 1)), (13, (.iload_n 3, 1)), (14, (.invokestatic 73, 3)), (17, (.ifCond .eq 12, 3)), (20, (.iload_n 2, 1)), (21, (.aload_n 0, 1)), (22, (.iload_n 3, 1)), (23, (.iload_n 1, 1)), (24, (.invokevirtual 97, 3)), (27, (.iand, 1)), (28, (.istore_n 2, 1)), (29, (.iinc 3 1, 3)), (32, (.goto (-28), 3)), (35, (.iload_n 2, 1)), (36, (.ireturn, 1))] = true := zDs 0 (by decide +kernel)
theorem d_Group_centreOf_0 : decode (zb m_Group_centreOf) 0 = .ok (.iload_n 1, 1) := zdal_p dlB_Group_centreOf_1 (i := 0) rfl
theorem d_Group_centreOf_1 : decode (zb m_Group_centreOf) 1 = .ok (.istore_n 2, 1) := zdal_p dlB_Group_centreOf_1 (i := 1) rfl
theorem d_Group_centreOf_2 : decode (zb m_Group_centreOf) 2 = .ok (.iconst 0, 1) := zdal_p dlB_Group_centreOf_1 (i := 2) rfl
theorem d_Group_centreOf_3 : decode (zb m_Group_centreOf) 3 = .ok (.istore_n 3, 1) := zdal_p dlB_Group_centreOf_1 (i := 3) rfl
theorem d_Group_centreOf_4 : decode (zb m_Group_centreOf) 4 = .ok (.iload_n 3, 1) := zdal_p dlB_Group_centreOf_1 (i := 4) rfl
theorem d_Group_centreOf_5 : decode (zb m_Group_centreOf) 5 = .ok (.aload_n 0, 1) := zdal_p dlB_Group_centreOf_1 (i := 5) rfl
theorem d_Group_centreOf_6 : decode (zb m_Group_centreOf) 6 = .ok (.getfield 39, 3) := zdal_p dlB_Group_centreOf_1 (i := 6) rfl
theorem d_Group_centreOf_9 : decode (zb m_Group_centreOf) 9 = .ok (.if_icmp .ge 26, 3) := zdal_p dlB_Group_centreOf_1 (i := 7) rfl
theorem d_Group_centreOf_12 : decode (zb m_Group_centreOf) 12 = .ok (.iload_n 1, 1) := zdal_p dlB_Group_centreOf_1 (i := 8) rfl
theorem d_Group_centreOf_13 : decode (zb m_Group_centreOf) 13 = .ok (.iload_n 3, 1) := zdal_p dlB_Group_centreOf_1 (i := 9) rfl
theorem d_Group_centreOf_14 : decode (zb m_Group_centreOf) 14 = .ok (.invokestatic 73, 3) := zdal_p dlB_Group_centreOf_1 (i := 10) rfl
theorem d_Group_centreOf_17 : decode (zb m_Group_centreOf) 17 = .ok (.ifCond .eq 12, 3) := zdal_p dlB_Group_centreOf_1 (i := 11) rfl
theorem d_Group_centreOf_20 : decode (zb m_Group_centreOf) 20 = .ok (.iload_n 2, 1) := zdal_p dlB_Group_centreOf_1 (i := 12) rfl
theorem d_Group_centreOf_21 : decode (zb m_Group_centreOf) 21 = .ok (.aload_n 0, 1) := zdal_p dlB_Group_centreOf_1 (i := 13) rfl
theorem d_Group_centreOf_22 : decode (zb m_Group_centreOf) 22 = .ok (.iload_n 3, 1) := zdal_p dlB_Group_centreOf_1 (i := 14) rfl
theorem d_Group_centreOf_23 : decode (zb m_Group_centreOf) 23 = .ok (.iload_n 1, 1) := zdal_p dlB_Group_centreOf_1 (i := 15) rfl
theorem d_Group_centreOf_24 : decode (zb m_Group_centreOf) 24 = .ok (.invokevirtual 97, 3) := zdal_p dlB_Group_centreOf_1 (i := 16) rfl
theorem d_Group_centreOf_27 : decode (zb m_Group_centreOf) 27 = .ok (.iand, 1) := zdal_p dlB_Group_centreOf_1 (i := 17) rfl
theorem d_Group_centreOf_28 : decode (zb m_Group_centreOf) 28 = .ok (.istore_n 2, 1) := zdal_p dlB_Group_centreOf_1 (i := 18) rfl
theorem d_Group_centreOf_29 : decode (zb m_Group_centreOf) 29 = .ok (.iinc 3 1, 3) := zdal_p dlB_Group_centreOf_1 (i := 19) rfl
theorem d_Group_centreOf_32 : decode (zb m_Group_centreOf) 32 = .ok (.goto (-28), 3) := zdal_p dlB_Group_centreOf_1 (i := 20) rfl
theorem d_Group_centreOf_35 : decode (zb m_Group_centreOf) 35 = .ok (.iload_n 2, 1) := zdal_p dlB_Group_centreOf_1 (i := 21) rfl
theorem d_Group_centreOf_36 : decode (zb m_Group_centreOf) 36 = .ok (.ireturn, 1) := zdal_p dlB_Group_centreOf_1 (i := 22) rfl
theorem dlB_Group_commutingWith_2 : zdal (zb m_Group_commutingWith) [(0, (.iconst 0, 1)), (1, (.istore_n 3, 1)), (2, (.iconst 0, 1)), (3, (.istore 4, 2)), (5, (.iload 4, 2)), (7, (.aload_n 0, 1)), (8, (.getfield 39, 3)), (11, (.if_icmp .ge 42, 3)), (14, (.iload_n 2, 1)), (15, (.iload 4, 2)), (17, (.invokestatic 73, 3)), (20, (.ifCond .eq 27, 3)), (23, (.aload_n 0, 1)), (24, (.iload_n 1, 1)), (25, (.iload 4, 2)), (27, (.invokevirtual 67, 3)), (30, (.aload_n 0, 1)), (31, (.iload 4, 2)), (33, (.iload_n 1, 1)), (34, (.invokevirtual 67, 3)), (37, (.if_icmp .ne 10, 3)), (40, (.iload_n 3, 1)), (41, (.iconst 1, 1)), (42, (.iload 4, 2))] = true := zDs 0 (by decide +kernel)
theorem d_Group_commutingWith_0 : decode (zb m_Group_commutingWith) 0 = .ok (.iconst 0, 1) := zdal_p dlB_Group_commutingWith_2 (i := 0) rfl
theorem d_Group_commutingWith_1 : decode (zb m_Group_commutingWith) 1 = .ok (.istore_n 3, 1) := zdal_p dlB_Group_commutingWith_2 (i := 1) rfl
theorem d_Group_commutingWith_2 : decode (zb m_Group_commutingWith) 2 = .ok (.iconst 0, 1) := zdal_p dlB_Group_commutingWith_2 (i := 2) rfl
theorem d_Group_commutingWith_3 : decode (zb m_Group_commutingWith) 3 = .ok (.istore 4, 2) := zdal_p dlB_Group_commutingWith_2 (i := 3) rfl
theorem d_Group_commutingWith_5 : decode (zb m_Group_commutingWith) 5 = .ok (.iload 4, 2) := zdal_p dlB_Group_commutingWith_2 (i := 4) rfl
theorem d_Group_commutingWith_7 : decode (zb m_Group_commutingWith) 7 = .ok (.aload_n 0, 1) := zdal_p dlB_Group_commutingWith_2 (i := 5) rfl
theorem d_Group_commutingWith_8 : decode (zb m_Group_commutingWith) 8 = .ok (.getfield 39, 3) := zdal_p dlB_Group_commutingWith_2 (i := 6) rfl
theorem d_Group_commutingWith_11 : decode (zb m_Group_commutingWith) 11 = .ok (.if_icmp .ge 42, 3) := zdal_p dlB_Group_commutingWith_2 (i := 7) rfl
theorem d_Group_commutingWith_14 : decode (zb m_Group_commutingWith) 14 = .ok (.iload_n 2, 1) := zdal_p dlB_Group_commutingWith_2 (i := 8) rfl
theorem d_Group_commutingWith_15 : decode (zb m_Group_commutingWith) 15 = .ok (.iload 4, 2) := zdal_p dlB_Group_commutingWith_2 (i := 9) rfl
theorem d_Group_commutingWith_17 : decode (zb m_Group_commutingWith) 17 = .ok (.invokestatic 73, 3) := zdal_p dlB_Group_commutingWith_2 (i := 10) rfl
theorem d_Group_commutingWith_20 : decode (zb m_Group_commutingWith) 20 = .ok (.ifCond .eq 27, 3) := zdal_p dlB_Group_commutingWith_2 (i := 11) rfl
theorem d_Group_commutingWith_23 : decode (zb m_Group_commutingWith) 23 = .ok (.aload_n 0, 1) := zdal_p dlB_Group_commutingWith_2 (i := 12) rfl
theorem d_Group_commutingWith_24 : decode (zb m_Group_commutingWith) 24 = .ok (.iload_n 1, 1) := zdal_p dlB_Group_commutingWith_2 (i := 13) rfl
theorem d_Group_commutingWith_25 : decode (zb m_Group_commutingWith) 25 = .ok (.iload 4, 2) := zdal_p dlB_Group_commutingWith_2 (i := 14) rfl
theorem d_Group_commutingWith_27 : decode (zb m_Group_commutingWith) 27 = .ok (.invokevirtual 67, 3) := zdal_p dlB_Group_commutingWith_2 (i := 15) rfl
theorem d_Group_commutingWith_30 : decode (zb m_Group_commutingWith) 30 = .ok (.aload_n 0, 1) := zdal_p dlB_Group_commutingWith_2 (i := 16) rfl
theorem d_Group_commutingWith_31 : decode (zb m_Group_commutingWith) 31 = .ok (.iload 4, 2) := zdal_p dlB_Group_commutingWith_2 (i := 17) rfl
theorem d_Group_commutingWith_33 : decode (zb m_Group_commutingWith) 33 = .ok (.iload_n 1, 1) := zdal_p dlB_Group_commutingWith_2 (i := 18) rfl
theorem d_Group_commutingWith_34 : decode (zb m_Group_commutingWith) 34 = .ok (.invokevirtual 67, 3) := zdal_p dlB_Group_commutingWith_2 (i := 19) rfl
theorem d_Group_commutingWith_37 : decode (zb m_Group_commutingWith) 37 = .ok (.if_icmp .ne 10, 3) := zdal_p dlB_Group_commutingWith_2 (i := 20) rfl
theorem d_Group_commutingWith_40 : decode (zb m_Group_commutingWith) 40 = .ok (.iload_n 3, 1) := zdal_p dlB_Group_commutingWith_2 (i := 21) rfl
theorem d_Group_commutingWith_41 : decode (zb m_Group_commutingWith) 41 = .ok (.iconst 1, 1) := zdal_p dlB_Group_commutingWith_2 (i := 22) rfl
theorem d_Group_commutingWith_42 : decode (zb m_Group_commutingWith) 42 = .ok (.iload 4, 2) := zdal_p dlB_Group_commutingWith_2 (i := 23) rfl
theorem dlB_Group_commutingWith_3 : zdal (zb m_Group_commutingWith) [(44, (.ishl, 1)), (45, (.ior, 1)), (46, (.istore_n 3, 1)), (47, (.iinc 4 1, 3)), (50, (.goto (-45), 3)), (53, (.iload_n 3, 1)), (54, (.ireturn, 1))] = true := zDs 44 (by decide +kernel)
theorem d_Group_commutingWith_44 : decode (zb m_Group_commutingWith) 44 = .ok (.ishl, 1) := zdal_p dlB_Group_commutingWith_3 (i := 0) rfl
theorem d_Group_commutingWith_45 : decode (zb m_Group_commutingWith) 45 = .ok (.ior, 1) := zdal_p dlB_Group_commutingWith_3 (i := 1) rfl
theorem d_Group_commutingWith_46 : decode (zb m_Group_commutingWith) 46 = .ok (.istore_n 3, 1) := zdal_p dlB_Group_commutingWith_3 (i := 2) rfl
theorem d_Group_commutingWith_47 : decode (zb m_Group_commutingWith) 47 = .ok (.iinc 4 1, 3) := zdal_p dlB_Group_commutingWith_3 (i := 3) rfl
theorem d_Group_commutingWith_50 : decode (zb m_Group_commutingWith) 50 = .ok (.goto (-45), 3) := zdal_p dlB_Group_commutingWith_3 (i := 4) rfl
theorem d_Group_commutingWith_53 : decode (zb m_Group_commutingWith) 53 = .ok (.iload_n 3, 1) := zdal_p dlB_Group_commutingWith_3 (i := 5) rfl
theorem d_Group_commutingWith_54 : decode (zb m_Group_commutingWith) 54 = .ok (.ireturn, 1) := zdal_p dlB_Group_commutingWith_3 (i := 6) rfl
theorem dlB_T_moves_4 : zdal (zb m_T_moves) [(0, (.aload_n 0, 1)), (1, (.getfield 28, 3)), (4, (.getfield 61, 3)), (7, (.astore_n 3, 1)), (8, (.aload_n 3, 1)), (9, (.iload_n 1, 1)), (10, (.invokevirtual 108, 3)), (13, (.ifCond .eq 26, 3)), (16, (.aload_n 3, 1)), (17, (.iload_n 2, 1)), (18, (.invokevirtual 111, 3)), (21, (.ifCond .eq 18, 3)), (24, (.aload_n 3, 1)), (25, (.getfield 114, 3)), (28, (.iload_n 1, 1)), (29, (.invokevirtual 118, 3)), (32, (.iload_n 2, 1)), (33, (.invokestatic 124, 3)), (36, (.goto 4, 3)), (39, (.iconst (-1), 1)), (40, (.ireturn, 1))] = true := zDs 0 (by decide +kernel)
theorem d_T_moves_0 : decode (zb m_T_moves) 0 = .ok (.aload_n 0, 1) := zdal_p dlB_T_moves_4 (i := 0) rfl
theorem d_T_moves_1 : decode (zb m_T_moves) 1 = .ok (.getfield 28, 3) := zdal_p dlB_T_moves_4 (i := 1) rfl
theorem d_T_moves_4 : decode (zb m_T_moves) 4 = .ok (.getfield 61, 3) := zdal_p dlB_T_moves_4 (i := 2) rfl
theorem d_T_moves_7 : decode (zb m_T_moves) 7 = .ok (.astore_n 3, 1) := zdal_p dlB_T_moves_4 (i := 3) rfl
theorem d_T_moves_8 : decode (zb m_T_moves) 8 = .ok (.aload_n 3, 1) := zdal_p dlB_T_moves_4 (i := 4) rfl
theorem d_T_moves_9 : decode (zb m_T_moves) 9 = .ok (.iload_n 1, 1) := zdal_p dlB_T_moves_4 (i := 5) rfl
theorem d_T_moves_10 : decode (zb m_T_moves) 10 = .ok (.invokevirtual 108, 3) := zdal_p dlB_T_moves_4 (i := 6) rfl
theorem d_T_moves_13 : decode (zb m_T_moves) 13 = .ok (.ifCond .eq 26, 3) := zdal_p dlB_T_moves_4 (i := 7) rfl
theorem d_T_moves_16 : decode (zb m_T_moves) 16 = .ok (.aload_n 3, 1) := zdal_p dlB_T_moves_4 (i := 8) rfl
theorem d_T_moves_17 : decode (zb m_T_moves) 17 = .ok (.iload_n 2, 1) := zdal_p dlB_T_moves_4 (i := 9) rfl
theorem d_T_moves_18 : decode (zb m_T_moves) 18 = .ok (.invokevirtual 111, 3) := zdal_p dlB_T_moves_4 (i := 10) rfl
theorem d_T_moves_21 : decode (zb m_T_moves) 21 = .ok (.ifCond .eq 18, 3) := zdal_p dlB_T_moves_4 (i := 11) rfl
theorem d_T_moves_24 : decode (zb m_T_moves) 24 = .ok (.aload_n 3, 1) := zdal_p dlB_T_moves_4 (i := 12) rfl
theorem d_T_moves_25 : decode (zb m_T_moves) 25 = .ok (.getfield 114, 3) := zdal_p dlB_T_moves_4 (i := 13) rfl
theorem d_T_moves_28 : decode (zb m_T_moves) 28 = .ok (.iload_n 1, 1) := zdal_p dlB_T_moves_4 (i := 14) rfl
theorem d_T_moves_29 : decode (zb m_T_moves) 29 = .ok (.invokevirtual 118, 3) := zdal_p dlB_T_moves_4 (i := 15) rfl
theorem d_T_moves_32 : decode (zb m_T_moves) 32 = .ok (.iload_n 2, 1) := zdal_p dlB_T_moves_4 (i := 16) rfl
theorem d_T_moves_33 : decode (zb m_T_moves) 33 = .ok (.invokestatic 124, 3) := zdal_p dlB_T_moves_4 (i := 17) rfl
theorem d_T_moves_36 : decode (zb m_T_moves) 36 = .ok (.goto 4, 3) := zdal_p dlB_T_moves_4 (i := 18) rfl
theorem d_T_moves_39 : decode (zb m_T_moves) 39 = .ok (.iconst (-1), 1) := zdal_p dlB_T_moves_4 (i := 19) rfl
theorem d_T_moves_40 : decode (zb m_T_moves) 40 = .ok (.ireturn, 1) := zdal_p dlB_T_moves_4 (i := 20) rfl
theorem dlB_Group_hasMember_5 : zdal (zb m_Group_hasMember) [(0, (.iload_n 1, 1)), (1, (.ifCond .lt 15, 3)), (4, (.iload_n 1, 1)), (5, (.aload_n 0, 1)), (6, (.getfield 39, 3)), (9, (.if_icmp .ge 7, 3)), (12, (.iconst 1, 1)), (13, (.goto 4, 3)), (16, (.iconst 0, 1)), (17, (.ireturn, 1))] = true := zDs 0 (by decide +kernel)
theorem d_Group_hasMember_0 : decode (zb m_Group_hasMember) 0 = .ok (.iload_n 1, 1) := zdal_p dlB_Group_hasMember_5 (i := 0) rfl
theorem d_Group_hasMember_1 : decode (zb m_Group_hasMember) 1 = .ok (.ifCond .lt 15, 3) := zdal_p dlB_Group_hasMember_5 (i := 1) rfl
theorem d_Group_hasMember_4 : decode (zb m_Group_hasMember) 4 = .ok (.iload_n 1, 1) := zdal_p dlB_Group_hasMember_5 (i := 2) rfl
theorem d_Group_hasMember_5 : decode (zb m_Group_hasMember) 5 = .ok (.aload_n 0, 1) := zdal_p dlB_Group_hasMember_5 (i := 3) rfl
theorem d_Group_hasMember_6 : decode (zb m_Group_hasMember) 6 = .ok (.getfield 39, 3) := zdal_p dlB_Group_hasMember_5 (i := 4) rfl
theorem d_Group_hasMember_9 : decode (zb m_Group_hasMember) 9 = .ok (.if_icmp .ge 7, 3) := zdal_p dlB_Group_hasMember_5 (i := 5) rfl
theorem d_Group_hasMember_12 : decode (zb m_Group_hasMember) 12 = .ok (.iconst 1, 1) := zdal_p dlB_Group_hasMember_5 (i := 6) rfl
theorem d_Group_hasMember_13 : decode (zb m_Group_hasMember) 13 = .ok (.goto 4, 3) := zdal_p dlB_Group_hasMember_5 (i := 7) rfl
theorem d_Group_hasMember_16 : decode (zb m_Group_hasMember) 16 = .ok (.iconst 0, 1) := zdal_p dlB_Group_hasMember_5 (i := 8) rfl
theorem d_Group_hasMember_17 : decode (zb m_Group_hasMember) 17 = .ok (.ireturn, 1) := zdal_p dlB_Group_hasMember_5 (i := 9) rfl
theorem dlB_Group_hasPlace_6 : zdal (zb m_Group_hasPlace) [(0, (.iload_n 1, 1)), (1, (.ifCond .lt 15, 3)), (4, (.iload_n 1, 1)), (5, (.aload_n 0, 1)), (6, (.getfield 32, 3)), (9, (.if_icmp .ge 7, 3)), (12, (.iconst 1, 1)), (13, (.goto 4, 3)), (16, (.iconst 0, 1)), (17, (.ireturn, 1))] = true := zDs 0 (by decide +kernel)
theorem d_Group_hasPlace_0 : decode (zb m_Group_hasPlace) 0 = .ok (.iload_n 1, 1) := zdal_p dlB_Group_hasPlace_6 (i := 0) rfl
theorem d_Group_hasPlace_1 : decode (zb m_Group_hasPlace) 1 = .ok (.ifCond .lt 15, 3) := zdal_p dlB_Group_hasPlace_6 (i := 1) rfl
theorem d_Group_hasPlace_4 : decode (zb m_Group_hasPlace) 4 = .ok (.iload_n 1, 1) := zdal_p dlB_Group_hasPlace_6 (i := 2) rfl
theorem d_Group_hasPlace_5 : decode (zb m_Group_hasPlace) 5 = .ok (.aload_n 0, 1) := zdal_p dlB_Group_hasPlace_6 (i := 3) rfl
theorem d_Group_hasPlace_6 : decode (zb m_Group_hasPlace) 6 = .ok (.getfield 32, 3) := zdal_p dlB_Group_hasPlace_6 (i := 4) rfl
theorem d_Group_hasPlace_9 : decode (zb m_Group_hasPlace) 9 = .ok (.if_icmp .ge 7, 3) := zdal_p dlB_Group_hasPlace_6 (i := 5) rfl
theorem d_Group_hasPlace_12 : decode (zb m_Group_hasPlace) 12 = .ok (.iconst 1, 1) := zdal_p dlB_Group_hasPlace_6 (i := 6) rfl
theorem d_Group_hasPlace_13 : decode (zb m_Group_hasPlace) 13 = .ok (.goto 4, 3) := zdal_p dlB_Group_hasPlace_6 (i := 7) rfl
theorem d_Group_hasPlace_16 : decode (zb m_Group_hasPlace) 16 = .ok (.iconst 0, 1) := zdal_p dlB_Group_hasPlace_6 (i := 8) rfl
theorem d_Group_hasPlace_17 : decode (zb m_Group_hasPlace) 17 = .ok (.ireturn, 1) := zdal_p dlB_Group_hasPlace_6 (i := 9) rfl
theorem dlB_T_times_7 : zdal (zb m_T_times) [(0, (.aload_n 0, 1)), (1, (.getfield 28, 3)), (4, (.getfield 61, 3)), (7, (.iload_n 1, 1)), (8, (.invokevirtual 108, 3)), (11, (.ifCond .eq 32, 3)), (14, (.aload_n 0, 1)), (15, (.getfield 28, 3)), (18, (.getfield 61, 3)), (21, (.iload_n 2, 1)), (22, (.invokevirtual 108, 3)), (25, (.ifCond .eq 18, 3)), (28, (.aload_n 0, 1)), (29, (.getfield 28, 3)), (32, (.getfield 61, 3)), (35, (.iload_n 1, 1)), (36, (.iload_n 2, 1)), (37, (.invokevirtual 128, 3)), (40, (.goto 4, 3)), (43, (.iconst (-1), 1)), (44, (.ireturn, 1))] = true := zDs 0 (by decide +kernel)
theorem d_T_times_0 : decode (zb m_T_times) 0 = .ok (.aload_n 0, 1) := zdal_p dlB_T_times_7 (i := 0) rfl
theorem d_T_times_1 : decode (zb m_T_times) 1 = .ok (.getfield 28, 3) := zdal_p dlB_T_times_7 (i := 1) rfl
theorem d_T_times_4 : decode (zb m_T_times) 4 = .ok (.getfield 61, 3) := zdal_p dlB_T_times_7 (i := 2) rfl
theorem d_T_times_7 : decode (zb m_T_times) 7 = .ok (.iload_n 1, 1) := zdal_p dlB_T_times_7 (i := 3) rfl
theorem d_T_times_8 : decode (zb m_T_times) 8 = .ok (.invokevirtual 108, 3) := zdal_p dlB_T_times_7 (i := 4) rfl
theorem d_T_times_11 : decode (zb m_T_times) 11 = .ok (.ifCond .eq 32, 3) := zdal_p dlB_T_times_7 (i := 5) rfl
theorem d_T_times_14 : decode (zb m_T_times) 14 = .ok (.aload_n 0, 1) := zdal_p dlB_T_times_7 (i := 6) rfl
theorem d_T_times_15 : decode (zb m_T_times) 15 = .ok (.getfield 28, 3) := zdal_p dlB_T_times_7 (i := 7) rfl
theorem d_T_times_18 : decode (zb m_T_times) 18 = .ok (.getfield 61, 3) := zdal_p dlB_T_times_7 (i := 8) rfl
theorem d_T_times_21 : decode (zb m_T_times) 21 = .ok (.iload_n 2, 1) := zdal_p dlB_T_times_7 (i := 9) rfl
theorem d_T_times_22 : decode (zb m_T_times) 22 = .ok (.invokevirtual 108, 3) := zdal_p dlB_T_times_7 (i := 10) rfl
theorem d_T_times_25 : decode (zb m_T_times) 25 = .ok (.ifCond .eq 18, 3) := zdal_p dlB_T_times_7 (i := 11) rfl
theorem d_T_times_28 : decode (zb m_T_times) 28 = .ok (.aload_n 0, 1) := zdal_p dlB_T_times_7 (i := 12) rfl
theorem d_T_times_29 : decode (zb m_T_times) 29 = .ok (.getfield 28, 3) := zdal_p dlB_T_times_7 (i := 13) rfl
theorem d_T_times_32 : decode (zb m_T_times) 32 = .ok (.getfield 61, 3) := zdal_p dlB_T_times_7 (i := 14) rfl
theorem d_T_times_35 : decode (zb m_T_times) 35 = .ok (.iload_n 1, 1) := zdal_p dlB_T_times_7 (i := 15) rfl
theorem d_T_times_36 : decode (zb m_T_times) 36 = .ok (.iload_n 2, 1) := zdal_p dlB_T_times_7 (i := 16) rfl
theorem d_T_times_37 : decode (zb m_T_times) 37 = .ok (.invokevirtual 128, 3) := zdal_p dlB_T_times_7 (i := 17) rfl
theorem d_T_times_40 : decode (zb m_T_times) 40 = .ok (.goto 4, 3) := zdal_p dlB_T_times_7 (i := 18) rfl
theorem d_T_times_43 : decode (zb m_T_times) 43 = .ok (.iconst (-1), 1) := zdal_p dlB_T_times_7 (i := 19) rfl
theorem d_T_times_44 : decode (zb m_T_times) 44 = .ok (.ireturn, 1) := zdal_p dlB_T_times_7 (i := 20) rfl
theorem dlB_T_order_8 : zdal (zb m_T_order) [(0, (.aload_n 0, 1)), (1, (.getfield 28, 3)), (4, (.getfield 61, 3)), (7, (.iload_n 1, 1)), (8, (.invokevirtual 108, 3)), (11, (.ifCond .eq 17, 3)), (14, (.aload_n 0, 1)), (15, (.getfield 28, 3)), (18, (.getfield 61, 3)), (21, (.iload_n 1, 1)), (22, (.invokevirtual 131, 3)), (25, (.goto 4, 3)), (28, (.iconst (-1), 1)), (29, (.ireturn, 1))] = true := zDs 0 (by decide +kernel)
theorem d_T_order_0 : decode (zb m_T_order) 0 = .ok (.aload_n 0, 1) := zdal_p dlB_T_order_8 (i := 0) rfl
theorem d_T_order_1 : decode (zb m_T_order) 1 = .ok (.getfield 28, 3) := zdal_p dlB_T_order_8 (i := 1) rfl
theorem d_T_order_4 : decode (zb m_T_order) 4 = .ok (.getfield 61, 3) := zdal_p dlB_T_order_8 (i := 2) rfl
theorem d_T_order_7 : decode (zb m_T_order) 7 = .ok (.iload_n 1, 1) := zdal_p dlB_T_order_8 (i := 3) rfl
theorem d_T_order_8 : decode (zb m_T_order) 8 = .ok (.invokevirtual 108, 3) := zdal_p dlB_T_order_8 (i := 4) rfl
theorem d_T_order_11 : decode (zb m_T_order) 11 = .ok (.ifCond .eq 17, 3) := zdal_p dlB_T_order_8 (i := 5) rfl
theorem d_T_order_14 : decode (zb m_T_order) 14 = .ok (.aload_n 0, 1) := zdal_p dlB_T_order_8 (i := 6) rfl
theorem d_T_order_15 : decode (zb m_T_order) 15 = .ok (.getfield 28, 3) := zdal_p dlB_T_order_8 (i := 7) rfl
theorem d_T_order_18 : decode (zb m_T_order) 18 = .ok (.getfield 61, 3) := zdal_p dlB_T_order_8 (i := 8) rfl
theorem d_T_order_21 : decode (zb m_T_order) 21 = .ok (.iload_n 1, 1) := zdal_p dlB_T_order_8 (i := 9) rfl
theorem d_T_order_22 : decode (zb m_T_order) 22 = .ok (.invokevirtual 131, 3) := zdal_p dlB_T_order_8 (i := 10) rfl
theorem d_T_order_25 : decode (zb m_T_order) 25 = .ok (.goto 4, 3) := zdal_p dlB_T_order_8 (i := 11) rfl
theorem d_T_order_28 : decode (zb m_T_order) 28 = .ok (.iconst (-1), 1) := zdal_p dlB_T_order_8 (i := 12) rfl
theorem d_T_order_29 : decode (zb m_T_order) 29 = .ok (.ireturn, 1) := zdal_p dlB_T_order_8 (i := 13) rfl
theorem dlB_Group_repeatsOf_9 : zdal (zb m_Group_repeatsOf) [(0, (.iload_n 1, 1)), (1, (.istore_n 2, 1)), (2, (.iconst 1, 1)), (3, (.istore_n 3, 1)), (4, (.iload_n 2, 1)), (5, (.ifCond .eq 22, 3)), (8, (.iload_n 3, 1)), (9, (.bipush 24, 2)), (11, (.if_icmp .ge 16, 3)), (14, (.aload_n 0, 1)), (15, (.iload_n 2, 1)), (16, (.iload_n 1, 1)), (17, (.invokevirtual 67, 3)), (20, (.istore_n 2, 1)), (21, (.iinc 3 1, 3)), (24, (.goto (-20), 3)), (27, (.iload_n 3, 1)), (28, (.ireturn, 1))] = true := zDs 0 (by decide +kernel)
theorem d_Group_repeatsOf_0 : decode (zb m_Group_repeatsOf) 0 = .ok (.iload_n 1, 1) := zdal_p dlB_Group_repeatsOf_9 (i := 0) rfl
theorem d_Group_repeatsOf_1 : decode (zb m_Group_repeatsOf) 1 = .ok (.istore_n 2, 1) := zdal_p dlB_Group_repeatsOf_9 (i := 1) rfl
theorem d_Group_repeatsOf_2 : decode (zb m_Group_repeatsOf) 2 = .ok (.iconst 1, 1) := zdal_p dlB_Group_repeatsOf_9 (i := 2) rfl
theorem d_Group_repeatsOf_3 : decode (zb m_Group_repeatsOf) 3 = .ok (.istore_n 3, 1) := zdal_p dlB_Group_repeatsOf_9 (i := 3) rfl
theorem d_Group_repeatsOf_4 : decode (zb m_Group_repeatsOf) 4 = .ok (.iload_n 2, 1) := zdal_p dlB_Group_repeatsOf_9 (i := 4) rfl
theorem d_Group_repeatsOf_5 : decode (zb m_Group_repeatsOf) 5 = .ok (.ifCond .eq 22, 3) := zdal_p dlB_Group_repeatsOf_9 (i := 5) rfl
theorem d_Group_repeatsOf_8 : decode (zb m_Group_repeatsOf) 8 = .ok (.iload_n 3, 1) := zdal_p dlB_Group_repeatsOf_9 (i := 6) rfl
theorem d_Group_repeatsOf_9 : decode (zb m_Group_repeatsOf) 9 = .ok (.bipush 24, 2) := zdal_p dlB_Group_repeatsOf_9 (i := 7) rfl
theorem d_Group_repeatsOf_11 : decode (zb m_Group_repeatsOf) 11 = .ok (.if_icmp .ge 16, 3) := zdal_p dlB_Group_repeatsOf_9 (i := 8) rfl
theorem d_Group_repeatsOf_14 : decode (zb m_Group_repeatsOf) 14 = .ok (.aload_n 0, 1) := zdal_p dlB_Group_repeatsOf_9 (i := 9) rfl
theorem d_Group_repeatsOf_15 : decode (zb m_Group_repeatsOf) 15 = .ok (.iload_n 2, 1) := zdal_p dlB_Group_repeatsOf_9 (i := 10) rfl
theorem d_Group_repeatsOf_16 : decode (zb m_Group_repeatsOf) 16 = .ok (.iload_n 1, 1) := zdal_p dlB_Group_repeatsOf_9 (i := 11) rfl
theorem d_Group_repeatsOf_17 : decode (zb m_Group_repeatsOf) 17 = .ok (.invokevirtual 67, 3) := zdal_p dlB_Group_repeatsOf_9 (i := 12) rfl
theorem d_Group_repeatsOf_20 : decode (zb m_Group_repeatsOf) 20 = .ok (.istore_n 2, 1) := zdal_p dlB_Group_repeatsOf_9 (i := 13) rfl
theorem d_Group_repeatsOf_21 : decode (zb m_Group_repeatsOf) 21 = .ok (.iinc 3 1, 3) := zdal_p dlB_Group_repeatsOf_9 (i := 14) rfl
theorem d_Group_repeatsOf_24 : decode (zb m_Group_repeatsOf) 24 = .ok (.goto (-20), 3) := zdal_p dlB_Group_repeatsOf_9 (i := 15) rfl
theorem d_Group_repeatsOf_27 : decode (zb m_Group_repeatsOf) 27 = .ok (.iload_n 3, 1) := zdal_p dlB_Group_repeatsOf_9 (i := 16) rfl
theorem d_Group_repeatsOf_28 : decode (zb m_Group_repeatsOf) 28 = .ok (.ireturn, 1) := zdal_p dlB_Group_repeatsOf_9 (i := 17) rfl
theorem dlB_T_makesOf_10 : zdal (zb m_T_makesOf) [(0, (.aload_n 0, 1)), (1, (.getfield 28, 3)), (4, (.getfield 61, 3)), (7, (.iload_n 1, 1)), (8, (.invokevirtual 134, 3)), (11, (.ifCond .eq 17, 3)), (14, (.aload_n 0, 1)), (15, (.getfield 28, 3)), (18, (.getfield 61, 3)), (21, (.iload_n 1, 1)), (22, (.invokevirtual 137, 3)), (25, (.goto 4, 3)), (28, (.iconst (-1), 1)), (29, (.ireturn, 1))] = true := zDs 0 (by decide +kernel)
theorem d_T_makesOf_0 : decode (zb m_T_makesOf) 0 = .ok (.aload_n 0, 1) := zdal_p dlB_T_makesOf_10 (i := 0) rfl
theorem d_T_makesOf_1 : decode (zb m_T_makesOf) 1 = .ok (.getfield 28, 3) := zdal_p dlB_T_makesOf_10 (i := 1) rfl
theorem d_T_makesOf_4 : decode (zb m_T_makesOf) 4 = .ok (.getfield 61, 3) := zdal_p dlB_T_makesOf_10 (i := 2) rfl
theorem d_T_makesOf_7 : decode (zb m_T_makesOf) 7 = .ok (.iload_n 1, 1) := zdal_p dlB_T_makesOf_10 (i := 3) rfl
theorem d_T_makesOf_8 : decode (zb m_T_makesOf) 8 = .ok (.invokevirtual 134, 3) := zdal_p dlB_T_makesOf_10 (i := 4) rfl
theorem d_T_makesOf_11 : decode (zb m_T_makesOf) 11 = .ok (.ifCond .eq 17, 3) := zdal_p dlB_T_makesOf_10 (i := 5) rfl
theorem d_T_makesOf_14 : decode (zb m_T_makesOf) 14 = .ok (.aload_n 0, 1) := zdal_p dlB_T_makesOf_10 (i := 6) rfl
theorem d_T_makesOf_15 : decode (zb m_T_makesOf) 15 = .ok (.getfield 28, 3) := zdal_p dlB_T_makesOf_10 (i := 7) rfl
theorem d_T_makesOf_18 : decode (zb m_T_makesOf) 18 = .ok (.getfield 61, 3) := zdal_p dlB_T_makesOf_10 (i := 8) rfl
theorem d_T_makesOf_21 : decode (zb m_T_makesOf) 21 = .ok (.iload_n 1, 1) := zdal_p dlB_T_makesOf_10 (i := 9) rfl
theorem d_T_makesOf_22 : decode (zb m_T_makesOf) 22 = .ok (.invokevirtual 137, 3) := zdal_p dlB_T_makesOf_10 (i := 10) rfl
theorem d_T_makesOf_25 : decode (zb m_T_makesOf) 25 = .ok (.goto 4, 3) := zdal_p dlB_T_makesOf_10 (i := 11) rfl
theorem d_T_makesOf_28 : decode (zb m_T_makesOf) 28 = .ok (.iconst (-1), 1) := zdal_p dlB_T_makesOf_10 (i := 12) rfl
theorem d_T_makesOf_29 : decode (zb m_T_makesOf) 29 = .ok (.ireturn, 1) := zdal_p dlB_T_makesOf_10 (i := 13) rfl
theorem dlB_Group_hasMembers_11 : zdal (zb m_Group_hasMembers) [(0, (.iload_n 1, 1)), (1, (.aload_n 0, 1)), (2, (.getfield 39, 3)), (5, (.iushr, 1)), (6, (.ifCond .ne 7, 3)), (9, (.iconst 1, 1)), (10, (.goto 4, 3)), (13, (.iconst 0, 1)), (14, (.ireturn, 1))] = true := zDs 0 (by decide +kernel)
theorem d_Group_hasMembers_0 : decode (zb m_Group_hasMembers) 0 = .ok (.iload_n 1, 1) := zdal_p dlB_Group_hasMembers_11 (i := 0) rfl
theorem d_Group_hasMembers_1 : decode (zb m_Group_hasMembers) 1 = .ok (.aload_n 0, 1) := zdal_p dlB_Group_hasMembers_11 (i := 1) rfl
theorem d_Group_hasMembers_2 : decode (zb m_Group_hasMembers) 2 = .ok (.getfield 39, 3) := zdal_p dlB_Group_hasMembers_11 (i := 2) rfl
theorem d_Group_hasMembers_5 : decode (zb m_Group_hasMembers) 5 = .ok (.iushr, 1) := zdal_p dlB_Group_hasMembers_11 (i := 3) rfl
theorem d_Group_hasMembers_6 : decode (zb m_Group_hasMembers) 6 = .ok (.ifCond .ne 7, 3) := zdal_p dlB_Group_hasMembers_11 (i := 4) rfl
theorem d_Group_hasMembers_9 : decode (zb m_Group_hasMembers) 9 = .ok (.iconst 1, 1) := zdal_p dlB_Group_hasMembers_11 (i := 5) rfl
theorem d_Group_hasMembers_10 : decode (zb m_Group_hasMembers) 10 = .ok (.goto 4, 3) := zdal_p dlB_Group_hasMembers_11 (i := 6) rfl
theorem d_Group_hasMembers_13 : decode (zb m_Group_hasMembers) 13 = .ok (.iconst 0, 1) := zdal_p dlB_Group_hasMembers_11 (i := 7) rfl
theorem d_Group_hasMembers_14 : decode (zb m_Group_hasMembers) 14 = .ok (.ireturn, 1) := zdal_p dlB_Group_hasMembers_11 (i := 8) rfl
theorem dlB_T_sortOf_12 : zdal (zb m_T_sortOf) [(0, (.aload_n 0, 1)), (1, (.getfield 28, 3)), (4, (.getfield 61, 3)), (7, (.iload_n 1, 1)), (8, (.invokevirtual 134, 3)), (11, (.ifCond .eq 17, 3)), (14, (.aload_n 0, 1)), (15, (.getfield 28, 3)), (18, (.getfield 85, 3)), (21, (.iload_n 1, 1)), (22, (.invokevirtual 140, 3)), (25, (.goto 4, 3)), (28, (.iconst (-1), 1)), (29, (.ireturn, 1))] = true := zDs 0 (by decide +kernel)
theorem d_T_sortOf_0 : decode (zb m_T_sortOf) 0 = .ok (.aload_n 0, 1) := zdal_p dlB_T_sortOf_12 (i := 0) rfl
theorem d_T_sortOf_1 : decode (zb m_T_sortOf) 1 = .ok (.getfield 28, 3) := zdal_p dlB_T_sortOf_12 (i := 1) rfl
theorem d_T_sortOf_4 : decode (zb m_T_sortOf) 4 = .ok (.getfield 61, 3) := zdal_p dlB_T_sortOf_12 (i := 2) rfl
theorem d_T_sortOf_7 : decode (zb m_T_sortOf) 7 = .ok (.iload_n 1, 1) := zdal_p dlB_T_sortOf_12 (i := 3) rfl
theorem d_T_sortOf_8 : decode (zb m_T_sortOf) 8 = .ok (.invokevirtual 134, 3) := zdal_p dlB_T_sortOf_12 (i := 4) rfl
theorem d_T_sortOf_11 : decode (zb m_T_sortOf) 11 = .ok (.ifCond .eq 17, 3) := zdal_p dlB_T_sortOf_12 (i := 5) rfl
theorem d_T_sortOf_14 : decode (zb m_T_sortOf) 14 = .ok (.aload_n 0, 1) := zdal_p dlB_T_sortOf_12 (i := 6) rfl
theorem d_T_sortOf_15 : decode (zb m_T_sortOf) 15 = .ok (.getfield 28, 3) := zdal_p dlB_T_sortOf_12 (i := 7) rfl
theorem d_T_sortOf_18 : decode (zb m_T_sortOf) 18 = .ok (.getfield 85, 3) := zdal_p dlB_T_sortOf_12 (i := 8) rfl
theorem d_T_sortOf_21 : decode (zb m_T_sortOf) 21 = .ok (.iload_n 1, 1) := zdal_p dlB_T_sortOf_12 (i := 9) rfl
theorem d_T_sortOf_22 : decode (zb m_T_sortOf) 22 = .ok (.invokevirtual 140, 3) := zdal_p dlB_T_sortOf_12 (i := 10) rfl
theorem d_T_sortOf_25 : decode (zb m_T_sortOf) 25 = .ok (.goto 4, 3) := zdal_p dlB_T_sortOf_12 (i := 11) rfl
theorem d_T_sortOf_28 : decode (zb m_T_sortOf) 28 = .ok (.iconst (-1), 1) := zdal_p dlB_T_sortOf_12 (i := 12) rfl
theorem d_T_sortOf_29 : decode (zb m_T_sortOf) 29 = .ok (.ireturn, 1) := zdal_p dlB_T_sortOf_12 (i := 13) rfl
theorem dlB_Sorts_spannedSort_13 : zdal (zb m_Sorts_spannedSort) [(0, (.aload_n 0, 1)), (1, (.getfield 20, 3)), (4, (.aload_n 0, 1)), (5, (.aload_n 0, 1)), (6, (.getfield 32, 3)), (9, (.iload_n 1, 1)), (10, (.invokevirtual 57, 3)), (13, (.invokevirtual 72, 3)), (16, (.invokevirtual 49, 3)), (19, (.ireturn, 1))] = true := zDs 0 (by decide +kernel)
theorem d_Sorts_spannedSort_0 : decode (zb m_Sorts_spannedSort) 0 = .ok (.aload_n 0, 1) := zdal_p dlB_Sorts_spannedSort_13 (i := 0) rfl
theorem d_Sorts_spannedSort_1 : decode (zb m_Sorts_spannedSort) 1 = .ok (.getfield 20, 3) := zdal_p dlB_Sorts_spannedSort_13 (i := 1) rfl
theorem d_Sorts_spannedSort_4 : decode (zb m_Sorts_spannedSort) 4 = .ok (.aload_n 0, 1) := zdal_p dlB_Sorts_spannedSort_13 (i := 2) rfl
theorem d_Sorts_spannedSort_5 : decode (zb m_Sorts_spannedSort) 5 = .ok (.aload_n 0, 1) := zdal_p dlB_Sorts_spannedSort_13 (i := 3) rfl
theorem d_Sorts_spannedSort_6 : decode (zb m_Sorts_spannedSort) 6 = .ok (.getfield 32, 3) := zdal_p dlB_Sorts_spannedSort_13 (i := 4) rfl
theorem d_Sorts_spannedSort_9 : decode (zb m_Sorts_spannedSort) 9 = .ok (.iload_n 1, 1) := zdal_p dlB_Sorts_spannedSort_13 (i := 5) rfl
theorem d_Sorts_spannedSort_10 : decode (zb m_Sorts_spannedSort) 10 = .ok (.invokevirtual 57, 3) := zdal_p dlB_Sorts_spannedSort_13 (i := 6) rfl
theorem d_Sorts_spannedSort_13 : decode (zb m_Sorts_spannedSort) 13 = .ok (.invokevirtual 72, 3) := zdal_p dlB_Sorts_spannedSort_13 (i := 7) rfl
theorem d_Sorts_spannedSort_16 : decode (zb m_Sorts_spannedSort) 16 = .ok (.invokevirtual 49, 3) := zdal_p dlB_Sorts_spannedSort_13 (i := 8) rfl
theorem d_Sorts_spannedSort_19 : decode (zb m_Sorts_spannedSort) 19 = .ok (.ireturn, 1) := zdal_p dlB_Sorts_spannedSort_13 (i := 9) rfl
theorem dlB_T_sort_14 : zdal (zb m_T_sort) [(0, (.aload_n 0, 1)), (1, (.getfield 28, 3)), (4, (.getfield 85, 3)), (7, (.astore_n 3, 1)), (8, (.aload_n 3, 1)), (9, (.iload_n 1, 1)), (10, (.invokevirtual 143, 3)), (13, (.ifCond .ne 5, 3)), (16, (.iconst (-1), 1)), (17, (.ireturn, 1)), (18, (.aload_n 3, 1)), (19, (.getfield 146, 3)), (22, (.iload_n 1, 1)), (23, (.invokevirtual 118, 3)), (26, (.istore 4, 2)), (28, (.iload_n 2, 1)), (29, (.tableswitch 112 0 5 #[39, 45, 51, 54, 70, 91], 39)), (68, (.iload 4, 2)), (70, (.invokestatic 149, 3)), (73, (.ireturn, 1)), (74, (.aload_n 3, 1)), (75, (.iload_n 1, 1)), (76, (.invokevirtual 154, 3)), (79, (.ireturn, 1))] = true := zDs 0 (by decide +kernel)
theorem d_T_sort_0 : decode (zb m_T_sort) 0 = .ok (.aload_n 0, 1) := zdal_p dlB_T_sort_14 (i := 0) rfl
theorem d_T_sort_1 : decode (zb m_T_sort) 1 = .ok (.getfield 28, 3) := zdal_p dlB_T_sort_14 (i := 1) rfl
theorem d_T_sort_4 : decode (zb m_T_sort) 4 = .ok (.getfield 85, 3) := zdal_p dlB_T_sort_14 (i := 2) rfl
theorem d_T_sort_7 : decode (zb m_T_sort) 7 = .ok (.astore_n 3, 1) := zdal_p dlB_T_sort_14 (i := 3) rfl
theorem d_T_sort_8 : decode (zb m_T_sort) 8 = .ok (.aload_n 3, 1) := zdal_p dlB_T_sort_14 (i := 4) rfl
theorem d_T_sort_9 : decode (zb m_T_sort) 9 = .ok (.iload_n 1, 1) := zdal_p dlB_T_sort_14 (i := 5) rfl
theorem d_T_sort_10 : decode (zb m_T_sort) 10 = .ok (.invokevirtual 143, 3) := zdal_p dlB_T_sort_14 (i := 6) rfl
theorem d_T_sort_13 : decode (zb m_T_sort) 13 = .ok (.ifCond .ne 5, 3) := zdal_p dlB_T_sort_14 (i := 7) rfl
theorem d_T_sort_16 : decode (zb m_T_sort) 16 = .ok (.iconst (-1), 1) := zdal_p dlB_T_sort_14 (i := 8) rfl
theorem d_T_sort_17 : decode (zb m_T_sort) 17 = .ok (.ireturn, 1) := zdal_p dlB_T_sort_14 (i := 9) rfl
theorem d_T_sort_18 : decode (zb m_T_sort) 18 = .ok (.aload_n 3, 1) := zdal_p dlB_T_sort_14 (i := 10) rfl
theorem d_T_sort_19 : decode (zb m_T_sort) 19 = .ok (.getfield 146, 3) := zdal_p dlB_T_sort_14 (i := 11) rfl
theorem d_T_sort_22 : decode (zb m_T_sort) 22 = .ok (.iload_n 1, 1) := zdal_p dlB_T_sort_14 (i := 12) rfl
theorem d_T_sort_23 : decode (zb m_T_sort) 23 = .ok (.invokevirtual 118, 3) := zdal_p dlB_T_sort_14 (i := 13) rfl
theorem d_T_sort_26 : decode (zb m_T_sort) 26 = .ok (.istore 4, 2) := zdal_p dlB_T_sort_14 (i := 14) rfl
theorem d_T_sort_28 : decode (zb m_T_sort) 28 = .ok (.iload_n 2, 1) := zdal_p dlB_T_sort_14 (i := 15) rfl
theorem d_T_sort_29 : decode (zb m_T_sort) 29 = .ok (.tableswitch 112 0 5 #[39, 45, 51, 54, 70, 91], 39) := zdal_p dlB_T_sort_14 (i := 16) rfl
theorem d_T_sort_68 : decode (zb m_T_sort) 68 = .ok (.iload 4, 2) := zdal_p dlB_T_sort_14 (i := 17) rfl
theorem d_T_sort_70 : decode (zb m_T_sort) 70 = .ok (.invokestatic 149, 3) := zdal_p dlB_T_sort_14 (i := 18) rfl
theorem d_T_sort_73 : decode (zb m_T_sort) 73 = .ok (.ireturn, 1) := zdal_p dlB_T_sort_14 (i := 19) rfl
theorem d_T_sort_74 : decode (zb m_T_sort) 74 = .ok (.aload_n 3, 1) := zdal_p dlB_T_sort_14 (i := 20) rfl
theorem d_T_sort_75 : decode (zb m_T_sort) 75 = .ok (.iload_n 1, 1) := zdal_p dlB_T_sort_14 (i := 21) rfl
theorem d_T_sort_76 : decode (zb m_T_sort) 76 = .ok (.invokevirtual 154, 3) := zdal_p dlB_T_sort_14 (i := 22) rfl
theorem d_T_sort_79 : decode (zb m_T_sort) 79 = .ok (.ireturn, 1) := zdal_p dlB_T_sort_14 (i := 23) rfl
theorem dlB_T_sort_15 : zdal (zb m_T_sort) [(80, (.iload 4, 2)), (82, (.ireturn, 1)), (83, (.aload_n 0, 1)), (84, (.getfield 28, 3)), (87, (.getfield 61, 3)), (90, (.iload 4, 2)), (92, (.invokevirtual 157, 3)), (95, (.invokestatic 149, 3)), (98, (.ireturn, 1)), (99, (.aload_n 0, 1)), (100, (.getfield 28, 3)), (103, (.getfield 61, 3)), (106, (.iload 4, 2)), (108, (.invokevirtual 160, 3)), (111, (.ifCond .eq 7, 3)), (114, (.iconst 1, 1)), (115, (.goto 4, 3)), (118, (.iconst 0, 1)), (119, (.ireturn, 1)), (120, (.aload_n 0, 1)), (121, (.getfield 28, 3)), (124, (.getfield 61, 3)), (127, (.iload 4, 2)), (129, (.invokevirtual 101, 3))] = true := zDs 80 (by decide +kernel)
theorem d_T_sort_80 : decode (zb m_T_sort) 80 = .ok (.iload 4, 2) := zdal_p dlB_T_sort_15 (i := 0) rfl
theorem d_T_sort_82 : decode (zb m_T_sort) 82 = .ok (.ireturn, 1) := zdal_p dlB_T_sort_15 (i := 1) rfl
theorem d_T_sort_83 : decode (zb m_T_sort) 83 = .ok (.aload_n 0, 1) := zdal_p dlB_T_sort_15 (i := 2) rfl
theorem d_T_sort_84 : decode (zb m_T_sort) 84 = .ok (.getfield 28, 3) := zdal_p dlB_T_sort_15 (i := 3) rfl
theorem d_T_sort_87 : decode (zb m_T_sort) 87 = .ok (.getfield 61, 3) := zdal_p dlB_T_sort_15 (i := 4) rfl
theorem d_T_sort_90 : decode (zb m_T_sort) 90 = .ok (.iload 4, 2) := zdal_p dlB_T_sort_15 (i := 5) rfl
theorem d_T_sort_92 : decode (zb m_T_sort) 92 = .ok (.invokevirtual 157, 3) := zdal_p dlB_T_sort_15 (i := 6) rfl
theorem d_T_sort_95 : decode (zb m_T_sort) 95 = .ok (.invokestatic 149, 3) := zdal_p dlB_T_sort_15 (i := 7) rfl
theorem d_T_sort_98 : decode (zb m_T_sort) 98 = .ok (.ireturn, 1) := zdal_p dlB_T_sort_15 (i := 8) rfl
theorem d_T_sort_99 : decode (zb m_T_sort) 99 = .ok (.aload_n 0, 1) := zdal_p dlB_T_sort_15 (i := 9) rfl
theorem d_T_sort_100 : decode (zb m_T_sort) 100 = .ok (.getfield 28, 3) := zdal_p dlB_T_sort_15 (i := 10) rfl
theorem d_T_sort_103 : decode (zb m_T_sort) 103 = .ok (.getfield 61, 3) := zdal_p dlB_T_sort_15 (i := 11) rfl
theorem d_T_sort_106 : decode (zb m_T_sort) 106 = .ok (.iload 4, 2) := zdal_p dlB_T_sort_15 (i := 12) rfl
theorem d_T_sort_108 : decode (zb m_T_sort) 108 = .ok (.invokevirtual 160, 3) := zdal_p dlB_T_sort_15 (i := 13) rfl
theorem d_T_sort_111 : decode (zb m_T_sort) 111 = .ok (.ifCond .eq 7, 3) := zdal_p dlB_T_sort_15 (i := 14) rfl
theorem d_T_sort_114 : decode (zb m_T_sort) 114 = .ok (.iconst 1, 1) := zdal_p dlB_T_sort_15 (i := 15) rfl
theorem d_T_sort_115 : decode (zb m_T_sort) 115 = .ok (.goto 4, 3) := zdal_p dlB_T_sort_15 (i := 16) rfl
theorem d_T_sort_118 : decode (zb m_T_sort) 118 = .ok (.iconst 0, 1) := zdal_p dlB_T_sort_15 (i := 17) rfl
theorem d_T_sort_119 : decode (zb m_T_sort) 119 = .ok (.ireturn, 1) := zdal_p dlB_T_sort_15 (i := 18) rfl
theorem d_T_sort_120 : decode (zb m_T_sort) 120 = .ok (.aload_n 0, 1) := zdal_p dlB_T_sort_15 (i := 19) rfl
theorem d_T_sort_121 : decode (zb m_T_sort) 121 = .ok (.getfield 28, 3) := zdal_p dlB_T_sort_15 (i := 20) rfl
theorem d_T_sort_124 : decode (zb m_T_sort) 124 = .ok (.getfield 61, 3) := zdal_p dlB_T_sort_15 (i := 21) rfl
theorem d_T_sort_127 : decode (zb m_T_sort) 127 = .ok (.iload 4, 2) := zdal_p dlB_T_sort_15 (i := 22) rfl
theorem d_T_sort_129 : decode (zb m_T_sort) 129 = .ok (.invokevirtual 101, 3) := zdal_p dlB_T_sort_15 (i := 23) rfl
theorem dlB_T_sort_16 : zdal (zb m_T_sort) [(132, (.ifCond .eq 7, 3)), (135, (.iconst 1, 1)), (136, (.goto 4, 3)), (139, (.iconst 0, 1)), (140, (.ireturn, 1)), (141, (.iconst (-1), 1)), (142, (.ireturn, 1))] = true := zDs 132 (by decide +kernel)
theorem d_T_sort_132 : decode (zb m_T_sort) 132 = .ok (.ifCond .eq 7, 3) := zdal_p dlB_T_sort_16 (i := 0) rfl
theorem d_T_sort_135 : decode (zb m_T_sort) 135 = .ok (.iconst 1, 1) := zdal_p dlB_T_sort_16 (i := 1) rfl
theorem d_T_sort_136 : decode (zb m_T_sort) 136 = .ok (.goto 4, 3) := zdal_p dlB_T_sort_16 (i := 2) rfl
theorem d_T_sort_139 : decode (zb m_T_sort) 139 = .ok (.iconst 0, 1) := zdal_p dlB_T_sort_16 (i := 3) rfl
theorem d_T_sort_140 : decode (zb m_T_sort) 140 = .ok (.ireturn, 1) := zdal_p dlB_T_sort_16 (i := 4) rfl
theorem d_T_sort_141 : decode (zb m_T_sort) 141 = .ok (.iconst (-1), 1) := zdal_p dlB_T_sort_16 (i := 5) rfl
theorem d_T_sort_142 : decode (zb m_T_sort) 142 = .ok (.ireturn, 1) := zdal_p dlB_T_sort_16 (i := 6) rfl
theorem dlB_Sorts_hasSort_17 : zdal (zb m_Sorts_hasSort) [(0, (.iload_n 1, 1)), (1, (.ifCond .lt 15, 3)), (4, (.iload_n 1, 1)), (5, (.aload_n 0, 1)), (6, (.getfield 83, 3)), (9, (.if_icmp .ge 7, 3)), (12, (.iconst 1, 1)), (13, (.goto 4, 3)), (16, (.iconst 0, 1)), (17, (.ireturn, 1))] = true := zDs 0 (by decide +kernel)
theorem d_Sorts_hasSort_0 : decode (zb m_Sorts_hasSort) 0 = .ok (.iload_n 1, 1) := zdal_p dlB_Sorts_hasSort_17 (i := 0) rfl
theorem d_Sorts_hasSort_1 : decode (zb m_Sorts_hasSort) 1 = .ok (.ifCond .lt 15, 3) := zdal_p dlB_Sorts_hasSort_17 (i := 1) rfl
theorem d_Sorts_hasSort_4 : decode (zb m_Sorts_hasSort) 4 = .ok (.iload_n 1, 1) := zdal_p dlB_Sorts_hasSort_17 (i := 2) rfl
theorem d_Sorts_hasSort_5 : decode (zb m_Sorts_hasSort) 5 = .ok (.aload_n 0, 1) := zdal_p dlB_Sorts_hasSort_17 (i := 3) rfl
theorem d_Sorts_hasSort_6 : decode (zb m_Sorts_hasSort) 6 = .ok (.getfield 83, 3) := zdal_p dlB_Sorts_hasSort_17 (i := 4) rfl
theorem d_Sorts_hasSort_9 : decode (zb m_Sorts_hasSort) 9 = .ok (.if_icmp .ge 7, 3) := zdal_p dlB_Sorts_hasSort_17 (i := 5) rfl
theorem d_Sorts_hasSort_12 : decode (zb m_Sorts_hasSort) 12 = .ok (.iconst 1, 1) := zdal_p dlB_Sorts_hasSort_17 (i := 6) rfl
theorem d_Sorts_hasSort_13 : decode (zb m_Sorts_hasSort) 13 = .ok (.goto 4, 3) := zdal_p dlB_Sorts_hasSort_17 (i := 7) rfl
theorem d_Sorts_hasSort_16 : decode (zb m_Sorts_hasSort) 16 = .ok (.iconst 0, 1) := zdal_p dlB_Sorts_hasSort_17 (i := 8) rfl
theorem d_Sorts_hasSort_17 : decode (zb m_Sorts_hasSort) 17 = .ok (.ireturn, 1) := zdal_p dlB_Sorts_hasSort_17 (i := 9) rfl
theorem dlB_Sorts_countOf_18 : zdal (zb m_Sorts_countOf) [(0, (.aload_n 0, 1)), (1, (.iload_n 1, 1)), (2, (.aload_n 0, 1)), (3, (.getfield 83, 3)), (6, (.iconst 1, 1)), (7, (.isub, 1)), (8, (.invokevirtual 99, 3)), (11, (.ireturn, 1))] = true := zDs 0 (by decide +kernel)
theorem d_Sorts_countOf_0 : decode (zb m_Sorts_countOf) 0 = .ok (.aload_n 0, 1) := zdal_p dlB_Sorts_countOf_18 (i := 0) rfl
theorem d_Sorts_countOf_1 : decode (zb m_Sorts_countOf) 1 = .ok (.iload_n 1, 1) := zdal_p dlB_Sorts_countOf_18 (i := 1) rfl
theorem d_Sorts_countOf_2 : decode (zb m_Sorts_countOf) 2 = .ok (.aload_n 0, 1) := zdal_p dlB_Sorts_countOf_18 (i := 2) rfl
theorem d_Sorts_countOf_3 : decode (zb m_Sorts_countOf) 3 = .ok (.getfield 83, 3) := zdal_p dlB_Sorts_countOf_18 (i := 3) rfl
theorem d_Sorts_countOf_6 : decode (zb m_Sorts_countOf) 6 = .ok (.iconst 1, 1) := zdal_p dlB_Sorts_countOf_18 (i := 4) rfl
theorem d_Sorts_countOf_7 : decode (zb m_Sorts_countOf) 7 = .ok (.isub, 1) := zdal_p dlB_Sorts_countOf_18 (i := 5) rfl
theorem d_Sorts_countOf_8 : decode (zb m_Sorts_countOf) 8 = .ok (.invokevirtual 99, 3) := zdal_p dlB_Sorts_countOf_18 (i := 6) rfl
theorem d_Sorts_countOf_11 : decode (zb m_Sorts_countOf) 11 = .ok (.ireturn, 1) := zdal_p dlB_Sorts_countOf_18 (i := 7) rfl
theorem dlB_Sorts_countWithin_19 : zdal (zb m_Sorts_countWithin) [(0, (.iconst 0, 1)), (1, (.istore_n 3, 1)), (2, (.iconst 0, 1)), (3, (.istore 4, 2)), (5, (.iload 4, 2)), (7, (.aload_n 0, 1)), (8, (.getfield 36, 3)), (11, (.if_icmp .ge 48, 3)), (14, (.aload_n 0, 1)), (15, (.getfield 20, 3)), (18, (.iload 4, 2)), (20, (.invokevirtual 49, 3)), (23, (.iload_n 1, 1)), (24, (.if_icmp .ne 29, 3)), (27, (.aload_n 0, 1)), (28, (.getfield 14, 3)), (31, (.iload 4, 2)), (33, (.invokevirtual 49, 3)), (36, (.aload_n 0, 1)), (37, (.getfield 26, 3)), (40, (.iload_n 2, 1)), (41, (.invokevirtual 49, 3)), (44, (.invokestatic 96, 3)), (47, (.ifCond .eq 6, 3))] = true := zDs 0 (by decide +kernel)
theorem d_Sorts_countWithin_0 : decode (zb m_Sorts_countWithin) 0 = .ok (.iconst 0, 1) := zdal_p dlB_Sorts_countWithin_19 (i := 0) rfl
theorem d_Sorts_countWithin_1 : decode (zb m_Sorts_countWithin) 1 = .ok (.istore_n 3, 1) := zdal_p dlB_Sorts_countWithin_19 (i := 1) rfl
theorem d_Sorts_countWithin_2 : decode (zb m_Sorts_countWithin) 2 = .ok (.iconst 0, 1) := zdal_p dlB_Sorts_countWithin_19 (i := 2) rfl
theorem d_Sorts_countWithin_3 : decode (zb m_Sorts_countWithin) 3 = .ok (.istore 4, 2) := zdal_p dlB_Sorts_countWithin_19 (i := 3) rfl
theorem d_Sorts_countWithin_5 : decode (zb m_Sorts_countWithin) 5 = .ok (.iload 4, 2) := zdal_p dlB_Sorts_countWithin_19 (i := 4) rfl
theorem d_Sorts_countWithin_7 : decode (zb m_Sorts_countWithin) 7 = .ok (.aload_n 0, 1) := zdal_p dlB_Sorts_countWithin_19 (i := 5) rfl
theorem d_Sorts_countWithin_8 : decode (zb m_Sorts_countWithin) 8 = .ok (.getfield 36, 3) := zdal_p dlB_Sorts_countWithin_19 (i := 6) rfl
theorem d_Sorts_countWithin_11 : decode (zb m_Sorts_countWithin) 11 = .ok (.if_icmp .ge 48, 3) := zdal_p dlB_Sorts_countWithin_19 (i := 7) rfl
theorem d_Sorts_countWithin_14 : decode (zb m_Sorts_countWithin) 14 = .ok (.aload_n 0, 1) := zdal_p dlB_Sorts_countWithin_19 (i := 8) rfl
theorem d_Sorts_countWithin_15 : decode (zb m_Sorts_countWithin) 15 = .ok (.getfield 20, 3) := zdal_p dlB_Sorts_countWithin_19 (i := 9) rfl
theorem d_Sorts_countWithin_18 : decode (zb m_Sorts_countWithin) 18 = .ok (.iload 4, 2) := zdal_p dlB_Sorts_countWithin_19 (i := 10) rfl
theorem d_Sorts_countWithin_20 : decode (zb m_Sorts_countWithin) 20 = .ok (.invokevirtual 49, 3) := zdal_p dlB_Sorts_countWithin_19 (i := 11) rfl
theorem d_Sorts_countWithin_23 : decode (zb m_Sorts_countWithin) 23 = .ok (.iload_n 1, 1) := zdal_p dlB_Sorts_countWithin_19 (i := 12) rfl
theorem d_Sorts_countWithin_24 : decode (zb m_Sorts_countWithin) 24 = .ok (.if_icmp .ne 29, 3) := zdal_p dlB_Sorts_countWithin_19 (i := 13) rfl
theorem d_Sorts_countWithin_27 : decode (zb m_Sorts_countWithin) 27 = .ok (.aload_n 0, 1) := zdal_p dlB_Sorts_countWithin_19 (i := 14) rfl
theorem d_Sorts_countWithin_28 : decode (zb m_Sorts_countWithin) 28 = .ok (.getfield 14, 3) := zdal_p dlB_Sorts_countWithin_19 (i := 15) rfl
theorem d_Sorts_countWithin_31 : decode (zb m_Sorts_countWithin) 31 = .ok (.iload 4, 2) := zdal_p dlB_Sorts_countWithin_19 (i := 16) rfl
theorem d_Sorts_countWithin_33 : decode (zb m_Sorts_countWithin) 33 = .ok (.invokevirtual 49, 3) := zdal_p dlB_Sorts_countWithin_19 (i := 17) rfl
theorem d_Sorts_countWithin_36 : decode (zb m_Sorts_countWithin) 36 = .ok (.aload_n 0, 1) := zdal_p dlB_Sorts_countWithin_19 (i := 18) rfl
theorem d_Sorts_countWithin_37 : decode (zb m_Sorts_countWithin) 37 = .ok (.getfield 26, 3) := zdal_p dlB_Sorts_countWithin_19 (i := 19) rfl
theorem d_Sorts_countWithin_40 : decode (zb m_Sorts_countWithin) 40 = .ok (.iload_n 2, 1) := zdal_p dlB_Sorts_countWithin_19 (i := 20) rfl
theorem d_Sorts_countWithin_41 : decode (zb m_Sorts_countWithin) 41 = .ok (.invokevirtual 49, 3) := zdal_p dlB_Sorts_countWithin_19 (i := 21) rfl
theorem d_Sorts_countWithin_44 : decode (zb m_Sorts_countWithin) 44 = .ok (.invokestatic 96, 3) := zdal_p dlB_Sorts_countWithin_19 (i := 22) rfl
theorem d_Sorts_countWithin_47 : decode (zb m_Sorts_countWithin) 47 = .ok (.ifCond .eq 6, 3) := zdal_p dlB_Sorts_countWithin_19 (i := 23) rfl
theorem dlB_Sorts_countWithin_20 : zdal (zb m_Sorts_countWithin) [(50, (.iinc 3 1, 3)), (53, (.iinc 4 1, 3)), (56, (.goto (-51), 3)), (59, (.iload_n 3, 1)), (60, (.ireturn, 1))] = true := zDs 50 (by decide +kernel)
theorem d_Sorts_countWithin_50 : decode (zb m_Sorts_countWithin) 50 = .ok (.iinc 3 1, 3) := zdal_p dlB_Sorts_countWithin_20 (i := 0) rfl
theorem d_Sorts_countWithin_53 : decode (zb m_Sorts_countWithin) 53 = .ok (.iinc 4 1, 3) := zdal_p dlB_Sorts_countWithin_20 (i := 1) rfl
theorem d_Sorts_countWithin_56 : decode (zb m_Sorts_countWithin) 56 = .ok (.goto (-51), 3) := zdal_p dlB_Sorts_countWithin_20 (i := 2) rfl
theorem d_Sorts_countWithin_59 : decode (zb m_Sorts_countWithin) 59 = .ok (.iload_n 3, 1) := zdal_p dlB_Sorts_countWithin_20 (i := 3) rfl
theorem d_Sorts_countWithin_60 : decode (zb m_Sorts_countWithin) 60 = .ok (.ireturn, 1) := zdal_p dlB_Sorts_countWithin_20 (i := 4) rfl
theorem dlB_Group_normOf_21 : zdal (zb m_Group_normOf) [(0, (.iconst 0, 1)), (1, (.istore_n 2, 1)), (2, (.iconst 0, 1)), (3, (.istore_n 3, 1)), (4, (.iload_n 3, 1)), (5, (.aload_n 0, 1)), (6, (.getfield 39, 3)), (9, (.if_icmp .ge 25, 3)), (12, (.aload_n 0, 1)), (13, (.iload_n 1, 1)), (14, (.iload_n 3, 1)), (15, (.invokevirtual 80, 3)), (18, (.iload_n 1, 1)), (19, (.if_icmp .ne 9, 3)), (22, (.iload_n 2, 1)), (23, (.iconst 1, 1)), (24, (.iload_n 3, 1)), (25, (.ishl, 1)), (26, (.ior, 1)), (27, (.istore_n 2, 1)), (28, (.iinc 3 1, 3)), (31, (.goto (-27), 3)), (34, (.iload_n 2, 1)), (35, (.ireturn, 1))] = true := zDs 0 (by decide +kernel)
theorem d_Group_normOf_0 : decode (zb m_Group_normOf) 0 = .ok (.iconst 0, 1) := zdal_p dlB_Group_normOf_21 (i := 0) rfl
theorem d_Group_normOf_1 : decode (zb m_Group_normOf) 1 = .ok (.istore_n 2, 1) := zdal_p dlB_Group_normOf_21 (i := 1) rfl
theorem d_Group_normOf_2 : decode (zb m_Group_normOf) 2 = .ok (.iconst 0, 1) := zdal_p dlB_Group_normOf_21 (i := 2) rfl
theorem d_Group_normOf_3 : decode (zb m_Group_normOf) 3 = .ok (.istore_n 3, 1) := zdal_p dlB_Group_normOf_21 (i := 3) rfl
theorem d_Group_normOf_4 : decode (zb m_Group_normOf) 4 = .ok (.iload_n 3, 1) := zdal_p dlB_Group_normOf_21 (i := 4) rfl
theorem d_Group_normOf_5 : decode (zb m_Group_normOf) 5 = .ok (.aload_n 0, 1) := zdal_p dlB_Group_normOf_21 (i := 5) rfl
theorem d_Group_normOf_6 : decode (zb m_Group_normOf) 6 = .ok (.getfield 39, 3) := zdal_p dlB_Group_normOf_21 (i := 6) rfl
theorem d_Group_normOf_9 : decode (zb m_Group_normOf) 9 = .ok (.if_icmp .ge 25, 3) := zdal_p dlB_Group_normOf_21 (i := 7) rfl
theorem d_Group_normOf_12 : decode (zb m_Group_normOf) 12 = .ok (.aload_n 0, 1) := zdal_p dlB_Group_normOf_21 (i := 8) rfl
theorem d_Group_normOf_13 : decode (zb m_Group_normOf) 13 = .ok (.iload_n 1, 1) := zdal_p dlB_Group_normOf_21 (i := 9) rfl
theorem d_Group_normOf_14 : decode (zb m_Group_normOf) 14 = .ok (.iload_n 3, 1) := zdal_p dlB_Group_normOf_21 (i := 10) rfl
theorem d_Group_normOf_15 : decode (zb m_Group_normOf) 15 = .ok (.invokevirtual 80, 3) := zdal_p dlB_Group_normOf_21 (i := 11) rfl
theorem d_Group_normOf_18 : decode (zb m_Group_normOf) 18 = .ok (.iload_n 1, 1) := zdal_p dlB_Group_normOf_21 (i := 12) rfl
theorem d_Group_normOf_19 : decode (zb m_Group_normOf) 19 = .ok (.if_icmp .ne 9, 3) := zdal_p dlB_Group_normOf_21 (i := 13) rfl
theorem d_Group_normOf_22 : decode (zb m_Group_normOf) 22 = .ok (.iload_n 2, 1) := zdal_p dlB_Group_normOf_21 (i := 14) rfl
theorem d_Group_normOf_23 : decode (zb m_Group_normOf) 23 = .ok (.iconst 1, 1) := zdal_p dlB_Group_normOf_21 (i := 15) rfl
theorem d_Group_normOf_24 : decode (zb m_Group_normOf) 24 = .ok (.iload_n 3, 1) := zdal_p dlB_Group_normOf_21 (i := 16) rfl
theorem d_Group_normOf_25 : decode (zb m_Group_normOf) 25 = .ok (.ishl, 1) := zdal_p dlB_Group_normOf_21 (i := 17) rfl
theorem d_Group_normOf_26 : decode (zb m_Group_normOf) 26 = .ok (.ior, 1) := zdal_p dlB_Group_normOf_21 (i := 18) rfl
theorem d_Group_normOf_27 : decode (zb m_Group_normOf) 27 = .ok (.istore_n 2, 1) := zdal_p dlB_Group_normOf_21 (i := 19) rfl
theorem d_Group_normOf_28 : decode (zb m_Group_normOf) 28 = .ok (.iinc 3 1, 3) := zdal_p dlB_Group_normOf_21 (i := 20) rfl
theorem d_Group_normOf_31 : decode (zb m_Group_normOf) 31 = .ok (.goto (-27), 3) := zdal_p dlB_Group_normOf_21 (i := 21) rfl
theorem d_Group_normOf_34 : decode (zb m_Group_normOf) 34 = .ok (.iload_n 2, 1) := zdal_p dlB_Group_normOf_21 (i := 22) rfl
theorem d_Group_normOf_35 : decode (zb m_Group_normOf) 35 = .ok (.ireturn, 1) := zdal_p dlB_Group_normOf_21 (i := 23) rfl
theorem dlB_Group_isMadeByOne_22 : zdal (zb m_Group_isMadeByOne) [(0, (.iload_n 1, 1)), (1, (.invokestatic 83, 3)), (4, (.istore_n 2, 1)), (5, (.iconst 0, 1)), (6, (.istore_n 3, 1)), (7, (.iload_n 3, 1)), (8, (.aload_n 0, 1)), (9, (.getfield 39, 3)), (12, (.if_icmp .ge 28, 3)), (15, (.iload_n 1, 1)), (16, (.iload_n 3, 1)), (17, (.invokestatic 73, 3)), (20, (.ifCond .eq 14, 3)), (23, (.aload_n 0, 1)), (24, (.iload_n 3, 1)), (25, (.invokevirtual 70, 3)), (28, (.iload_n 2, 1)), (29, (.if_icmp .ne 5, 3)), (32, (.iconst 1, 1)), (33, (.ireturn, 1)), (34, (.iinc 3 1, 3)), (37, (.goto (-30), 3)), (40, (.iconst 0, 1)), (41, (.ireturn, 1))] = true := zDs 0 (by decide +kernel)
theorem d_Group_isMadeByOne_0 : decode (zb m_Group_isMadeByOne) 0 = .ok (.iload_n 1, 1) := zdal_p dlB_Group_isMadeByOne_22 (i := 0) rfl
theorem d_Group_isMadeByOne_1 : decode (zb m_Group_isMadeByOne) 1 = .ok (.invokestatic 83, 3) := zdal_p dlB_Group_isMadeByOne_22 (i := 1) rfl
theorem d_Group_isMadeByOne_4 : decode (zb m_Group_isMadeByOne) 4 = .ok (.istore_n 2, 1) := zdal_p dlB_Group_isMadeByOne_22 (i := 2) rfl
theorem d_Group_isMadeByOne_5 : decode (zb m_Group_isMadeByOne) 5 = .ok (.iconst 0, 1) := zdal_p dlB_Group_isMadeByOne_22 (i := 3) rfl
theorem d_Group_isMadeByOne_6 : decode (zb m_Group_isMadeByOne) 6 = .ok (.istore_n 3, 1) := zdal_p dlB_Group_isMadeByOne_22 (i := 4) rfl
theorem d_Group_isMadeByOne_7 : decode (zb m_Group_isMadeByOne) 7 = .ok (.iload_n 3, 1) := zdal_p dlB_Group_isMadeByOne_22 (i := 5) rfl
theorem d_Group_isMadeByOne_8 : decode (zb m_Group_isMadeByOne) 8 = .ok (.aload_n 0, 1) := zdal_p dlB_Group_isMadeByOne_22 (i := 6) rfl
theorem d_Group_isMadeByOne_9 : decode (zb m_Group_isMadeByOne) 9 = .ok (.getfield 39, 3) := zdal_p dlB_Group_isMadeByOne_22 (i := 7) rfl
theorem d_Group_isMadeByOne_12 : decode (zb m_Group_isMadeByOne) 12 = .ok (.if_icmp .ge 28, 3) := zdal_p dlB_Group_isMadeByOne_22 (i := 8) rfl
theorem d_Group_isMadeByOne_15 : decode (zb m_Group_isMadeByOne) 15 = .ok (.iload_n 1, 1) := zdal_p dlB_Group_isMadeByOne_22 (i := 9) rfl
theorem d_Group_isMadeByOne_16 : decode (zb m_Group_isMadeByOne) 16 = .ok (.iload_n 3, 1) := zdal_p dlB_Group_isMadeByOne_22 (i := 10) rfl
theorem d_Group_isMadeByOne_17 : decode (zb m_Group_isMadeByOne) 17 = .ok (.invokestatic 73, 3) := zdal_p dlB_Group_isMadeByOne_22 (i := 11) rfl
theorem d_Group_isMadeByOne_20 : decode (zb m_Group_isMadeByOne) 20 = .ok (.ifCond .eq 14, 3) := zdal_p dlB_Group_isMadeByOne_22 (i := 12) rfl
theorem d_Group_isMadeByOne_23 : decode (zb m_Group_isMadeByOne) 23 = .ok (.aload_n 0, 1) := zdal_p dlB_Group_isMadeByOne_22 (i := 13) rfl
theorem d_Group_isMadeByOne_24 : decode (zb m_Group_isMadeByOne) 24 = .ok (.iload_n 3, 1) := zdal_p dlB_Group_isMadeByOne_22 (i := 14) rfl
theorem d_Group_isMadeByOne_25 : decode (zb m_Group_isMadeByOne) 25 = .ok (.invokevirtual 70, 3) := zdal_p dlB_Group_isMadeByOne_22 (i := 15) rfl
theorem d_Group_isMadeByOne_28 : decode (zb m_Group_isMadeByOne) 28 = .ok (.iload_n 2, 1) := zdal_p dlB_Group_isMadeByOne_22 (i := 16) rfl
theorem d_Group_isMadeByOne_29 : decode (zb m_Group_isMadeByOne) 29 = .ok (.if_icmp .ne 5, 3) := zdal_p dlB_Group_isMadeByOne_22 (i := 17) rfl
theorem d_Group_isMadeByOne_32 : decode (zb m_Group_isMadeByOne) 32 = .ok (.iconst 1, 1) := zdal_p dlB_Group_isMadeByOne_22 (i := 18) rfl
theorem d_Group_isMadeByOne_33 : decode (zb m_Group_isMadeByOne) 33 = .ok (.ireturn, 1) := zdal_p dlB_Group_isMadeByOne_22 (i := 19) rfl
theorem d_Group_isMadeByOne_34 : decode (zb m_Group_isMadeByOne) 34 = .ok (.iinc 3 1, 3) := zdal_p dlB_Group_isMadeByOne_22 (i := 20) rfl
theorem d_Group_isMadeByOne_37 : decode (zb m_Group_isMadeByOne) 37 = .ok (.goto (-30), 3) := zdal_p dlB_Group_isMadeByOne_22 (i := 21) rfl
theorem d_Group_isMadeByOne_40 : decode (zb m_Group_isMadeByOne) 40 = .ok (.iconst 0, 1) := zdal_p dlB_Group_isMadeByOne_22 (i := 22) rfl
theorem d_Group_isMadeByOne_41 : decode (zb m_Group_isMadeByOne) 41 = .ok (.ireturn, 1) := zdal_p dlB_Group_isMadeByOne_22 (i := 23) rfl
theorem dlB_T_within_23 : zdal (zb m_T_within) [(0, (.aload_n 0, 1)), (1, (.getfield 28, 3)), (4, (.getfield 85, 3)), (7, (.iload_n 1, 1)), (8, (.invokevirtual 143, 3)), (11, (.ifCond .eq 32, 3)), (14, (.aload_n 0, 1)), (15, (.getfield 28, 3)), (18, (.getfield 85, 3)), (21, (.iload_n 2, 1)), (22, (.invokevirtual 143, 3)), (25, (.ifCond .eq 18, 3)), (28, (.aload_n 0, 1)), (29, (.getfield 28, 3)), (32, (.getfield 85, 3)), (35, (.iload_n 1, 1)), (36, (.iload_n 2, 1)), (37, (.invokevirtual 163, 3)), (40, (.goto 4, 3)), (43, (.iconst (-1), 1)), (44, (.ireturn, 1))] = true := zDs 0 (by decide +kernel)
theorem d_T_within_0 : decode (zb m_T_within) 0 = .ok (.aload_n 0, 1) := zdal_p dlB_T_within_23 (i := 0) rfl
theorem d_T_within_1 : decode (zb m_T_within) 1 = .ok (.getfield 28, 3) := zdal_p dlB_T_within_23 (i := 1) rfl
theorem d_T_within_4 : decode (zb m_T_within) 4 = .ok (.getfield 85, 3) := zdal_p dlB_T_within_23 (i := 2) rfl
theorem d_T_within_7 : decode (zb m_T_within) 7 = .ok (.iload_n 1, 1) := zdal_p dlB_T_within_23 (i := 3) rfl
theorem d_T_within_8 : decode (zb m_T_within) 8 = .ok (.invokevirtual 143, 3) := zdal_p dlB_T_within_23 (i := 4) rfl
theorem d_T_within_11 : decode (zb m_T_within) 11 = .ok (.ifCond .eq 32, 3) := zdal_p dlB_T_within_23 (i := 5) rfl
theorem d_T_within_14 : decode (zb m_T_within) 14 = .ok (.aload_n 0, 1) := zdal_p dlB_T_within_23 (i := 6) rfl
theorem d_T_within_15 : decode (zb m_T_within) 15 = .ok (.getfield 28, 3) := zdal_p dlB_T_within_23 (i := 7) rfl
theorem d_T_within_18 : decode (zb m_T_within) 18 = .ok (.getfield 85, 3) := zdal_p dlB_T_within_23 (i := 8) rfl
theorem d_T_within_21 : decode (zb m_T_within) 21 = .ok (.iload_n 2, 1) := zdal_p dlB_T_within_23 (i := 9) rfl
theorem d_T_within_22 : decode (zb m_T_within) 22 = .ok (.invokevirtual 143, 3) := zdal_p dlB_T_within_23 (i := 10) rfl
theorem d_T_within_25 : decode (zb m_T_within) 25 = .ok (.ifCond .eq 18, 3) := zdal_p dlB_T_within_23 (i := 11) rfl
theorem d_T_within_28 : decode (zb m_T_within) 28 = .ok (.aload_n 0, 1) := zdal_p dlB_T_within_23 (i := 12) rfl
theorem d_T_within_29 : decode (zb m_T_within) 29 = .ok (.getfield 28, 3) := zdal_p dlB_T_within_23 (i := 13) rfl
theorem d_T_within_32 : decode (zb m_T_within) 32 = .ok (.getfield 85, 3) := zdal_p dlB_T_within_23 (i := 14) rfl
theorem d_T_within_35 : decode (zb m_T_within) 35 = .ok (.iload_n 1, 1) := zdal_p dlB_T_within_23 (i := 15) rfl
theorem d_T_within_36 : decode (zb m_T_within) 36 = .ok (.iload_n 2, 1) := zdal_p dlB_T_within_23 (i := 16) rfl
theorem d_T_within_37 : decode (zb m_T_within) 37 = .ok (.invokevirtual 163, 3) := zdal_p dlB_T_within_23 (i := 17) rfl
theorem d_T_within_40 : decode (zb m_T_within) 40 = .ok (.goto 4, 3) := zdal_p dlB_T_within_23 (i := 18) rfl
theorem d_T_within_43 : decode (zb m_T_within) 43 = .ok (.iconst (-1), 1) := zdal_p dlB_T_within_23 (i := 19) rfl
theorem d_T_within_44 : decode (zb m_T_within) 44 = .ok (.ireturn, 1) := zdal_p dlB_T_within_23 (i := 20) rfl
theorem dlB_T_mark_24 : zdal (zb m_T_mark) [(0, (.aload_n 0, 1)), (1, (.getfield 28, 3)), (4, (.getfield 85, 3)), (7, (.iload_n 1, 1)), (8, (.invokevirtual 143, 3)), (11, (.ifCond .eq 32, 3)), (14, (.aload_n 0, 1)), (15, (.getfield 28, 3)), (18, (.getfield 85, 3)), (21, (.iload_n 2, 1)), (22, (.invokevirtual 143, 3)), (25, (.ifCond .eq 18, 3)), (28, (.aload_n 0, 1)), (29, (.getfield 28, 3)), (32, (.getfield 85, 3)), (35, (.iload_n 1, 1)), (36, (.iload_n 2, 1)), (37, (.invokevirtual 166, 3)), (40, (.goto 4, 3)), (43, (.iconst (-1), 1)), (44, (.ireturn, 1))] = true := zDs 0 (by decide +kernel)
theorem d_T_mark_0 : decode (zb m_T_mark) 0 = .ok (.aload_n 0, 1) := zdal_p dlB_T_mark_24 (i := 0) rfl
theorem d_T_mark_1 : decode (zb m_T_mark) 1 = .ok (.getfield 28, 3) := zdal_p dlB_T_mark_24 (i := 1) rfl
theorem d_T_mark_4 : decode (zb m_T_mark) 4 = .ok (.getfield 85, 3) := zdal_p dlB_T_mark_24 (i := 2) rfl
theorem d_T_mark_7 : decode (zb m_T_mark) 7 = .ok (.iload_n 1, 1) := zdal_p dlB_T_mark_24 (i := 3) rfl
theorem d_T_mark_8 : decode (zb m_T_mark) 8 = .ok (.invokevirtual 143, 3) := zdal_p dlB_T_mark_24 (i := 4) rfl
theorem d_T_mark_11 : decode (zb m_T_mark) 11 = .ok (.ifCond .eq 32, 3) := zdal_p dlB_T_mark_24 (i := 5) rfl
theorem d_T_mark_14 : decode (zb m_T_mark) 14 = .ok (.aload_n 0, 1) := zdal_p dlB_T_mark_24 (i := 6) rfl
theorem d_T_mark_15 : decode (zb m_T_mark) 15 = .ok (.getfield 28, 3) := zdal_p dlB_T_mark_24 (i := 7) rfl
theorem d_T_mark_18 : decode (zb m_T_mark) 18 = .ok (.getfield 85, 3) := zdal_p dlB_T_mark_24 (i := 8) rfl
theorem d_T_mark_21 : decode (zb m_T_mark) 21 = .ok (.iload_n 2, 1) := zdal_p dlB_T_mark_24 (i := 9) rfl
theorem d_T_mark_22 : decode (zb m_T_mark) 22 = .ok (.invokevirtual 143, 3) := zdal_p dlB_T_mark_24 (i := 10) rfl
theorem d_T_mark_25 : decode (zb m_T_mark) 25 = .ok (.ifCond .eq 18, 3) := zdal_p dlB_T_mark_24 (i := 11) rfl
theorem d_T_mark_28 : decode (zb m_T_mark) 28 = .ok (.aload_n 0, 1) := zdal_p dlB_T_mark_24 (i := 12) rfl
theorem d_T_mark_29 : decode (zb m_T_mark) 29 = .ok (.getfield 28, 3) := zdal_p dlB_T_mark_24 (i := 13) rfl
theorem d_T_mark_32 : decode (zb m_T_mark) 32 = .ok (.getfield 85, 3) := zdal_p dlB_T_mark_24 (i := 14) rfl
theorem d_T_mark_35 : decode (zb m_T_mark) 35 = .ok (.iload_n 1, 1) := zdal_p dlB_T_mark_24 (i := 15) rfl
theorem d_T_mark_36 : decode (zb m_T_mark) 36 = .ok (.iload_n 2, 1) := zdal_p dlB_T_mark_24 (i := 16) rfl
theorem d_T_mark_37 : decode (zb m_T_mark) 37 = .ok (.invokevirtual 166, 3) := zdal_p dlB_T_mark_24 (i := 17) rfl
theorem d_T_mark_40 : decode (zb m_T_mark) 40 = .ok (.goto 4, 3) := zdal_p dlB_T_mark_24 (i := 18) rfl
theorem d_T_mark_43 : decode (zb m_T_mark) 43 = .ok (.iconst (-1), 1) := zdal_p dlB_T_mark_24 (i := 19) rfl
theorem d_T_mark_44 : decode (zb m_T_mark) 44 = .ok (.ireturn, 1) := zdal_p dlB_T_mark_24 (i := 20) rfl
theorem dlB_T_product_25 : zdal (zb m_T_product) [(0, (.aload_n 0, 1)), (1, (.getfield 28, 3)), (4, (.getfield 85, 3)), (7, (.astore 4, 2)), (9, (.aload 4, 2)), (11, (.iload_n 1, 1)), (12, (.invokevirtual 143, 3)), (15, (.ifCond .eq 21, 3)), (18, (.aload 4, 2)), (20, (.iload_n 2, 1)), (21, (.invokevirtual 143, 3)), (24, (.ifCond .eq 12, 3)), (27, (.aload 4, 2)), (29, (.iload_n 3, 1)), (30, (.invokevirtual 143, 3)), (33, (.ifCond .ne 5, 3)), (36, (.iconst (-1), 1)), (37, (.ireturn, 1)), (38, (.aload_n 0, 1)), (39, (.getfield 28, 3)), (42, (.getfield 169, 3)), (45, (.iload_n 1, 1)), (46, (.iload_n 2, 1)), (47, (.invokevirtual 173, 3))] = true := zDs 0 (by decide +kernel)
theorem d_T_product_0 : decode (zb m_T_product) 0 = .ok (.aload_n 0, 1) := zdal_p dlB_T_product_25 (i := 0) rfl
theorem d_T_product_1 : decode (zb m_T_product) 1 = .ok (.getfield 28, 3) := zdal_p dlB_T_product_25 (i := 1) rfl
theorem d_T_product_4 : decode (zb m_T_product) 4 = .ok (.getfield 85, 3) := zdal_p dlB_T_product_25 (i := 2) rfl
theorem d_T_product_7 : decode (zb m_T_product) 7 = .ok (.astore 4, 2) := zdal_p dlB_T_product_25 (i := 3) rfl
theorem d_T_product_9 : decode (zb m_T_product) 9 = .ok (.aload 4, 2) := zdal_p dlB_T_product_25 (i := 4) rfl
theorem d_T_product_11 : decode (zb m_T_product) 11 = .ok (.iload_n 1, 1) := zdal_p dlB_T_product_25 (i := 5) rfl
theorem d_T_product_12 : decode (zb m_T_product) 12 = .ok (.invokevirtual 143, 3) := zdal_p dlB_T_product_25 (i := 6) rfl
theorem d_T_product_15 : decode (zb m_T_product) 15 = .ok (.ifCond .eq 21, 3) := zdal_p dlB_T_product_25 (i := 7) rfl
theorem d_T_product_18 : decode (zb m_T_product) 18 = .ok (.aload 4, 2) := zdal_p dlB_T_product_25 (i := 8) rfl
theorem d_T_product_20 : decode (zb m_T_product) 20 = .ok (.iload_n 2, 1) := zdal_p dlB_T_product_25 (i := 9) rfl
theorem d_T_product_21 : decode (zb m_T_product) 21 = .ok (.invokevirtual 143, 3) := zdal_p dlB_T_product_25 (i := 10) rfl
theorem d_T_product_24 : decode (zb m_T_product) 24 = .ok (.ifCond .eq 12, 3) := zdal_p dlB_T_product_25 (i := 11) rfl
theorem d_T_product_27 : decode (zb m_T_product) 27 = .ok (.aload 4, 2) := zdal_p dlB_T_product_25 (i := 12) rfl
theorem d_T_product_29 : decode (zb m_T_product) 29 = .ok (.iload_n 3, 1) := zdal_p dlB_T_product_25 (i := 13) rfl
theorem d_T_product_30 : decode (zb m_T_product) 30 = .ok (.invokevirtual 143, 3) := zdal_p dlB_T_product_25 (i := 14) rfl
theorem d_T_product_33 : decode (zb m_T_product) 33 = .ok (.ifCond .ne 5, 3) := zdal_p dlB_T_product_25 (i := 15) rfl
theorem d_T_product_36 : decode (zb m_T_product) 36 = .ok (.iconst (-1), 1) := zdal_p dlB_T_product_25 (i := 16) rfl
theorem d_T_product_37 : decode (zb m_T_product) 37 = .ok (.ireturn, 1) := zdal_p dlB_T_product_25 (i := 17) rfl
theorem d_T_product_38 : decode (zb m_T_product) 38 = .ok (.aload_n 0, 1) := zdal_p dlB_T_product_25 (i := 18) rfl
theorem d_T_product_39 : decode (zb m_T_product) 39 = .ok (.getfield 28, 3) := zdal_p dlB_T_product_25 (i := 19) rfl
theorem d_T_product_42 : decode (zb m_T_product) 42 = .ok (.getfield 169, 3) := zdal_p dlB_T_product_25 (i := 20) rfl
theorem d_T_product_45 : decode (zb m_T_product) 45 = .ok (.iload_n 1, 1) := zdal_p dlB_T_product_25 (i := 21) rfl
theorem d_T_product_46 : decode (zb m_T_product) 46 = .ok (.iload_n 2, 1) := zdal_p dlB_T_product_25 (i := 22) rfl
theorem d_T_product_47 : decode (zb m_T_product) 47 = .ok (.invokevirtual 173, 3) := zdal_p dlB_T_product_25 (i := 23) rfl
theorem dlB_T_product_26 : zdal (zb m_T_product) [(50, (.aload_n 0, 1)), (51, (.getfield 28, 3)), (54, (.getfield 169, 3)), (57, (.bipush 39, 2)), (59, (.iload_n 3, 1)), (60, (.invokevirtual 179, 3)), (63, (.l2i, 1)), (64, (.ireturn, 1))] = true := zDs 50 (by decide +kernel)
theorem d_T_product_50 : decode (zb m_T_product) 50 = .ok (.aload_n 0, 1) := zdal_p dlB_T_product_26 (i := 0) rfl
theorem d_T_product_51 : decode (zb m_T_product) 51 = .ok (.getfield 28, 3) := zdal_p dlB_T_product_26 (i := 1) rfl
theorem d_T_product_54 : decode (zb m_T_product) 54 = .ok (.getfield 169, 3) := zdal_p dlB_T_product_26 (i := 2) rfl
theorem d_T_product_57 : decode (zb m_T_product) 57 = .ok (.bipush 39, 2) := zdal_p dlB_T_product_26 (i := 3) rfl
theorem d_T_product_59 : decode (zb m_T_product) 59 = .ok (.iload_n 3, 1) := zdal_p dlB_T_product_26 (i := 4) rfl
theorem d_T_product_60 : decode (zb m_T_product) 60 = .ok (.invokevirtual 179, 3) := zdal_p dlB_T_product_26 (i := 5) rfl
theorem d_T_product_63 : decode (zb m_T_product) 63 = .ok (.l2i, 1) := zdal_p dlB_T_product_26 (i := 6) rfl
theorem d_T_product_64 : decode (zb m_T_product) 64 = .ok (.ireturn, 1) := zdal_p dlB_T_product_26 (i := 7) rfl
theorem dlB_Sums_putProduct_27 : zdal (zb m_Sums_putProduct) [(0, (.iconst 0, 1)), (1, (.istore_n 3, 1)), (2, (.iload_n 3, 1)), (3, (.aload_n 0, 1)), (4, (.getfield 23, 3)), (7, (.getfield 35, 3)), (10, (.if_icmp .ge 38, 3)), (13, (.aload_n 0, 1)), (14, (.getfield 20, 3)), (17, (.iload_n 3, 1)), (18, (.aload_n 0, 1)), (19, (.getfield 23, 3)), (22, (.iload_n 1, 1)), (23, (.iload_n 3, 1)), (24, (.invokevirtual 54, 3)), (27, (.i2l, 1)), (28, (.aload_n 0, 1)), (29, (.getfield 23, 3)), (32, (.iload_n 2, 1)), (33, (.iload_n 3, 1)), (34, (.invokevirtual 54, 3)), (37, (.i2l, 1)), (38, (.lmul, 1)), (39, (.invokevirtual 31, 3))] = true := zDs 0 (by decide +kernel)
theorem d_Sums_putProduct_0 : decode (zb m_Sums_putProduct) 0 = .ok (.iconst 0, 1) := zdal_p dlB_Sums_putProduct_27 (i := 0) rfl
theorem d_Sums_putProduct_1 : decode (zb m_Sums_putProduct) 1 = .ok (.istore_n 3, 1) := zdal_p dlB_Sums_putProduct_27 (i := 1) rfl
theorem d_Sums_putProduct_2 : decode (zb m_Sums_putProduct) 2 = .ok (.iload_n 3, 1) := zdal_p dlB_Sums_putProduct_27 (i := 2) rfl
theorem d_Sums_putProduct_3 : decode (zb m_Sums_putProduct) 3 = .ok (.aload_n 0, 1) := zdal_p dlB_Sums_putProduct_27 (i := 3) rfl
theorem d_Sums_putProduct_4 : decode (zb m_Sums_putProduct) 4 = .ok (.getfield 23, 3) := zdal_p dlB_Sums_putProduct_27 (i := 4) rfl
theorem d_Sums_putProduct_7 : decode (zb m_Sums_putProduct) 7 = .ok (.getfield 35, 3) := zdal_p dlB_Sums_putProduct_27 (i := 5) rfl
theorem d_Sums_putProduct_10 : decode (zb m_Sums_putProduct) 10 = .ok (.if_icmp .ge 38, 3) := zdal_p dlB_Sums_putProduct_27 (i := 6) rfl
theorem d_Sums_putProduct_13 : decode (zb m_Sums_putProduct) 13 = .ok (.aload_n 0, 1) := zdal_p dlB_Sums_putProduct_27 (i := 7) rfl
theorem d_Sums_putProduct_14 : decode (zb m_Sums_putProduct) 14 = .ok (.getfield 20, 3) := zdal_p dlB_Sums_putProduct_27 (i := 8) rfl
theorem d_Sums_putProduct_17 : decode (zb m_Sums_putProduct) 17 = .ok (.iload_n 3, 1) := zdal_p dlB_Sums_putProduct_27 (i := 9) rfl
theorem d_Sums_putProduct_18 : decode (zb m_Sums_putProduct) 18 = .ok (.aload_n 0, 1) := zdal_p dlB_Sums_putProduct_27 (i := 10) rfl
theorem d_Sums_putProduct_19 : decode (zb m_Sums_putProduct) 19 = .ok (.getfield 23, 3) := zdal_p dlB_Sums_putProduct_27 (i := 11) rfl
theorem d_Sums_putProduct_22 : decode (zb m_Sums_putProduct) 22 = .ok (.iload_n 1, 1) := zdal_p dlB_Sums_putProduct_27 (i := 12) rfl
theorem d_Sums_putProduct_23 : decode (zb m_Sums_putProduct) 23 = .ok (.iload_n 3, 1) := zdal_p dlB_Sums_putProduct_27 (i := 13) rfl
theorem d_Sums_putProduct_24 : decode (zb m_Sums_putProduct) 24 = .ok (.invokevirtual 54, 3) := zdal_p dlB_Sums_putProduct_27 (i := 14) rfl
theorem d_Sums_putProduct_27 : decode (zb m_Sums_putProduct) 27 = .ok (.i2l, 1) := zdal_p dlB_Sums_putProduct_27 (i := 15) rfl
theorem d_Sums_putProduct_28 : decode (zb m_Sums_putProduct) 28 = .ok (.aload_n 0, 1) := zdal_p dlB_Sums_putProduct_27 (i := 16) rfl
theorem d_Sums_putProduct_29 : decode (zb m_Sums_putProduct) 29 = .ok (.getfield 23, 3) := zdal_p dlB_Sums_putProduct_27 (i := 17) rfl
theorem d_Sums_putProduct_32 : decode (zb m_Sums_putProduct) 32 = .ok (.iload_n 2, 1) := zdal_p dlB_Sums_putProduct_27 (i := 18) rfl
theorem d_Sums_putProduct_33 : decode (zb m_Sums_putProduct) 33 = .ok (.iload_n 3, 1) := zdal_p dlB_Sums_putProduct_27 (i := 19) rfl
theorem d_Sums_putProduct_34 : decode (zb m_Sums_putProduct) 34 = .ok (.invokevirtual 54, 3) := zdal_p dlB_Sums_putProduct_27 (i := 20) rfl
theorem d_Sums_putProduct_37 : decode (zb m_Sums_putProduct) 37 = .ok (.i2l, 1) := zdal_p dlB_Sums_putProduct_27 (i := 21) rfl
theorem d_Sums_putProduct_38 : decode (zb m_Sums_putProduct) 38 = .ok (.lmul, 1) := zdal_p dlB_Sums_putProduct_27 (i := 22) rfl
theorem d_Sums_putProduct_39 : decode (zb m_Sums_putProduct) 39 = .ok (.invokevirtual 31, 3) := zdal_p dlB_Sums_putProduct_27 (i := 23) rfl
theorem dlB_Sums_putProduct_28 : zdal (zb m_Sums_putProduct) [(42, (.iinc 3 1, 3)), (45, (.goto (-43), 3)), (48, (.aload_n 0, 1)), (49, (.bipush 39, 2)), (51, (.invokevirtual 58, 3)), (54, (.return_, 1))] = true := zDs 42 (by decide +kernel)
theorem d_Sums_putProduct_42 : decode (zb m_Sums_putProduct) 42 = .ok (.iinc 3 1, 3) := zdal_p dlB_Sums_putProduct_28 (i := 0) rfl
theorem d_Sums_putProduct_45 : decode (zb m_Sums_putProduct) 45 = .ok (.goto (-43), 3) := zdal_p dlB_Sums_putProduct_28 (i := 1) rfl
theorem d_Sums_putProduct_48 : decode (zb m_Sums_putProduct) 48 = .ok (.aload_n 0, 1) := zdal_p dlB_Sums_putProduct_28 (i := 2) rfl
theorem d_Sums_putProduct_49 : decode (zb m_Sums_putProduct) 49 = .ok (.bipush 39, 2) := zdal_p dlB_Sums_putProduct_28 (i := 3) rfl
theorem d_Sums_putProduct_51 : decode (zb m_Sums_putProduct) 51 = .ok (.invokevirtual 58, 3) := zdal_p dlB_Sums_putProduct_28 (i := 4) rfl
theorem d_Sums_putProduct_54 : decode (zb m_Sums_putProduct) 54 = .ok (.return_, 1) := zdal_p dlB_Sums_putProduct_28 (i := 5) rfl
theorem dlB_T_residue_29 : zdal (zb m_T_residue) [(0, (.aload_n 0, 1)), (1, (.getfield 28, 3)), (4, (.getfield 85, 3)), (7, (.iload_n 1, 1)), (8, (.invokevirtual 143, 3)), (11, (.ifCond .eq 25, 3)), (14, (.iload_n 2, 1)), (15, (.invokestatic 183, 3)), (18, (.ifCond .eq 18, 3)), (21, (.aload_n 0, 1)), (22, (.getfield 28, 3)), (25, (.getfield 85, 3)), (28, (.iload_n 1, 1)), (29, (.iload_n 2, 1)), (30, (.invokevirtual 186, 3)), (33, (.goto 4, 3)), (36, (.iconst (-1), 1)), (37, (.ireturn, 1))] = true := zDs 0 (by decide +kernel)
theorem d_T_residue_0 : decode (zb m_T_residue) 0 = .ok (.aload_n 0, 1) := zdal_p dlB_T_residue_29 (i := 0) rfl
theorem d_T_residue_1 : decode (zb m_T_residue) 1 = .ok (.getfield 28, 3) := zdal_p dlB_T_residue_29 (i := 1) rfl
theorem d_T_residue_4 : decode (zb m_T_residue) 4 = .ok (.getfield 85, 3) := zdal_p dlB_T_residue_29 (i := 2) rfl
theorem d_T_residue_7 : decode (zb m_T_residue) 7 = .ok (.iload_n 1, 1) := zdal_p dlB_T_residue_29 (i := 3) rfl
theorem d_T_residue_8 : decode (zb m_T_residue) 8 = .ok (.invokevirtual 143, 3) := zdal_p dlB_T_residue_29 (i := 4) rfl
theorem d_T_residue_11 : decode (zb m_T_residue) 11 = .ok (.ifCond .eq 25, 3) := zdal_p dlB_T_residue_29 (i := 5) rfl
theorem d_T_residue_14 : decode (zb m_T_residue) 14 = .ok (.iload_n 2, 1) := zdal_p dlB_T_residue_29 (i := 6) rfl
theorem d_T_residue_15 : decode (zb m_T_residue) 15 = .ok (.invokestatic 183, 3) := zdal_p dlB_T_residue_29 (i := 7) rfl
theorem d_T_residue_18 : decode (zb m_T_residue) 18 = .ok (.ifCond .eq 18, 3) := zdal_p dlB_T_residue_29 (i := 8) rfl
theorem d_T_residue_21 : decode (zb m_T_residue) 21 = .ok (.aload_n 0, 1) := zdal_p dlB_T_residue_29 (i := 9) rfl
theorem d_T_residue_22 : decode (zb m_T_residue) 22 = .ok (.getfield 28, 3) := zdal_p dlB_T_residue_29 (i := 10) rfl
theorem d_T_residue_25 : decode (zb m_T_residue) 25 = .ok (.getfield 85, 3) := zdal_p dlB_T_residue_29 (i := 11) rfl
theorem d_T_residue_28 : decode (zb m_T_residue) 28 = .ok (.iload_n 1, 1) := zdal_p dlB_T_residue_29 (i := 12) rfl
theorem d_T_residue_29 : decode (zb m_T_residue) 29 = .ok (.iload_n 2, 1) := zdal_p dlB_T_residue_29 (i := 13) rfl
theorem d_T_residue_30 : decode (zb m_T_residue) 30 = .ok (.invokevirtual 186, 3) := zdal_p dlB_T_residue_29 (i := 14) rfl
theorem d_T_residue_33 : decode (zb m_T_residue) 33 = .ok (.goto 4, 3) := zdal_p dlB_T_residue_29 (i := 15) rfl
theorem d_T_residue_36 : decode (zb m_T_residue) 36 = .ok (.iconst (-1), 1) := zdal_p dlB_T_residue_29 (i := 16) rfl
theorem d_T_residue_37 : decode (zb m_T_residue) 37 = .ok (.ireturn, 1) := zdal_p dlB_T_residue_29 (i := 17) rfl
theorem dlB_T_isPrime_30 : zdal (zb m_T_isPrime) [(0, (.iload_n 0, 1)), (1, (.iconst 2, 1)), (2, (.if_icmp .eq 13, 3)), (5, (.iload_n 0, 1)), (6, (.iconst 3, 1)), (7, (.if_icmp .eq 8, 3)), (10, (.iload_n 0, 1)), (11, (.iconst 5, 1)), (12, (.if_icmp .ne 7, 3)), (15, (.iconst 1, 1)), (16, (.goto 4, 3)), (19, (.iconst 0, 1)), (20, (.ireturn, 1))] = true := zDs 0 (by decide +kernel)
theorem d_T_isPrime_0 : decode (zb m_T_isPrime) 0 = .ok (.iload_n 0, 1) := zdal_p dlB_T_isPrime_30 (i := 0) rfl
theorem d_T_isPrime_1 : decode (zb m_T_isPrime) 1 = .ok (.iconst 2, 1) := zdal_p dlB_T_isPrime_30 (i := 1) rfl
theorem d_T_isPrime_2 : decode (zb m_T_isPrime) 2 = .ok (.if_icmp .eq 13, 3) := zdal_p dlB_T_isPrime_30 (i := 2) rfl
theorem d_T_isPrime_5 : decode (zb m_T_isPrime) 5 = .ok (.iload_n 0, 1) := zdal_p dlB_T_isPrime_30 (i := 3) rfl
theorem d_T_isPrime_6 : decode (zb m_T_isPrime) 6 = .ok (.iconst 3, 1) := zdal_p dlB_T_isPrime_30 (i := 4) rfl
theorem d_T_isPrime_7 : decode (zb m_T_isPrime) 7 = .ok (.if_icmp .eq 8, 3) := zdal_p dlB_T_isPrime_30 (i := 5) rfl
theorem d_T_isPrime_10 : decode (zb m_T_isPrime) 10 = .ok (.iload_n 0, 1) := zdal_p dlB_T_isPrime_30 (i := 6) rfl
theorem d_T_isPrime_11 : decode (zb m_T_isPrime) 11 = .ok (.iconst 5, 1) := zdal_p dlB_T_isPrime_30 (i := 7) rfl
theorem d_T_isPrime_12 : decode (zb m_T_isPrime) 12 = .ok (.if_icmp .ne 7, 3) := zdal_p dlB_T_isPrime_30 (i := 8) rfl
theorem d_T_isPrime_15 : decode (zb m_T_isPrime) 15 = .ok (.iconst 1, 1) := zdal_p dlB_T_isPrime_30 (i := 9) rfl
theorem d_T_isPrime_16 : decode (zb m_T_isPrime) 16 = .ok (.goto 4, 3) := zdal_p dlB_T_isPrime_30 (i := 10) rfl
theorem d_T_isPrime_19 : decode (zb m_T_isPrime) 19 = .ok (.iconst 0, 1) := zdal_p dlB_T_isPrime_30 (i := 11) rfl
theorem d_T_isPrime_20 : decode (zb m_T_isPrime) 20 = .ok (.ireturn, 1) := zdal_p dlB_T_isPrime_30 (i := 12) rfl
theorem dlB_Sorts_residueOf_31 : zdal (zb m_Sorts_residueOf) [(0, (.aload_n 0, 1)), (1, (.getfield 26, 3)), (4, (.iload_n 1, 1)), (5, (.invokevirtual 49, 3)), (8, (.istore_n 3, 1)), (9, (.iconst 0, 1)), (10, (.istore 4, 2)), (12, (.iload 4, 2)), (14, (.aload_n 0, 1)), (15, (.getfield 36, 3)), (18, (.if_icmp .ge 71, 3)), (21, (.aload_n 0, 1)), (22, (.getfield 14, 3)), (25, (.iload 4, 2)), (27, (.invokevirtual 49, 3)), (30, (.istore 5, 2)), (32, (.iload 5, 2)), (34, (.iload_n 3, 1)), (35, (.invokestatic 96, 3)), (38, (.ifCond .eq 45, 3)), (41, (.iload_n 3, 1)), (42, (.aload_n 0, 1)), (43, (.getfield 32, 3)), (46, (.iload 5, 2))] = true := zDs 0 (by decide +kernel)
theorem d_Sorts_residueOf_0 : decode (zb m_Sorts_residueOf) 0 = .ok (.aload_n 0, 1) := zdal_p dlB_Sorts_residueOf_31 (i := 0) rfl
theorem d_Sorts_residueOf_1 : decode (zb m_Sorts_residueOf) 1 = .ok (.getfield 26, 3) := zdal_p dlB_Sorts_residueOf_31 (i := 1) rfl
theorem d_Sorts_residueOf_4 : decode (zb m_Sorts_residueOf) 4 = .ok (.iload_n 1, 1) := zdal_p dlB_Sorts_residueOf_31 (i := 2) rfl
theorem d_Sorts_residueOf_5 : decode (zb m_Sorts_residueOf) 5 = .ok (.invokevirtual 49, 3) := zdal_p dlB_Sorts_residueOf_31 (i := 3) rfl
theorem d_Sorts_residueOf_8 : decode (zb m_Sorts_residueOf) 8 = .ok (.istore_n 3, 1) := zdal_p dlB_Sorts_residueOf_31 (i := 4) rfl
theorem d_Sorts_residueOf_9 : decode (zb m_Sorts_residueOf) 9 = .ok (.iconst 0, 1) := zdal_p dlB_Sorts_residueOf_31 (i := 5) rfl
theorem d_Sorts_residueOf_10 : decode (zb m_Sorts_residueOf) 10 = .ok (.istore 4, 2) := zdal_p dlB_Sorts_residueOf_31 (i := 6) rfl
theorem d_Sorts_residueOf_12 : decode (zb m_Sorts_residueOf) 12 = .ok (.iload 4, 2) := zdal_p dlB_Sorts_residueOf_31 (i := 7) rfl
theorem d_Sorts_residueOf_14 : decode (zb m_Sorts_residueOf) 14 = .ok (.aload_n 0, 1) := zdal_p dlB_Sorts_residueOf_31 (i := 8) rfl
theorem d_Sorts_residueOf_15 : decode (zb m_Sorts_residueOf) 15 = .ok (.getfield 36, 3) := zdal_p dlB_Sorts_residueOf_31 (i := 9) rfl
theorem d_Sorts_residueOf_18 : decode (zb m_Sorts_residueOf) 18 = .ok (.if_icmp .ge 71, 3) := zdal_p dlB_Sorts_residueOf_31 (i := 10) rfl
theorem d_Sorts_residueOf_21 : decode (zb m_Sorts_residueOf) 21 = .ok (.aload_n 0, 1) := zdal_p dlB_Sorts_residueOf_31 (i := 11) rfl
theorem d_Sorts_residueOf_22 : decode (zb m_Sorts_residueOf) 22 = .ok (.getfield 14, 3) := zdal_p dlB_Sorts_residueOf_31 (i := 12) rfl
theorem d_Sorts_residueOf_25 : decode (zb m_Sorts_residueOf) 25 = .ok (.iload 4, 2) := zdal_p dlB_Sorts_residueOf_31 (i := 13) rfl
theorem d_Sorts_residueOf_27 : decode (zb m_Sorts_residueOf) 27 = .ok (.invokevirtual 49, 3) := zdal_p dlB_Sorts_residueOf_31 (i := 14) rfl
theorem d_Sorts_residueOf_30 : decode (zb m_Sorts_residueOf) 30 = .ok (.istore 5, 2) := zdal_p dlB_Sorts_residueOf_31 (i := 15) rfl
theorem d_Sorts_residueOf_32 : decode (zb m_Sorts_residueOf) 32 = .ok (.iload 5, 2) := zdal_p dlB_Sorts_residueOf_31 (i := 16) rfl
theorem d_Sorts_residueOf_34 : decode (zb m_Sorts_residueOf) 34 = .ok (.iload_n 3, 1) := zdal_p dlB_Sorts_residueOf_31 (i := 17) rfl
theorem d_Sorts_residueOf_35 : decode (zb m_Sorts_residueOf) 35 = .ok (.invokestatic 96, 3) := zdal_p dlB_Sorts_residueOf_31 (i := 18) rfl
theorem d_Sorts_residueOf_38 : decode (zb m_Sorts_residueOf) 38 = .ok (.ifCond .eq 45, 3) := zdal_p dlB_Sorts_residueOf_31 (i := 19) rfl
theorem d_Sorts_residueOf_41 : decode (zb m_Sorts_residueOf) 41 = .ok (.iload_n 3, 1) := zdal_p dlB_Sorts_residueOf_31 (i := 20) rfl
theorem d_Sorts_residueOf_42 : decode (zb m_Sorts_residueOf) 42 = .ok (.aload_n 0, 1) := zdal_p dlB_Sorts_residueOf_31 (i := 21) rfl
theorem d_Sorts_residueOf_43 : decode (zb m_Sorts_residueOf) 43 = .ok (.getfield 32, 3) := zdal_p dlB_Sorts_residueOf_31 (i := 22) rfl
theorem d_Sorts_residueOf_46 : decode (zb m_Sorts_residueOf) 46 = .ok (.iload 5, 2) := zdal_p dlB_Sorts_residueOf_31 (i := 23) rfl
theorem dlB_Sorts_residueOf_32 : zdal (zb m_Sorts_residueOf) [(48, (.invokevirtual 102, 3)), (51, (.invokestatic 96, 3)), (54, (.ifCond .eq 29, 3)), (57, (.iload 5, 2)), (59, (.invokestatic 78, 3)), (62, (.iload_n 3, 1)), (63, (.invokestatic 78, 3)), (66, (.iload_n 2, 1)), (67, (.invokestatic 105, 3)), (70, (.ifCond .eq 13, 3)), (73, (.aload_n 0, 1)), (74, (.getfield 20, 3)), (77, (.iload 4, 2)), (79, (.invokevirtual 49, 3)), (82, (.ireturn, 1)), (83, (.iinc 4 1, 3)), (86, (.goto (-74), 3)), (89, (.iload_n 1, 1)), (90, (.ireturn, 1))] = true := zDs 48 (by decide +kernel)
theorem d_Sorts_residueOf_48 : decode (zb m_Sorts_residueOf) 48 = .ok (.invokevirtual 102, 3) := zdal_p dlB_Sorts_residueOf_32 (i := 0) rfl
theorem d_Sorts_residueOf_51 : decode (zb m_Sorts_residueOf) 51 = .ok (.invokestatic 96, 3) := zdal_p dlB_Sorts_residueOf_32 (i := 1) rfl
theorem d_Sorts_residueOf_54 : decode (zb m_Sorts_residueOf) 54 = .ok (.ifCond .eq 29, 3) := zdal_p dlB_Sorts_residueOf_32 (i := 2) rfl
theorem d_Sorts_residueOf_57 : decode (zb m_Sorts_residueOf) 57 = .ok (.iload 5, 2) := zdal_p dlB_Sorts_residueOf_32 (i := 3) rfl
theorem d_Sorts_residueOf_59 : decode (zb m_Sorts_residueOf) 59 = .ok (.invokestatic 78, 3) := zdal_p dlB_Sorts_residueOf_32 (i := 4) rfl
theorem d_Sorts_residueOf_62 : decode (zb m_Sorts_residueOf) 62 = .ok (.iload_n 3, 1) := zdal_p dlB_Sorts_residueOf_32 (i := 5) rfl
theorem d_Sorts_residueOf_63 : decode (zb m_Sorts_residueOf) 63 = .ok (.invokestatic 78, 3) := zdal_p dlB_Sorts_residueOf_32 (i := 6) rfl
theorem d_Sorts_residueOf_66 : decode (zb m_Sorts_residueOf) 66 = .ok (.iload_n 2, 1) := zdal_p dlB_Sorts_residueOf_32 (i := 7) rfl
theorem d_Sorts_residueOf_67 : decode (zb m_Sorts_residueOf) 67 = .ok (.invokestatic 105, 3) := zdal_p dlB_Sorts_residueOf_32 (i := 8) rfl
theorem d_Sorts_residueOf_70 : decode (zb m_Sorts_residueOf) 70 = .ok (.ifCond .eq 13, 3) := zdal_p dlB_Sorts_residueOf_32 (i := 9) rfl
theorem d_Sorts_residueOf_73 : decode (zb m_Sorts_residueOf) 73 = .ok (.aload_n 0, 1) := zdal_p dlB_Sorts_residueOf_32 (i := 10) rfl
theorem d_Sorts_residueOf_74 : decode (zb m_Sorts_residueOf) 74 = .ok (.getfield 20, 3) := zdal_p dlB_Sorts_residueOf_32 (i := 11) rfl
theorem d_Sorts_residueOf_77 : decode (zb m_Sorts_residueOf) 77 = .ok (.iload 4, 2) := zdal_p dlB_Sorts_residueOf_32 (i := 12) rfl
theorem d_Sorts_residueOf_79 : decode (zb m_Sorts_residueOf) 79 = .ok (.invokevirtual 49, 3) := zdal_p dlB_Sorts_residueOf_32 (i := 13) rfl
theorem d_Sorts_residueOf_82 : decode (zb m_Sorts_residueOf) 82 = .ok (.ireturn, 1) := zdal_p dlB_Sorts_residueOf_32 (i := 14) rfl
theorem d_Sorts_residueOf_83 : decode (zb m_Sorts_residueOf) 83 = .ok (.iinc 4 1, 3) := zdal_p dlB_Sorts_residueOf_32 (i := 15) rfl
theorem d_Sorts_residueOf_86 : decode (zb m_Sorts_residueOf) 86 = .ok (.goto (-74), 3) := zdal_p dlB_Sorts_residueOf_32 (i := 16) rfl
theorem d_Sorts_residueOf_89 : decode (zb m_Sorts_residueOf) 89 = .ok (.iload_n 1, 1) := zdal_p dlB_Sorts_residueOf_32 (i := 17) rfl
theorem d_Sorts_residueOf_90 : decode (zb m_Sorts_residueOf) 90 = .ok (.ireturn, 1) := zdal_p dlB_Sorts_residueOf_32 (i := 18) rfl
theorem dlB_Sorts_isPowerApart_33 : zdal (zb m_Sorts_isPowerApart) [(0, (.iload_n 0, 1)), (1, (.istore_n 3, 1)), (2, (.iload_n 3, 1)), (3, (.ifCond .le 20, 3)), (6, (.iload_n 3, 1)), (7, (.iload_n 1, 1)), (8, (.if_icmp .ge 15, 3)), (11, (.iload_n 2, 1)), (12, (.iconst 1, 1)), (13, (.if_icmp .le 10, 3)), (16, (.iload_n 3, 1)), (17, (.iload_n 2, 1)), (18, (.imul, 1)), (19, (.istore_n 3, 1)), (20, (.goto (-18), 3)), (23, (.iload_n 3, 1)), (24, (.iload_n 1, 1)), (25, (.if_icmp .ne 7, 3)), (28, (.iconst 1, 1)), (29, (.goto 4, 3)), (32, (.iconst 0, 1)), (33, (.ireturn, 1))] = true := zDs 0 (by decide +kernel)
theorem d_Sorts_isPowerApart_0 : decode (zb m_Sorts_isPowerApart) 0 = .ok (.iload_n 0, 1) := zdal_p dlB_Sorts_isPowerApart_33 (i := 0) rfl
theorem d_Sorts_isPowerApart_1 : decode (zb m_Sorts_isPowerApart) 1 = .ok (.istore_n 3, 1) := zdal_p dlB_Sorts_isPowerApart_33 (i := 1) rfl
theorem d_Sorts_isPowerApart_2 : decode (zb m_Sorts_isPowerApart) 2 = .ok (.iload_n 3, 1) := zdal_p dlB_Sorts_isPowerApart_33 (i := 2) rfl
theorem d_Sorts_isPowerApart_3 : decode (zb m_Sorts_isPowerApart) 3 = .ok (.ifCond .le 20, 3) := zdal_p dlB_Sorts_isPowerApart_33 (i := 3) rfl
theorem d_Sorts_isPowerApart_6 : decode (zb m_Sorts_isPowerApart) 6 = .ok (.iload_n 3, 1) := zdal_p dlB_Sorts_isPowerApart_33 (i := 4) rfl
theorem d_Sorts_isPowerApart_7 : decode (zb m_Sorts_isPowerApart) 7 = .ok (.iload_n 1, 1) := zdal_p dlB_Sorts_isPowerApart_33 (i := 5) rfl
theorem d_Sorts_isPowerApart_8 : decode (zb m_Sorts_isPowerApart) 8 = .ok (.if_icmp .ge 15, 3) := zdal_p dlB_Sorts_isPowerApart_33 (i := 6) rfl
theorem d_Sorts_isPowerApart_11 : decode (zb m_Sorts_isPowerApart) 11 = .ok (.iload_n 2, 1) := zdal_p dlB_Sorts_isPowerApart_33 (i := 7) rfl
theorem d_Sorts_isPowerApart_12 : decode (zb m_Sorts_isPowerApart) 12 = .ok (.iconst 1, 1) := zdal_p dlB_Sorts_isPowerApart_33 (i := 8) rfl
theorem d_Sorts_isPowerApart_13 : decode (zb m_Sorts_isPowerApart) 13 = .ok (.if_icmp .le 10, 3) := zdal_p dlB_Sorts_isPowerApart_33 (i := 9) rfl
theorem d_Sorts_isPowerApart_16 : decode (zb m_Sorts_isPowerApart) 16 = .ok (.iload_n 3, 1) := zdal_p dlB_Sorts_isPowerApart_33 (i := 10) rfl
theorem d_Sorts_isPowerApart_17 : decode (zb m_Sorts_isPowerApart) 17 = .ok (.iload_n 2, 1) := zdal_p dlB_Sorts_isPowerApart_33 (i := 11) rfl
theorem d_Sorts_isPowerApart_18 : decode (zb m_Sorts_isPowerApart) 18 = .ok (.imul, 1) := zdal_p dlB_Sorts_isPowerApart_33 (i := 12) rfl
theorem d_Sorts_isPowerApart_19 : decode (zb m_Sorts_isPowerApart) 19 = .ok (.istore_n 3, 1) := zdal_p dlB_Sorts_isPowerApart_33 (i := 13) rfl
theorem d_Sorts_isPowerApart_20 : decode (zb m_Sorts_isPowerApart) 20 = .ok (.goto (-18), 3) := zdal_p dlB_Sorts_isPowerApart_33 (i := 14) rfl
theorem d_Sorts_isPowerApart_23 : decode (zb m_Sorts_isPowerApart) 23 = .ok (.iload_n 3, 1) := zdal_p dlB_Sorts_isPowerApart_33 (i := 15) rfl
theorem d_Sorts_isPowerApart_24 : decode (zb m_Sorts_isPowerApart) 24 = .ok (.iload_n 1, 1) := zdal_p dlB_Sorts_isPowerApart_33 (i := 16) rfl
theorem d_Sorts_isPowerApart_25 : decode (zb m_Sorts_isPowerApart) 25 = .ok (.if_icmp .ne 7, 3) := zdal_p dlB_Sorts_isPowerApart_33 (i := 17) rfl
theorem d_Sorts_isPowerApart_28 : decode (zb m_Sorts_isPowerApart) 28 = .ok (.iconst 1, 1) := zdal_p dlB_Sorts_isPowerApart_33 (i := 18) rfl
theorem d_Sorts_isPowerApart_29 : decode (zb m_Sorts_isPowerApart) 29 = .ok (.goto 4, 3) := zdal_p dlB_Sorts_isPowerApart_33 (i := 19) rfl
theorem d_Sorts_isPowerApart_32 : decode (zb m_Sorts_isPowerApart) 32 = .ok (.iconst 0, 1) := zdal_p dlB_Sorts_isPowerApart_33 (i := 20) rfl
theorem d_Sorts_isPowerApart_33 : decode (zb m_Sorts_isPowerApart) 33 = .ok (.ireturn, 1) := zdal_p dlB_Sorts_isPowerApart_33 (i := 21) rfl
theorem dlB_T_block_34 : zdal (zb m_T_block) [(0, (.aload_n 0, 1)), (1, (.getfield 28, 3)), (4, (.getfield 85, 3)), (7, (.iload_n 1, 1)), (8, (.invokevirtual 143, 3)), (11, (.ifCond .eq 25, 3)), (14, (.iload_n 2, 1)), (15, (.invokestatic 183, 3)), (18, (.ifCond .eq 18, 3)), (21, (.aload_n 0, 1)), (22, (.getfield 28, 3)), (25, (.getfield 85, 3)), (28, (.iload_n 1, 1)), (29, (.iload_n 2, 1)), (30, (.invokevirtual 189, 3)), (33, (.goto 4, 3)), (36, (.iconst (-1), 1)), (37, (.ireturn, 1))] = true := zDs 0 (by decide +kernel)
theorem d_T_block_0 : decode (zb m_T_block) 0 = .ok (.aload_n 0, 1) := zdal_p dlB_T_block_34 (i := 0) rfl
theorem d_T_block_1 : decode (zb m_T_block) 1 = .ok (.getfield 28, 3) := zdal_p dlB_T_block_34 (i := 1) rfl
theorem d_T_block_4 : decode (zb m_T_block) 4 = .ok (.getfield 85, 3) := zdal_p dlB_T_block_34 (i := 2) rfl
theorem d_T_block_7 : decode (zb m_T_block) 7 = .ok (.iload_n 1, 1) := zdal_p dlB_T_block_34 (i := 3) rfl
theorem d_T_block_8 : decode (zb m_T_block) 8 = .ok (.invokevirtual 143, 3) := zdal_p dlB_T_block_34 (i := 4) rfl
theorem d_T_block_11 : decode (zb m_T_block) 11 = .ok (.ifCond .eq 25, 3) := zdal_p dlB_T_block_34 (i := 5) rfl
theorem d_T_block_14 : decode (zb m_T_block) 14 = .ok (.iload_n 2, 1) := zdal_p dlB_T_block_34 (i := 6) rfl
theorem d_T_block_15 : decode (zb m_T_block) 15 = .ok (.invokestatic 183, 3) := zdal_p dlB_T_block_34 (i := 7) rfl
theorem d_T_block_18 : decode (zb m_T_block) 18 = .ok (.ifCond .eq 18, 3) := zdal_p dlB_T_block_34 (i := 8) rfl
theorem d_T_block_21 : decode (zb m_T_block) 21 = .ok (.aload_n 0, 1) := zdal_p dlB_T_block_34 (i := 9) rfl
theorem d_T_block_22 : decode (zb m_T_block) 22 = .ok (.getfield 28, 3) := zdal_p dlB_T_block_34 (i := 10) rfl
theorem d_T_block_25 : decode (zb m_T_block) 25 = .ok (.getfield 85, 3) := zdal_p dlB_T_block_34 (i := 11) rfl
theorem d_T_block_28 : decode (zb m_T_block) 28 = .ok (.iload_n 1, 1) := zdal_p dlB_T_block_34 (i := 12) rfl
theorem d_T_block_29 : decode (zb m_T_block) 29 = .ok (.iload_n 2, 1) := zdal_p dlB_T_block_34 (i := 13) rfl
theorem d_T_block_30 : decode (zb m_T_block) 30 = .ok (.invokevirtual 189, 3) := zdal_p dlB_T_block_34 (i := 14) rfl
theorem d_T_block_33 : decode (zb m_T_block) 33 = .ok (.goto 4, 3) := zdal_p dlB_T_block_34 (i := 15) rfl
theorem d_T_block_36 : decode (zb m_T_block) 36 = .ok (.iconst (-1), 1) := zdal_p dlB_T_block_34 (i := 16) rfl
theorem d_T_block_37 : decode (zb m_T_block) 37 = .ok (.ireturn, 1) := zdal_p dlB_T_block_34 (i := 17) rfl
theorem dlB_Sorts_blockOf_35 : zdal (zb m_Sorts_blockOf) [(0, (.aload_n 0, 1)), (1, (.iload_n 1, 1)), (2, (.iload_n 2, 1)), (3, (.invokevirtual 109, 3)), (6, (.istore_n 3, 1)), (7, (.iconst 0, 1)), (8, (.istore 4, 2)), (10, (.iconst 0, 1)), (11, (.istore 5, 2)), (13, (.iload 5, 2)), (15, (.aload_n 0, 1)), (16, (.getfield 83, 3)), (19, (.if_icmp .ge 29, 3)), (22, (.aload_n 0, 1)), (23, (.iload 5, 2)), (25, (.iload_n 2, 1)), (26, (.invokevirtual 109, 3)), (29, (.iload_n 3, 1)), (30, (.if_icmp .ne 12, 3)), (33, (.iload 4, 2)), (35, (.iconst 1, 1)), (36, (.iload 5, 2)), (38, (.ishl, 1)), (39, (.ior, 1))] = true := zDs 0 (by decide +kernel)
theorem d_Sorts_blockOf_0 : decode (zb m_Sorts_blockOf) 0 = .ok (.aload_n 0, 1) := zdal_p dlB_Sorts_blockOf_35 (i := 0) rfl
theorem d_Sorts_blockOf_1 : decode (zb m_Sorts_blockOf) 1 = .ok (.iload_n 1, 1) := zdal_p dlB_Sorts_blockOf_35 (i := 1) rfl
theorem d_Sorts_blockOf_2 : decode (zb m_Sorts_blockOf) 2 = .ok (.iload_n 2, 1) := zdal_p dlB_Sorts_blockOf_35 (i := 2) rfl
theorem d_Sorts_blockOf_3 : decode (zb m_Sorts_blockOf) 3 = .ok (.invokevirtual 109, 3) := zdal_p dlB_Sorts_blockOf_35 (i := 3) rfl
theorem d_Sorts_blockOf_6 : decode (zb m_Sorts_blockOf) 6 = .ok (.istore_n 3, 1) := zdal_p dlB_Sorts_blockOf_35 (i := 4) rfl
theorem d_Sorts_blockOf_7 : decode (zb m_Sorts_blockOf) 7 = .ok (.iconst 0, 1) := zdal_p dlB_Sorts_blockOf_35 (i := 5) rfl
theorem d_Sorts_blockOf_8 : decode (zb m_Sorts_blockOf) 8 = .ok (.istore 4, 2) := zdal_p dlB_Sorts_blockOf_35 (i := 6) rfl
theorem d_Sorts_blockOf_10 : decode (zb m_Sorts_blockOf) 10 = .ok (.iconst 0, 1) := zdal_p dlB_Sorts_blockOf_35 (i := 7) rfl
theorem d_Sorts_blockOf_11 : decode (zb m_Sorts_blockOf) 11 = .ok (.istore 5, 2) := zdal_p dlB_Sorts_blockOf_35 (i := 8) rfl
theorem d_Sorts_blockOf_13 : decode (zb m_Sorts_blockOf) 13 = .ok (.iload 5, 2) := zdal_p dlB_Sorts_blockOf_35 (i := 9) rfl
theorem d_Sorts_blockOf_15 : decode (zb m_Sorts_blockOf) 15 = .ok (.aload_n 0, 1) := zdal_p dlB_Sorts_blockOf_35 (i := 10) rfl
theorem d_Sorts_blockOf_16 : decode (zb m_Sorts_blockOf) 16 = .ok (.getfield 83, 3) := zdal_p dlB_Sorts_blockOf_35 (i := 11) rfl
theorem d_Sorts_blockOf_19 : decode (zb m_Sorts_blockOf) 19 = .ok (.if_icmp .ge 29, 3) := zdal_p dlB_Sorts_blockOf_35 (i := 12) rfl
theorem d_Sorts_blockOf_22 : decode (zb m_Sorts_blockOf) 22 = .ok (.aload_n 0, 1) := zdal_p dlB_Sorts_blockOf_35 (i := 13) rfl
theorem d_Sorts_blockOf_23 : decode (zb m_Sorts_blockOf) 23 = .ok (.iload 5, 2) := zdal_p dlB_Sorts_blockOf_35 (i := 14) rfl
theorem d_Sorts_blockOf_25 : decode (zb m_Sorts_blockOf) 25 = .ok (.iload_n 2, 1) := zdal_p dlB_Sorts_blockOf_35 (i := 15) rfl
theorem d_Sorts_blockOf_26 : decode (zb m_Sorts_blockOf) 26 = .ok (.invokevirtual 109, 3) := zdal_p dlB_Sorts_blockOf_35 (i := 16) rfl
theorem d_Sorts_blockOf_29 : decode (zb m_Sorts_blockOf) 29 = .ok (.iload_n 3, 1) := zdal_p dlB_Sorts_blockOf_35 (i := 17) rfl
theorem d_Sorts_blockOf_30 : decode (zb m_Sorts_blockOf) 30 = .ok (.if_icmp .ne 12, 3) := zdal_p dlB_Sorts_blockOf_35 (i := 18) rfl
theorem d_Sorts_blockOf_33 : decode (zb m_Sorts_blockOf) 33 = .ok (.iload 4, 2) := zdal_p dlB_Sorts_blockOf_35 (i := 19) rfl
theorem d_Sorts_blockOf_35 : decode (zb m_Sorts_blockOf) 35 = .ok (.iconst 1, 1) := zdal_p dlB_Sorts_blockOf_35 (i := 20) rfl
theorem d_Sorts_blockOf_36 : decode (zb m_Sorts_blockOf) 36 = .ok (.iload 5, 2) := zdal_p dlB_Sorts_blockOf_35 (i := 21) rfl
theorem d_Sorts_blockOf_38 : decode (zb m_Sorts_blockOf) 38 = .ok (.ishl, 1) := zdal_p dlB_Sorts_blockOf_35 (i := 22) rfl
theorem d_Sorts_blockOf_39 : decode (zb m_Sorts_blockOf) 39 = .ok (.ior, 1) := zdal_p dlB_Sorts_blockOf_35 (i := 23) rfl
theorem dlB_Sorts_blockOf_36 : zdal (zb m_Sorts_blockOf) [(40, (.istore 4, 2)), (42, (.iinc 5 1, 3)), (45, (.goto (-32), 3)), (48, (.iload 4, 2)), (50, (.ireturn, 1))] = true := zDs 40 (by decide +kernel)
theorem d_Sorts_blockOf_40 : decode (zb m_Sorts_blockOf) 40 = .ok (.istore 4, 2) := zdal_p dlB_Sorts_blockOf_36 (i := 0) rfl
theorem d_Sorts_blockOf_42 : decode (zb m_Sorts_blockOf) 42 = .ok (.iinc 5 1, 3) := zdal_p dlB_Sorts_blockOf_36 (i := 1) rfl
theorem d_Sorts_blockOf_45 : decode (zb m_Sorts_blockOf) 45 = .ok (.goto (-32), 3) := zdal_p dlB_Sorts_blockOf_36 (i := 2) rfl
theorem d_Sorts_blockOf_48 : decode (zb m_Sorts_blockOf) 48 = .ok (.iload 4, 2) := zdal_p dlB_Sorts_blockOf_36 (i := 3) rfl
theorem d_Sorts_blockOf_50 : decode (zb m_Sorts_blockOf) 50 = .ok (.ireturn, 1) := zdal_p dlB_Sorts_blockOf_36 (i := 4) rfl
theorem dlB_T_keeper_37 : zdal (zb m_T_keeper) [(0, (.aload_n 0, 1)), (1, (.getfield 28, 3)), (4, (.getfield 61, 3)), (7, (.iload_n 1, 1)), (8, (.invokevirtual 111, 3)), (11, (.ifCond .eq 17, 3)), (14, (.aload_n 0, 1)), (15, (.getfield 28, 3)), (18, (.getfield 61, 3)), (21, (.iload_n 1, 1)), (22, (.invokevirtual 192, 3)), (25, (.goto 4, 3)), (28, (.iconst (-1), 1)), (29, (.ireturn, 1))] = true := zDs 0 (by decide +kernel)
theorem d_T_keeper_0 : decode (zb m_T_keeper) 0 = .ok (.aload_n 0, 1) := zdal_p dlB_T_keeper_37 (i := 0) rfl
theorem d_T_keeper_1 : decode (zb m_T_keeper) 1 = .ok (.getfield 28, 3) := zdal_p dlB_T_keeper_37 (i := 1) rfl
theorem d_T_keeper_4 : decode (zb m_T_keeper) 4 = .ok (.getfield 61, 3) := zdal_p dlB_T_keeper_37 (i := 2) rfl
theorem d_T_keeper_7 : decode (zb m_T_keeper) 7 = .ok (.iload_n 1, 1) := zdal_p dlB_T_keeper_37 (i := 3) rfl
theorem d_T_keeper_8 : decode (zb m_T_keeper) 8 = .ok (.invokevirtual 111, 3) := zdal_p dlB_T_keeper_37 (i := 4) rfl
theorem d_T_keeper_11 : decode (zb m_T_keeper) 11 = .ok (.ifCond .eq 17, 3) := zdal_p dlB_T_keeper_37 (i := 5) rfl
theorem d_T_keeper_14 : decode (zb m_T_keeper) 14 = .ok (.aload_n 0, 1) := zdal_p dlB_T_keeper_37 (i := 6) rfl
theorem d_T_keeper_15 : decode (zb m_T_keeper) 15 = .ok (.getfield 28, 3) := zdal_p dlB_T_keeper_37 (i := 7) rfl
theorem d_T_keeper_18 : decode (zb m_T_keeper) 18 = .ok (.getfield 61, 3) := zdal_p dlB_T_keeper_37 (i := 8) rfl
theorem d_T_keeper_21 : decode (zb m_T_keeper) 21 = .ok (.iload_n 1, 1) := zdal_p dlB_T_keeper_37 (i := 9) rfl
theorem d_T_keeper_22 : decode (zb m_T_keeper) 22 = .ok (.invokevirtual 192, 3) := zdal_p dlB_T_keeper_37 (i := 10) rfl
theorem d_T_keeper_25 : decode (zb m_T_keeper) 25 = .ok (.goto 4, 3) := zdal_p dlB_T_keeper_37 (i := 11) rfl
theorem d_T_keeper_28 : decode (zb m_T_keeper) 28 = .ok (.iconst (-1), 1) := zdal_p dlB_T_keeper_37 (i := 12) rfl
theorem d_T_keeper_29 : decode (zb m_T_keeper) 29 = .ok (.ireturn, 1) := zdal_p dlB_T_keeper_37 (i := 13) rfl
theorem dlB_Group_keepersOf_38 : zdal (zb m_Group_keepersOf) [(0, (.iconst 0, 1)), (1, (.istore_n 2, 1)), (2, (.iconst 0, 1)), (3, (.istore_n 3, 1)), (4, (.iload_n 3, 1)), (5, (.aload_n 0, 1)), (6, (.getfield 39, 3)), (9, (.if_icmp .ge 31, 3)), (12, (.aload_n 0, 1)), (13, (.getfield 20, 3)), (16, (.iload_n 3, 1)), (17, (.invokevirtual 54, 3)), (20, (.iload_n 1, 1)), (21, (.invokestatic 64, 3)), (24, (.iload_n 1, 1)), (25, (.if_icmp .ne 9, 3)), (28, (.iload_n 2, 1)), (29, (.iconst 1, 1)), (30, (.iload_n 3, 1)), (31, (.ishl, 1)), (32, (.ior, 1)), (33, (.istore_n 2, 1)), (34, (.iinc 3 1, 3)), (37, (.goto (-33), 3))] = true := zDs 0 (by decide +kernel)
theorem d_Group_keepersOf_0 : decode (zb m_Group_keepersOf) 0 = .ok (.iconst 0, 1) := zdal_p dlB_Group_keepersOf_38 (i := 0) rfl
theorem d_Group_keepersOf_1 : decode (zb m_Group_keepersOf) 1 = .ok (.istore_n 2, 1) := zdal_p dlB_Group_keepersOf_38 (i := 1) rfl
theorem d_Group_keepersOf_2 : decode (zb m_Group_keepersOf) 2 = .ok (.iconst 0, 1) := zdal_p dlB_Group_keepersOf_38 (i := 2) rfl
theorem d_Group_keepersOf_3 : decode (zb m_Group_keepersOf) 3 = .ok (.istore_n 3, 1) := zdal_p dlB_Group_keepersOf_38 (i := 3) rfl
theorem d_Group_keepersOf_4 : decode (zb m_Group_keepersOf) 4 = .ok (.iload_n 3, 1) := zdal_p dlB_Group_keepersOf_38 (i := 4) rfl
theorem d_Group_keepersOf_5 : decode (zb m_Group_keepersOf) 5 = .ok (.aload_n 0, 1) := zdal_p dlB_Group_keepersOf_38 (i := 5) rfl
theorem d_Group_keepersOf_6 : decode (zb m_Group_keepersOf) 6 = .ok (.getfield 39, 3) := zdal_p dlB_Group_keepersOf_38 (i := 6) rfl
theorem d_Group_keepersOf_9 : decode (zb m_Group_keepersOf) 9 = .ok (.if_icmp .ge 31, 3) := zdal_p dlB_Group_keepersOf_38 (i := 7) rfl
theorem d_Group_keepersOf_12 : decode (zb m_Group_keepersOf) 12 = .ok (.aload_n 0, 1) := zdal_p dlB_Group_keepersOf_38 (i := 8) rfl
theorem d_Group_keepersOf_13 : decode (zb m_Group_keepersOf) 13 = .ok (.getfield 20, 3) := zdal_p dlB_Group_keepersOf_38 (i := 9) rfl
theorem d_Group_keepersOf_16 : decode (zb m_Group_keepersOf) 16 = .ok (.iload_n 3, 1) := zdal_p dlB_Group_keepersOf_38 (i := 10) rfl
theorem d_Group_keepersOf_17 : decode (zb m_Group_keepersOf) 17 = .ok (.invokevirtual 54, 3) := zdal_p dlB_Group_keepersOf_38 (i := 11) rfl
theorem d_Group_keepersOf_20 : decode (zb m_Group_keepersOf) 20 = .ok (.iload_n 1, 1) := zdal_p dlB_Group_keepersOf_38 (i := 12) rfl
theorem d_Group_keepersOf_21 : decode (zb m_Group_keepersOf) 21 = .ok (.invokestatic 64, 3) := zdal_p dlB_Group_keepersOf_38 (i := 13) rfl
theorem d_Group_keepersOf_24 : decode (zb m_Group_keepersOf) 24 = .ok (.iload_n 1, 1) := zdal_p dlB_Group_keepersOf_38 (i := 14) rfl
theorem d_Group_keepersOf_25 : decode (zb m_Group_keepersOf) 25 = .ok (.if_icmp .ne 9, 3) := zdal_p dlB_Group_keepersOf_38 (i := 15) rfl
theorem d_Group_keepersOf_28 : decode (zb m_Group_keepersOf) 28 = .ok (.iload_n 2, 1) := zdal_p dlB_Group_keepersOf_38 (i := 16) rfl
theorem d_Group_keepersOf_29 : decode (zb m_Group_keepersOf) 29 = .ok (.iconst 1, 1) := zdal_p dlB_Group_keepersOf_38 (i := 17) rfl
theorem d_Group_keepersOf_30 : decode (zb m_Group_keepersOf) 30 = .ok (.iload_n 3, 1) := zdal_p dlB_Group_keepersOf_38 (i := 18) rfl
theorem d_Group_keepersOf_31 : decode (zb m_Group_keepersOf) 31 = .ok (.ishl, 1) := zdal_p dlB_Group_keepersOf_38 (i := 19) rfl
theorem d_Group_keepersOf_32 : decode (zb m_Group_keepersOf) 32 = .ok (.ior, 1) := zdal_p dlB_Group_keepersOf_38 (i := 20) rfl
theorem d_Group_keepersOf_33 : decode (zb m_Group_keepersOf) 33 = .ok (.istore_n 2, 1) := zdal_p dlB_Group_keepersOf_38 (i := 21) rfl
theorem d_Group_keepersOf_34 : decode (zb m_Group_keepersOf) 34 = .ok (.iinc 3 1, 3) := zdal_p dlB_Group_keepersOf_38 (i := 22) rfl
theorem d_Group_keepersOf_37 : decode (zb m_Group_keepersOf) 37 = .ok (.goto (-33), 3) := zdal_p dlB_Group_keepersOf_38 (i := 23) rfl
theorem dlB_Group_keepersOf_39 : zdal (zb m_Group_keepersOf) [(40, (.iload_n 2, 1)), (41, (.ireturn, 1))] = true := zDs 40 (by decide +kernel)
theorem d_Group_keepersOf_40 : decode (zb m_Group_keepersOf) 40 = .ok (.iload_n 2, 1) := zdal_p dlB_Group_keepersOf_39 (i := 0) rfl
theorem d_Group_keepersOf_41 : decode (zb m_Group_keepersOf) 41 = .ok (.ireturn, 1) := zdal_p dlB_Group_keepersOf_39 (i := 1) rfl
theorem dlB_T_orbit_40 : zdal (zb m_T_orbit) [(0, (.aload_n 0, 1)), (1, (.getfield 28, 3)), (4, (.getfield 61, 3)), (7, (.iload_n 1, 1)), (8, (.invokevirtual 111, 3)), (11, (.ifCond .eq 17, 3)), (14, (.aload_n 0, 1)), (15, (.getfield 28, 3)), (18, (.getfield 61, 3)), (21, (.iload_n 1, 1)), (22, (.invokevirtual 195, 3)), (25, (.goto 4, 3)), (28, (.iconst (-1), 1)), (29, (.ireturn, 1))] = true := zDs 0 (by decide +kernel)
theorem d_T_orbit_0 : decode (zb m_T_orbit) 0 = .ok (.aload_n 0, 1) := zdal_p dlB_T_orbit_40 (i := 0) rfl
theorem d_T_orbit_1 : decode (zb m_T_orbit) 1 = .ok (.getfield 28, 3) := zdal_p dlB_T_orbit_40 (i := 1) rfl
theorem d_T_orbit_4 : decode (zb m_T_orbit) 4 = .ok (.getfield 61, 3) := zdal_p dlB_T_orbit_40 (i := 2) rfl
theorem d_T_orbit_7 : decode (zb m_T_orbit) 7 = .ok (.iload_n 1, 1) := zdal_p dlB_T_orbit_40 (i := 3) rfl
theorem d_T_orbit_8 : decode (zb m_T_orbit) 8 = .ok (.invokevirtual 111, 3) := zdal_p dlB_T_orbit_40 (i := 4) rfl
theorem d_T_orbit_11 : decode (zb m_T_orbit) 11 = .ok (.ifCond .eq 17, 3) := zdal_p dlB_T_orbit_40 (i := 5) rfl
theorem d_T_orbit_14 : decode (zb m_T_orbit) 14 = .ok (.aload_n 0, 1) := zdal_p dlB_T_orbit_40 (i := 6) rfl
theorem d_T_orbit_15 : decode (zb m_T_orbit) 15 = .ok (.getfield 28, 3) := zdal_p dlB_T_orbit_40 (i := 7) rfl
theorem d_T_orbit_18 : decode (zb m_T_orbit) 18 = .ok (.getfield 61, 3) := zdal_p dlB_T_orbit_40 (i := 8) rfl
theorem d_T_orbit_21 : decode (zb m_T_orbit) 21 = .ok (.iload_n 1, 1) := zdal_p dlB_T_orbit_40 (i := 9) rfl
theorem d_T_orbit_22 : decode (zb m_T_orbit) 22 = .ok (.invokevirtual 195, 3) := zdal_p dlB_T_orbit_40 (i := 10) rfl
theorem d_T_orbit_25 : decode (zb m_T_orbit) 25 = .ok (.goto 4, 3) := zdal_p dlB_T_orbit_40 (i := 11) rfl
theorem d_T_orbit_28 : decode (zb m_T_orbit) 28 = .ok (.iconst (-1), 1) := zdal_p dlB_T_orbit_40 (i := 12) rfl
theorem d_T_orbit_29 : decode (zb m_T_orbit) 29 = .ok (.ireturn, 1) := zdal_p dlB_T_orbit_40 (i := 13) rfl
theorem dlB_Group_reachOf_41 : zdal (zb m_Group_reachOf) [(0, (.aload_n 0, 1)), (1, (.iload_n 1, 1)), (2, (.aload_n 0, 1)), (3, (.invokevirtual 93, 3)), (6, (.invokevirtual 103, 3)), (9, (.ireturn, 1))] = true := zDs 0 (by decide +kernel)
theorem d_Group_reachOf_0 : decode (zb m_Group_reachOf) 0 = .ok (.aload_n 0, 1) := zdal_p dlB_Group_reachOf_41 (i := 0) rfl
theorem d_Group_reachOf_1 : decode (zb m_Group_reachOf) 1 = .ok (.iload_n 1, 1) := zdal_p dlB_Group_reachOf_41 (i := 1) rfl
theorem d_Group_reachOf_2 : decode (zb m_Group_reachOf) 2 = .ok (.aload_n 0, 1) := zdal_p dlB_Group_reachOf_41 (i := 2) rfl
theorem d_Group_reachOf_3 : decode (zb m_Group_reachOf) 3 = .ok (.invokevirtual 93, 3) := zdal_p dlB_Group_reachOf_41 (i := 3) rfl
theorem d_Group_reachOf_6 : decode (zb m_Group_reachOf) 6 = .ok (.invokevirtual 103, 3) := zdal_p dlB_Group_reachOf_41 (i := 4) rfl
theorem d_Group_reachOf_9 : decode (zb m_Group_reachOf) 9 = .ok (.ireturn, 1) := zdal_p dlB_Group_reachOf_41 (i := 5) rfl
theorem dlB_Group_placesReached_42 : zdal (zb m_Group_placesReached) [(0, (.iconst 0, 1)), (1, (.istore_n 3, 1)), (2, (.iconst 0, 1)), (3, (.istore 4, 2)), (5, (.iload 4, 2)), (7, (.aload_n 0, 1)), (8, (.getfield 39, 3)), (11, (.if_icmp .ge 36, 3)), (14, (.iload_n 2, 1)), (15, (.iload 4, 2)), (17, (.invokestatic 73, 3)), (20, (.ifCond .eq 21, 3)), (23, (.iload_n 3, 1)), (24, (.iconst 1, 1)), (25, (.aload_n 0, 1)), (26, (.getfield 20, 3)), (29, (.iload 4, 2)), (31, (.invokevirtual 54, 3)), (34, (.iload_n 1, 1)), (35, (.invokestatic 64, 3)), (38, (.ishl, 1)), (39, (.ior, 1)), (40, (.istore_n 3, 1)), (41, (.iinc 4 1, 3))] = true := zDs 0 (by decide +kernel)
theorem d_Group_placesReached_0 : decode (zb m_Group_placesReached) 0 = .ok (.iconst 0, 1) := zdal_p dlB_Group_placesReached_42 (i := 0) rfl
theorem d_Group_placesReached_1 : decode (zb m_Group_placesReached) 1 = .ok (.istore_n 3, 1) := zdal_p dlB_Group_placesReached_42 (i := 1) rfl
theorem d_Group_placesReached_2 : decode (zb m_Group_placesReached) 2 = .ok (.iconst 0, 1) := zdal_p dlB_Group_placesReached_42 (i := 2) rfl
theorem d_Group_placesReached_3 : decode (zb m_Group_placesReached) 3 = .ok (.istore 4, 2) := zdal_p dlB_Group_placesReached_42 (i := 3) rfl
theorem d_Group_placesReached_5 : decode (zb m_Group_placesReached) 5 = .ok (.iload 4, 2) := zdal_p dlB_Group_placesReached_42 (i := 4) rfl
theorem d_Group_placesReached_7 : decode (zb m_Group_placesReached) 7 = .ok (.aload_n 0, 1) := zdal_p dlB_Group_placesReached_42 (i := 5) rfl
theorem d_Group_placesReached_8 : decode (zb m_Group_placesReached) 8 = .ok (.getfield 39, 3) := zdal_p dlB_Group_placesReached_42 (i := 6) rfl
theorem d_Group_placesReached_11 : decode (zb m_Group_placesReached) 11 = .ok (.if_icmp .ge 36, 3) := zdal_p dlB_Group_placesReached_42 (i := 7) rfl
theorem d_Group_placesReached_14 : decode (zb m_Group_placesReached) 14 = .ok (.iload_n 2, 1) := zdal_p dlB_Group_placesReached_42 (i := 8) rfl
theorem d_Group_placesReached_15 : decode (zb m_Group_placesReached) 15 = .ok (.iload 4, 2) := zdal_p dlB_Group_placesReached_42 (i := 9) rfl
theorem d_Group_placesReached_17 : decode (zb m_Group_placesReached) 17 = .ok (.invokestatic 73, 3) := zdal_p dlB_Group_placesReached_42 (i := 10) rfl
theorem d_Group_placesReached_20 : decode (zb m_Group_placesReached) 20 = .ok (.ifCond .eq 21, 3) := zdal_p dlB_Group_placesReached_42 (i := 11) rfl
theorem d_Group_placesReached_23 : decode (zb m_Group_placesReached) 23 = .ok (.iload_n 3, 1) := zdal_p dlB_Group_placesReached_42 (i := 12) rfl
theorem d_Group_placesReached_24 : decode (zb m_Group_placesReached) 24 = .ok (.iconst 1, 1) := zdal_p dlB_Group_placesReached_42 (i := 13) rfl
theorem d_Group_placesReached_25 : decode (zb m_Group_placesReached) 25 = .ok (.aload_n 0, 1) := zdal_p dlB_Group_placesReached_42 (i := 14) rfl
theorem d_Group_placesReached_26 : decode (zb m_Group_placesReached) 26 = .ok (.getfield 20, 3) := zdal_p dlB_Group_placesReached_42 (i := 15) rfl
theorem d_Group_placesReached_29 : decode (zb m_Group_placesReached) 29 = .ok (.iload 4, 2) := zdal_p dlB_Group_placesReached_42 (i := 16) rfl
theorem d_Group_placesReached_31 : decode (zb m_Group_placesReached) 31 = .ok (.invokevirtual 54, 3) := zdal_p dlB_Group_placesReached_42 (i := 17) rfl
theorem d_Group_placesReached_34 : decode (zb m_Group_placesReached) 34 = .ok (.iload_n 1, 1) := zdal_p dlB_Group_placesReached_42 (i := 18) rfl
theorem d_Group_placesReached_35 : decode (zb m_Group_placesReached) 35 = .ok (.invokestatic 64, 3) := zdal_p dlB_Group_placesReached_42 (i := 19) rfl
theorem d_Group_placesReached_38 : decode (zb m_Group_placesReached) 38 = .ok (.ishl, 1) := zdal_p dlB_Group_placesReached_42 (i := 20) rfl
theorem d_Group_placesReached_39 : decode (zb m_Group_placesReached) 39 = .ok (.ior, 1) := zdal_p dlB_Group_placesReached_42 (i := 21) rfl
theorem d_Group_placesReached_40 : decode (zb m_Group_placesReached) 40 = .ok (.istore_n 3, 1) := zdal_p dlB_Group_placesReached_42 (i := 22) rfl
theorem d_Group_placesReached_41 : decode (zb m_Group_placesReached) 41 = .ok (.iinc 4 1, 3) := zdal_p dlB_Group_placesReached_42 (i := 23) rfl
theorem dlB_Group_placesReached_43 : zdal (zb m_Group_placesReached) [(44, (.goto (-39), 3)), (47, (.iload_n 3, 1)), (48, (.ireturn, 1))] = true := zDs 44 (by decide +kernel)
theorem d_Group_placesReached_44 : decode (zb m_Group_placesReached) 44 = .ok (.goto (-39), 3) := zdal_p dlB_Group_placesReached_43 (i := 0) rfl
theorem d_Group_placesReached_47 : decode (zb m_Group_placesReached) 47 = .ok (.iload_n 3, 1) := zdal_p dlB_Group_placesReached_43 (i := 1) rfl
theorem d_Group_placesReached_48 : decode (zb m_Group_placesReached) 48 = .ok (.ireturn, 1) := zdal_p dlB_Group_placesReached_43 (i := 2) rfl
theorem dlB_T_coset_44 : zdal (zb m_T_coset) [(0, (.aload_n 0, 1)), (1, (.getfield 28, 3)), (4, (.getfield 85, 3)), (7, (.iload_n 1, 1)), (8, (.invokevirtual 143, 3)), (11, (.ifCond .eq 17, 3)), (14, (.aload_n 0, 1)), (15, (.getfield 28, 3)), (18, (.getfield 61, 3)), (21, (.iload_n 2, 1)), (22, (.invokevirtual 108, 3)), (25, (.ifCond .ne 5, 3)), (28, (.iconst (-1), 1)), (29, (.ireturn, 1)), (30, (.aload_n 0, 1)), (31, (.getfield 28, 3)), (34, (.getfield 61, 3)), (37, (.aload_n 0, 1)), (38, (.getfield 28, 3)), (41, (.getfield 85, 3)), (44, (.getfield 146, 3)), (47, (.iload_n 1, 1)), (48, (.invokevirtual 118, 3)), (51, (.iload_n 2, 1))] = true := zDs 0 (by decide +kernel)
theorem d_T_coset_0 : decode (zb m_T_coset) 0 = .ok (.aload_n 0, 1) := zdal_p dlB_T_coset_44 (i := 0) rfl
theorem d_T_coset_1 : decode (zb m_T_coset) 1 = .ok (.getfield 28, 3) := zdal_p dlB_T_coset_44 (i := 1) rfl
theorem d_T_coset_4 : decode (zb m_T_coset) 4 = .ok (.getfield 85, 3) := zdal_p dlB_T_coset_44 (i := 2) rfl
theorem d_T_coset_7 : decode (zb m_T_coset) 7 = .ok (.iload_n 1, 1) := zdal_p dlB_T_coset_44 (i := 3) rfl
theorem d_T_coset_8 : decode (zb m_T_coset) 8 = .ok (.invokevirtual 143, 3) := zdal_p dlB_T_coset_44 (i := 4) rfl
theorem d_T_coset_11 : decode (zb m_T_coset) 11 = .ok (.ifCond .eq 17, 3) := zdal_p dlB_T_coset_44 (i := 5) rfl
theorem d_T_coset_14 : decode (zb m_T_coset) 14 = .ok (.aload_n 0, 1) := zdal_p dlB_T_coset_44 (i := 6) rfl
theorem d_T_coset_15 : decode (zb m_T_coset) 15 = .ok (.getfield 28, 3) := zdal_p dlB_T_coset_44 (i := 7) rfl
theorem d_T_coset_18 : decode (zb m_T_coset) 18 = .ok (.getfield 61, 3) := zdal_p dlB_T_coset_44 (i := 8) rfl
theorem d_T_coset_21 : decode (zb m_T_coset) 21 = .ok (.iload_n 2, 1) := zdal_p dlB_T_coset_44 (i := 9) rfl
theorem d_T_coset_22 : decode (zb m_T_coset) 22 = .ok (.invokevirtual 108, 3) := zdal_p dlB_T_coset_44 (i := 10) rfl
theorem d_T_coset_25 : decode (zb m_T_coset) 25 = .ok (.ifCond .ne 5, 3) := zdal_p dlB_T_coset_44 (i := 11) rfl
theorem d_T_coset_28 : decode (zb m_T_coset) 28 = .ok (.iconst (-1), 1) := zdal_p dlB_T_coset_44 (i := 12) rfl
theorem d_T_coset_29 : decode (zb m_T_coset) 29 = .ok (.ireturn, 1) := zdal_p dlB_T_coset_44 (i := 13) rfl
theorem d_T_coset_30 : decode (zb m_T_coset) 30 = .ok (.aload_n 0, 1) := zdal_p dlB_T_coset_44 (i := 14) rfl
theorem d_T_coset_31 : decode (zb m_T_coset) 31 = .ok (.getfield 28, 3) := zdal_p dlB_T_coset_44 (i := 15) rfl
theorem d_T_coset_34 : decode (zb m_T_coset) 34 = .ok (.getfield 61, 3) := zdal_p dlB_T_coset_44 (i := 16) rfl
theorem d_T_coset_37 : decode (zb m_T_coset) 37 = .ok (.aload_n 0, 1) := zdal_p dlB_T_coset_44 (i := 17) rfl
theorem d_T_coset_38 : decode (zb m_T_coset) 38 = .ok (.getfield 28, 3) := zdal_p dlB_T_coset_44 (i := 18) rfl
theorem d_T_coset_41 : decode (zb m_T_coset) 41 = .ok (.getfield 85, 3) := zdal_p dlB_T_coset_44 (i := 19) rfl
theorem d_T_coset_44 : decode (zb m_T_coset) 44 = .ok (.getfield 146, 3) := zdal_p dlB_T_coset_44 (i := 20) rfl
theorem d_T_coset_47 : decode (zb m_T_coset) 47 = .ok (.iload_n 1, 1) := zdal_p dlB_T_coset_44 (i := 21) rfl
theorem d_T_coset_48 : decode (zb m_T_coset) 48 = .ok (.invokevirtual 118, 3) := zdal_p dlB_T_coset_44 (i := 22) rfl
theorem d_T_coset_51 : decode (zb m_T_coset) 51 = .ok (.iload_n 2, 1) := zdal_p dlB_T_coset_44 (i := 23) rfl
theorem dlB_T_coset_45 : zdal (zb m_T_coset) [(52, (.invokevirtual 198, 3)), (55, (.ireturn, 1))] = true := zDs 52 (by decide +kernel)
theorem d_T_coset_52 : decode (zb m_T_coset) 52 = .ok (.invokevirtual 198, 3) := zdal_p dlB_T_coset_45 (i := 0) rfl
theorem d_T_coset_55 : decode (zb m_T_coset) 55 = .ok (.ireturn, 1) := zdal_p dlB_T_coset_45 (i := 1) rfl
theorem dlB_Group_leastOfCoset_46 : zdal (zb m_Group_leastOfCoset) [(0, (.iload_n 2, 1)), (1, (.istore_n 3, 1)), (2, (.iconst 0, 1)), (3, (.istore 4, 2)), (5, (.iload 4, 2)), (7, (.aload_n 0, 1)), (8, (.getfield 39, 3)), (11, (.if_icmp .ge 30, 3)), (14, (.iload_n 1, 1)), (15, (.iload 4, 2)), (17, (.invokestatic 73, 3)), (20, (.ifCond .eq 15, 3)), (23, (.iload_n 3, 1)), (24, (.aload_n 0, 1)), (25, (.iload 4, 2)), (27, (.iload_n 2, 1)), (28, (.invokevirtual 67, 3)), (31, (.invokestatic 88, 3)), (34, (.istore_n 3, 1)), (35, (.iinc 4 1, 3)), (38, (.goto (-33), 3)), (41, (.iload_n 3, 1)), (42, (.ireturn, 1))] = true := zDs 0 (by decide +kernel)
theorem d_Group_leastOfCoset_0 : decode (zb m_Group_leastOfCoset) 0 = .ok (.iload_n 2, 1) := zdal_p dlB_Group_leastOfCoset_46 (i := 0) rfl
theorem d_Group_leastOfCoset_1 : decode (zb m_Group_leastOfCoset) 1 = .ok (.istore_n 3, 1) := zdal_p dlB_Group_leastOfCoset_46 (i := 1) rfl
theorem d_Group_leastOfCoset_2 : decode (zb m_Group_leastOfCoset) 2 = .ok (.iconst 0, 1) := zdal_p dlB_Group_leastOfCoset_46 (i := 2) rfl
theorem d_Group_leastOfCoset_3 : decode (zb m_Group_leastOfCoset) 3 = .ok (.istore 4, 2) := zdal_p dlB_Group_leastOfCoset_46 (i := 3) rfl
theorem d_Group_leastOfCoset_5 : decode (zb m_Group_leastOfCoset) 5 = .ok (.iload 4, 2) := zdal_p dlB_Group_leastOfCoset_46 (i := 4) rfl
theorem d_Group_leastOfCoset_7 : decode (zb m_Group_leastOfCoset) 7 = .ok (.aload_n 0, 1) := zdal_p dlB_Group_leastOfCoset_46 (i := 5) rfl
theorem d_Group_leastOfCoset_8 : decode (zb m_Group_leastOfCoset) 8 = .ok (.getfield 39, 3) := zdal_p dlB_Group_leastOfCoset_46 (i := 6) rfl
theorem d_Group_leastOfCoset_11 : decode (zb m_Group_leastOfCoset) 11 = .ok (.if_icmp .ge 30, 3) := zdal_p dlB_Group_leastOfCoset_46 (i := 7) rfl
theorem d_Group_leastOfCoset_14 : decode (zb m_Group_leastOfCoset) 14 = .ok (.iload_n 1, 1) := zdal_p dlB_Group_leastOfCoset_46 (i := 8) rfl
theorem d_Group_leastOfCoset_15 : decode (zb m_Group_leastOfCoset) 15 = .ok (.iload 4, 2) := zdal_p dlB_Group_leastOfCoset_46 (i := 9) rfl
theorem d_Group_leastOfCoset_17 : decode (zb m_Group_leastOfCoset) 17 = .ok (.invokestatic 73, 3) := zdal_p dlB_Group_leastOfCoset_46 (i := 10) rfl
theorem d_Group_leastOfCoset_20 : decode (zb m_Group_leastOfCoset) 20 = .ok (.ifCond .eq 15, 3) := zdal_p dlB_Group_leastOfCoset_46 (i := 11) rfl
theorem d_Group_leastOfCoset_23 : decode (zb m_Group_leastOfCoset) 23 = .ok (.iload_n 3, 1) := zdal_p dlB_Group_leastOfCoset_46 (i := 12) rfl
theorem d_Group_leastOfCoset_24 : decode (zb m_Group_leastOfCoset) 24 = .ok (.aload_n 0, 1) := zdal_p dlB_Group_leastOfCoset_46 (i := 13) rfl
theorem d_Group_leastOfCoset_25 : decode (zb m_Group_leastOfCoset) 25 = .ok (.iload 4, 2) := zdal_p dlB_Group_leastOfCoset_46 (i := 14) rfl
theorem d_Group_leastOfCoset_27 : decode (zb m_Group_leastOfCoset) 27 = .ok (.iload_n 2, 1) := zdal_p dlB_Group_leastOfCoset_46 (i := 15) rfl
theorem d_Group_leastOfCoset_28 : decode (zb m_Group_leastOfCoset) 28 = .ok (.invokevirtual 67, 3) := zdal_p dlB_Group_leastOfCoset_46 (i := 16) rfl
theorem d_Group_leastOfCoset_31 : decode (zb m_Group_leastOfCoset) 31 = .ok (.invokestatic 88, 3) := zdal_p dlB_Group_leastOfCoset_46 (i := 17) rfl
theorem d_Group_leastOfCoset_34 : decode (zb m_Group_leastOfCoset) 34 = .ok (.istore_n 3, 1) := zdal_p dlB_Group_leastOfCoset_46 (i := 18) rfl
theorem d_Group_leastOfCoset_35 : decode (zb m_Group_leastOfCoset) 35 = .ok (.iinc 4 1, 3) := zdal_p dlB_Group_leastOfCoset_46 (i := 19) rfl
theorem d_Group_leastOfCoset_38 : decode (zb m_Group_leastOfCoset) 38 = .ok (.goto (-33), 3) := zdal_p dlB_Group_leastOfCoset_46 (i := 20) rfl
theorem d_Group_leastOfCoset_41 : decode (zb m_Group_leastOfCoset) 41 = .ok (.iload_n 3, 1) := zdal_p dlB_Group_leastOfCoset_46 (i := 21) rfl
theorem d_Group_leastOfCoset_42 : decode (zb m_Group_leastOfCoset) 42 = .ok (.ireturn, 1) := zdal_p dlB_Group_leastOfCoset_46 (i := 22) rfl
theorem dlB_T_takes_47 : zdal (zb m_T_takes) [(0, (.aload_n 0, 1)), (1, (.getfield 28, 3)), (4, (.getfield 85, 3)), (7, (.iload_n 1, 1)), (8, (.invokevirtual 143, 3)), (11, (.ifCond .eq 31, 3)), (14, (.aload_n 0, 1)), (15, (.getfield 28, 3)), (18, (.getfield 61, 3)), (21, (.iload_n 2, 1)), (22, (.invokevirtual 108, 3)), (25, (.ifCond .eq 17, 3)), (28, (.aload_n 0, 1)), (29, (.getfield 28, 3)), (32, (.getfield 61, 3)), (35, (.iload_n 3, 1)), (36, (.invokevirtual 108, 3)), (39, (.ifCond .ne 5, 3)), (42, (.iconst (-1), 1)), (43, (.ireturn, 1)), (44, (.aload_n 0, 1)), (45, (.getfield 28, 3)), (48, (.getfield 61, 3)), (51, (.aload_n 0, 1))] = true := zDs 0 (by decide +kernel)
theorem d_T_takes_0 : decode (zb m_T_takes) 0 = .ok (.aload_n 0, 1) := zdal_p dlB_T_takes_47 (i := 0) rfl
theorem d_T_takes_1 : decode (zb m_T_takes) 1 = .ok (.getfield 28, 3) := zdal_p dlB_T_takes_47 (i := 1) rfl
theorem d_T_takes_4 : decode (zb m_T_takes) 4 = .ok (.getfield 85, 3) := zdal_p dlB_T_takes_47 (i := 2) rfl
theorem d_T_takes_7 : decode (zb m_T_takes) 7 = .ok (.iload_n 1, 1) := zdal_p dlB_T_takes_47 (i := 3) rfl
theorem d_T_takes_8 : decode (zb m_T_takes) 8 = .ok (.invokevirtual 143, 3) := zdal_p dlB_T_takes_47 (i := 4) rfl
theorem d_T_takes_11 : decode (zb m_T_takes) 11 = .ok (.ifCond .eq 31, 3) := zdal_p dlB_T_takes_47 (i := 5) rfl
theorem d_T_takes_14 : decode (zb m_T_takes) 14 = .ok (.aload_n 0, 1) := zdal_p dlB_T_takes_47 (i := 6) rfl
theorem d_T_takes_15 : decode (zb m_T_takes) 15 = .ok (.getfield 28, 3) := zdal_p dlB_T_takes_47 (i := 7) rfl
theorem d_T_takes_18 : decode (zb m_T_takes) 18 = .ok (.getfield 61, 3) := zdal_p dlB_T_takes_47 (i := 8) rfl
theorem d_T_takes_21 : decode (zb m_T_takes) 21 = .ok (.iload_n 2, 1) := zdal_p dlB_T_takes_47 (i := 9) rfl
theorem d_T_takes_22 : decode (zb m_T_takes) 22 = .ok (.invokevirtual 108, 3) := zdal_p dlB_T_takes_47 (i := 10) rfl
theorem d_T_takes_25 : decode (zb m_T_takes) 25 = .ok (.ifCond .eq 17, 3) := zdal_p dlB_T_takes_47 (i := 11) rfl
theorem d_T_takes_28 : decode (zb m_T_takes) 28 = .ok (.aload_n 0, 1) := zdal_p dlB_T_takes_47 (i := 12) rfl
theorem d_T_takes_29 : decode (zb m_T_takes) 29 = .ok (.getfield 28, 3) := zdal_p dlB_T_takes_47 (i := 13) rfl
theorem d_T_takes_32 : decode (zb m_T_takes) 32 = .ok (.getfield 61, 3) := zdal_p dlB_T_takes_47 (i := 14) rfl
theorem d_T_takes_35 : decode (zb m_T_takes) 35 = .ok (.iload_n 3, 1) := zdal_p dlB_T_takes_47 (i := 15) rfl
theorem d_T_takes_36 : decode (zb m_T_takes) 36 = .ok (.invokevirtual 108, 3) := zdal_p dlB_T_takes_47 (i := 16) rfl
theorem d_T_takes_39 : decode (zb m_T_takes) 39 = .ok (.ifCond .ne 5, 3) := zdal_p dlB_T_takes_47 (i := 17) rfl
theorem d_T_takes_42 : decode (zb m_T_takes) 42 = .ok (.iconst (-1), 1) := zdal_p dlB_T_takes_47 (i := 18) rfl
theorem d_T_takes_43 : decode (zb m_T_takes) 43 = .ok (.ireturn, 1) := zdal_p dlB_T_takes_47 (i := 19) rfl
theorem d_T_takes_44 : decode (zb m_T_takes) 44 = .ok (.aload_n 0, 1) := zdal_p dlB_T_takes_47 (i := 20) rfl
theorem d_T_takes_45 : decode (zb m_T_takes) 45 = .ok (.getfield 28, 3) := zdal_p dlB_T_takes_47 (i := 21) rfl
theorem d_T_takes_48 : decode (zb m_T_takes) 48 = .ok (.getfield 61, 3) := zdal_p dlB_T_takes_47 (i := 22) rfl
theorem d_T_takes_51 : decode (zb m_T_takes) 51 = .ok (.aload_n 0, 1) := zdal_p dlB_T_takes_47 (i := 23) rfl
theorem dlB_T_takes_48 : zdal (zb m_T_takes) [(52, (.getfield 28, 3)), (55, (.getfield 85, 3)), (58, (.getfield 146, 3)), (61, (.iload_n 1, 1)), (62, (.invokevirtual 118, 3)), (65, (.aload_n 0, 1)), (66, (.getfield 28, 3)), (69, (.getfield 61, 3)), (72, (.iload_n 2, 1)), (73, (.iload_n 3, 1)), (74, (.invokevirtual 128, 3)), (77, (.invokevirtual 198, 3)), (80, (.ireturn, 1))] = true := zDs 52 (by decide +kernel)
theorem d_T_takes_52 : decode (zb m_T_takes) 52 = .ok (.getfield 28, 3) := zdal_p dlB_T_takes_48 (i := 0) rfl
theorem d_T_takes_55 : decode (zb m_T_takes) 55 = .ok (.getfield 85, 3) := zdal_p dlB_T_takes_48 (i := 1) rfl
theorem d_T_takes_58 : decode (zb m_T_takes) 58 = .ok (.getfield 146, 3) := zdal_p dlB_T_takes_48 (i := 2) rfl
theorem d_T_takes_61 : decode (zb m_T_takes) 61 = .ok (.iload_n 1, 1) := zdal_p dlB_T_takes_48 (i := 3) rfl
theorem d_T_takes_62 : decode (zb m_T_takes) 62 = .ok (.invokevirtual 118, 3) := zdal_p dlB_T_takes_48 (i := 4) rfl
theorem d_T_takes_65 : decode (zb m_T_takes) 65 = .ok (.aload_n 0, 1) := zdal_p dlB_T_takes_48 (i := 5) rfl
theorem d_T_takes_66 : decode (zb m_T_takes) 66 = .ok (.getfield 28, 3) := zdal_p dlB_T_takes_48 (i := 6) rfl
theorem d_T_takes_69 : decode (zb m_T_takes) 69 = .ok (.getfield 61, 3) := zdal_p dlB_T_takes_48 (i := 7) rfl
theorem d_T_takes_72 : decode (zb m_T_takes) 72 = .ok (.iload_n 2, 1) := zdal_p dlB_T_takes_48 (i := 8) rfl
theorem d_T_takes_73 : decode (zb m_T_takes) 73 = .ok (.iload_n 3, 1) := zdal_p dlB_T_takes_48 (i := 9) rfl
theorem d_T_takes_74 : decode (zb m_T_takes) 74 = .ok (.invokevirtual 128, 3) := zdal_p dlB_T_takes_48 (i := 10) rfl
theorem d_T_takes_77 : decode (zb m_T_takes) 77 = .ok (.invokevirtual 198, 3) := zdal_p dlB_T_takes_48 (i := 11) rfl
theorem d_T_takes_80 : decode (zb m_T_takes) 80 = .ok (.ireturn, 1) := zdal_p dlB_T_takes_48 (i := 12) rfl
theorem dlB_T_moebius_49 : zdal (zb m_T_moebius) [(0, (.aload_n 0, 1)), (1, (.getfield 28, 3)), (4, (.getfield 85, 3)), (7, (.iload_n 1, 1)), (8, (.invokevirtual 143, 3)), (11, (.ifCond .eq 17, 3)), (14, (.aload_n 0, 1)), (15, (.getfield 28, 3)), (18, (.getfield 85, 3)), (21, (.iload_n 1, 1)), (22, (.invokevirtual 201, 3)), (25, (.goto 5, 3)), (28, (.ldc 204, 2)), (30, (.ireturn, 1))] = true := zDs 0 (by decide +kernel)
theorem d_T_moebius_0 : decode (zb m_T_moebius) 0 = .ok (.aload_n 0, 1) := zdal_p dlB_T_moebius_49 (i := 0) rfl
theorem d_T_moebius_1 : decode (zb m_T_moebius) 1 = .ok (.getfield 28, 3) := zdal_p dlB_T_moebius_49 (i := 1) rfl
theorem d_T_moebius_4 : decode (zb m_T_moebius) 4 = .ok (.getfield 85, 3) := zdal_p dlB_T_moebius_49 (i := 2) rfl
theorem d_T_moebius_7 : decode (zb m_T_moebius) 7 = .ok (.iload_n 1, 1) := zdal_p dlB_T_moebius_49 (i := 3) rfl
theorem d_T_moebius_8 : decode (zb m_T_moebius) 8 = .ok (.invokevirtual 143, 3) := zdal_p dlB_T_moebius_49 (i := 4) rfl
theorem d_T_moebius_11 : decode (zb m_T_moebius) 11 = .ok (.ifCond .eq 17, 3) := zdal_p dlB_T_moebius_49 (i := 5) rfl
theorem d_T_moebius_14 : decode (zb m_T_moebius) 14 = .ok (.aload_n 0, 1) := zdal_p dlB_T_moebius_49 (i := 6) rfl
theorem d_T_moebius_15 : decode (zb m_T_moebius) 15 = .ok (.getfield 28, 3) := zdal_p dlB_T_moebius_49 (i := 7) rfl
theorem d_T_moebius_18 : decode (zb m_T_moebius) 18 = .ok (.getfield 85, 3) := zdal_p dlB_T_moebius_49 (i := 8) rfl
theorem d_T_moebius_21 : decode (zb m_T_moebius) 21 = .ok (.iload_n 1, 1) := zdal_p dlB_T_moebius_49 (i := 9) rfl
theorem d_T_moebius_22 : decode (zb m_T_moebius) 22 = .ok (.invokevirtual 201, 3) := zdal_p dlB_T_moebius_49 (i := 10) rfl
theorem d_T_moebius_25 : decode (zb m_T_moebius) 25 = .ok (.goto 5, 3) := zdal_p dlB_T_moebius_49 (i := 11) rfl
theorem d_T_moebius_28 : decode (zb m_T_moebius) 28 = .ok (.ldc 204, 2) := zdal_p dlB_T_moebius_49 (i := 12) rfl
theorem d_T_moebius_30 : decode (zb m_T_moebius) 30 = .ok (.ireturn, 1) := zdal_p dlB_T_moebius_49 (i := 13) rfl
theorem dlB_Sorts_moebiusOf_50 : zdal (zb m_Sorts_moebiusOf) [(0, (.iconst 0, 1)), (1, (.istore_n 2, 1)), (2, (.aload_n 0, 1)), (3, (.getfield 36, 3)), (6, (.iconst 1, 1)), (7, (.isub, 1)), (8, (.istore_n 3, 1)), (9, (.iload_n 3, 1)), (10, (.ifCond .lt 108, 3)), (13, (.iload_n 3, 1)), (14, (.aload_n 0, 1)), (15, (.getfield 36, 3)), (18, (.iconst 1, 1)), (19, (.isub, 1)), (20, (.if_icmp .ne 7, 3)), (23, (.iconst 1, 1)), (24, (.goto 4, 3)), (27, (.iconst 0, 1)), (28, (.istore 4, 2)), (30, (.iload_n 3, 1)), (31, (.iconst 1, 1)), (32, (.iadd, 1)), (33, (.istore 5, 2)), (35, (.iload 5, 2))] = true := zDs 0 (by decide +kernel)
theorem d_Sorts_moebiusOf_0 : decode (zb m_Sorts_moebiusOf) 0 = .ok (.iconst 0, 1) := zdal_p dlB_Sorts_moebiusOf_50 (i := 0) rfl
theorem d_Sorts_moebiusOf_1 : decode (zb m_Sorts_moebiusOf) 1 = .ok (.istore_n 2, 1) := zdal_p dlB_Sorts_moebiusOf_50 (i := 1) rfl
theorem d_Sorts_moebiusOf_2 : decode (zb m_Sorts_moebiusOf) 2 = .ok (.aload_n 0, 1) := zdal_p dlB_Sorts_moebiusOf_50 (i := 2) rfl
theorem d_Sorts_moebiusOf_3 : decode (zb m_Sorts_moebiusOf) 3 = .ok (.getfield 36, 3) := zdal_p dlB_Sorts_moebiusOf_50 (i := 3) rfl
theorem d_Sorts_moebiusOf_6 : decode (zb m_Sorts_moebiusOf) 6 = .ok (.iconst 1, 1) := zdal_p dlB_Sorts_moebiusOf_50 (i := 4) rfl
theorem d_Sorts_moebiusOf_7 : decode (zb m_Sorts_moebiusOf) 7 = .ok (.isub, 1) := zdal_p dlB_Sorts_moebiusOf_50 (i := 5) rfl
theorem d_Sorts_moebiusOf_8 : decode (zb m_Sorts_moebiusOf) 8 = .ok (.istore_n 3, 1) := zdal_p dlB_Sorts_moebiusOf_50 (i := 6) rfl
theorem d_Sorts_moebiusOf_9 : decode (zb m_Sorts_moebiusOf) 9 = .ok (.iload_n 3, 1) := zdal_p dlB_Sorts_moebiusOf_50 (i := 7) rfl
theorem d_Sorts_moebiusOf_10 : decode (zb m_Sorts_moebiusOf) 10 = .ok (.ifCond .lt 108, 3) := zdal_p dlB_Sorts_moebiusOf_50 (i := 8) rfl
theorem d_Sorts_moebiusOf_13 : decode (zb m_Sorts_moebiusOf) 13 = .ok (.iload_n 3, 1) := zdal_p dlB_Sorts_moebiusOf_50 (i := 9) rfl
theorem d_Sorts_moebiusOf_14 : decode (zb m_Sorts_moebiusOf) 14 = .ok (.aload_n 0, 1) := zdal_p dlB_Sorts_moebiusOf_50 (i := 10) rfl
theorem d_Sorts_moebiusOf_15 : decode (zb m_Sorts_moebiusOf) 15 = .ok (.getfield 36, 3) := zdal_p dlB_Sorts_moebiusOf_50 (i := 11) rfl
theorem d_Sorts_moebiusOf_18 : decode (zb m_Sorts_moebiusOf) 18 = .ok (.iconst 1, 1) := zdal_p dlB_Sorts_moebiusOf_50 (i := 12) rfl
theorem d_Sorts_moebiusOf_19 : decode (zb m_Sorts_moebiusOf) 19 = .ok (.isub, 1) := zdal_p dlB_Sorts_moebiusOf_50 (i := 13) rfl
theorem d_Sorts_moebiusOf_20 : decode (zb m_Sorts_moebiusOf) 20 = .ok (.if_icmp .ne 7, 3) := zdal_p dlB_Sorts_moebiusOf_50 (i := 14) rfl
theorem d_Sorts_moebiusOf_23 : decode (zb m_Sorts_moebiusOf) 23 = .ok (.iconst 1, 1) := zdal_p dlB_Sorts_moebiusOf_50 (i := 15) rfl
theorem d_Sorts_moebiusOf_24 : decode (zb m_Sorts_moebiusOf) 24 = .ok (.goto 4, 3) := zdal_p dlB_Sorts_moebiusOf_50 (i := 16) rfl
theorem d_Sorts_moebiusOf_27 : decode (zb m_Sorts_moebiusOf) 27 = .ok (.iconst 0, 1) := zdal_p dlB_Sorts_moebiusOf_50 (i := 17) rfl
theorem d_Sorts_moebiusOf_28 : decode (zb m_Sorts_moebiusOf) 28 = .ok (.istore 4, 2) := zdal_p dlB_Sorts_moebiusOf_50 (i := 18) rfl
theorem d_Sorts_moebiusOf_30 : decode (zb m_Sorts_moebiusOf) 30 = .ok (.iload_n 3, 1) := zdal_p dlB_Sorts_moebiusOf_50 (i := 19) rfl
theorem d_Sorts_moebiusOf_31 : decode (zb m_Sorts_moebiusOf) 31 = .ok (.iconst 1, 1) := zdal_p dlB_Sorts_moebiusOf_50 (i := 20) rfl
theorem d_Sorts_moebiusOf_32 : decode (zb m_Sorts_moebiusOf) 32 = .ok (.iadd, 1) := zdal_p dlB_Sorts_moebiusOf_50 (i := 21) rfl
theorem d_Sorts_moebiusOf_33 : decode (zb m_Sorts_moebiusOf) 33 = .ok (.istore 5, 2) := zdal_p dlB_Sorts_moebiusOf_50 (i := 22) rfl
theorem d_Sorts_moebiusOf_35 : decode (zb m_Sorts_moebiusOf) 35 = .ok (.iload 5, 2) := zdal_p dlB_Sorts_moebiusOf_50 (i := 23) rfl
theorem dlB_Sorts_moebiusOf_51 : zdal (zb m_Sorts_moebiusOf) [(37, (.aload_n 0, 1)), (38, (.getfield 36, 3)), (41, (.if_icmp .ge 46, 3)), (44, (.aload_n 0, 1)), (45, (.getfield 14, 3)), (48, (.iload_n 3, 1)), (49, (.invokevirtual 49, 3)), (52, (.aload_n 0, 1)), (53, (.getfield 14, 3)), (56, (.iload 5, 2)), (58, (.invokevirtual 49, 3)), (61, (.invokestatic 96, 3)), (64, (.ifCond .eq 17, 3)), (67, (.iload 4, 2)), (69, (.aload_n 0, 1)), (70, (.getfield 23, 3)), (73, (.iload 5, 2)), (75, (.invokevirtual 49, 3)), (78, (.isub, 1)), (79, (.istore 4, 2)), (81, (.iinc 5 1, 3)), (84, (.goto (-49), 3)), (87, (.aload_n 0, 1)), (88, (.getfield 23, 3))] = true := zDs 37 (by decide +kernel)
theorem d_Sorts_moebiusOf_37 : decode (zb m_Sorts_moebiusOf) 37 = .ok (.aload_n 0, 1) := zdal_p dlB_Sorts_moebiusOf_51 (i := 0) rfl
theorem d_Sorts_moebiusOf_38 : decode (zb m_Sorts_moebiusOf) 38 = .ok (.getfield 36, 3) := zdal_p dlB_Sorts_moebiusOf_51 (i := 1) rfl
theorem d_Sorts_moebiusOf_41 : decode (zb m_Sorts_moebiusOf) 41 = .ok (.if_icmp .ge 46, 3) := zdal_p dlB_Sorts_moebiusOf_51 (i := 2) rfl
theorem d_Sorts_moebiusOf_44 : decode (zb m_Sorts_moebiusOf) 44 = .ok (.aload_n 0, 1) := zdal_p dlB_Sorts_moebiusOf_51 (i := 3) rfl
theorem d_Sorts_moebiusOf_45 : decode (zb m_Sorts_moebiusOf) 45 = .ok (.getfield 14, 3) := zdal_p dlB_Sorts_moebiusOf_51 (i := 4) rfl
theorem d_Sorts_moebiusOf_48 : decode (zb m_Sorts_moebiusOf) 48 = .ok (.iload_n 3, 1) := zdal_p dlB_Sorts_moebiusOf_51 (i := 5) rfl
theorem d_Sorts_moebiusOf_49 : decode (zb m_Sorts_moebiusOf) 49 = .ok (.invokevirtual 49, 3) := zdal_p dlB_Sorts_moebiusOf_51 (i := 6) rfl
theorem d_Sorts_moebiusOf_52 : decode (zb m_Sorts_moebiusOf) 52 = .ok (.aload_n 0, 1) := zdal_p dlB_Sorts_moebiusOf_51 (i := 7) rfl
theorem d_Sorts_moebiusOf_53 : decode (zb m_Sorts_moebiusOf) 53 = .ok (.getfield 14, 3) := zdal_p dlB_Sorts_moebiusOf_51 (i := 8) rfl
theorem d_Sorts_moebiusOf_56 : decode (zb m_Sorts_moebiusOf) 56 = .ok (.iload 5, 2) := zdal_p dlB_Sorts_moebiusOf_51 (i := 9) rfl
theorem d_Sorts_moebiusOf_58 : decode (zb m_Sorts_moebiusOf) 58 = .ok (.invokevirtual 49, 3) := zdal_p dlB_Sorts_moebiusOf_51 (i := 10) rfl
theorem d_Sorts_moebiusOf_61 : decode (zb m_Sorts_moebiusOf) 61 = .ok (.invokestatic 96, 3) := zdal_p dlB_Sorts_moebiusOf_51 (i := 11) rfl
theorem d_Sorts_moebiusOf_64 : decode (zb m_Sorts_moebiusOf) 64 = .ok (.ifCond .eq 17, 3) := zdal_p dlB_Sorts_moebiusOf_51 (i := 12) rfl
theorem d_Sorts_moebiusOf_67 : decode (zb m_Sorts_moebiusOf) 67 = .ok (.iload 4, 2) := zdal_p dlB_Sorts_moebiusOf_51 (i := 13) rfl
theorem d_Sorts_moebiusOf_69 : decode (zb m_Sorts_moebiusOf) 69 = .ok (.aload_n 0, 1) := zdal_p dlB_Sorts_moebiusOf_51 (i := 14) rfl
theorem d_Sorts_moebiusOf_70 : decode (zb m_Sorts_moebiusOf) 70 = .ok (.getfield 23, 3) := zdal_p dlB_Sorts_moebiusOf_51 (i := 15) rfl
theorem d_Sorts_moebiusOf_73 : decode (zb m_Sorts_moebiusOf) 73 = .ok (.iload 5, 2) := zdal_p dlB_Sorts_moebiusOf_51 (i := 16) rfl
theorem d_Sorts_moebiusOf_75 : decode (zb m_Sorts_moebiusOf) 75 = .ok (.invokevirtual 49, 3) := zdal_p dlB_Sorts_moebiusOf_51 (i := 17) rfl
theorem d_Sorts_moebiusOf_78 : decode (zb m_Sorts_moebiusOf) 78 = .ok (.isub, 1) := zdal_p dlB_Sorts_moebiusOf_51 (i := 18) rfl
theorem d_Sorts_moebiusOf_79 : decode (zb m_Sorts_moebiusOf) 79 = .ok (.istore 4, 2) := zdal_p dlB_Sorts_moebiusOf_51 (i := 19) rfl
theorem d_Sorts_moebiusOf_81 : decode (zb m_Sorts_moebiusOf) 81 = .ok (.iinc 5 1, 3) := zdal_p dlB_Sorts_moebiusOf_51 (i := 20) rfl
theorem d_Sorts_moebiusOf_84 : decode (zb m_Sorts_moebiusOf) 84 = .ok (.goto (-49), 3) := zdal_p dlB_Sorts_moebiusOf_51 (i := 21) rfl
theorem d_Sorts_moebiusOf_87 : decode (zb m_Sorts_moebiusOf) 87 = .ok (.aload_n 0, 1) := zdal_p dlB_Sorts_moebiusOf_51 (i := 22) rfl
theorem d_Sorts_moebiusOf_88 : decode (zb m_Sorts_moebiusOf) 88 = .ok (.getfield 23, 3) := zdal_p dlB_Sorts_moebiusOf_51 (i := 23) rfl
theorem dlB_Sorts_moebiusOf_52 : zdal (zb m_Sorts_moebiusOf) [(91, (.iload_n 3, 1)), (92, (.iload 4, 2)), (94, (.invokevirtual 40, 3)), (97, (.aload_n 0, 1)), (98, (.getfield 20, 3)), (101, (.iload_n 3, 1)), (102, (.invokevirtual 49, 3)), (105, (.iload_n 1, 1)), (106, (.if_icmp .ne 6, 3)), (109, (.iload 4, 2)), (111, (.istore_n 2, 1)), (112, (.iinc 3 (-1), 3)), (115, (.goto (-106), 3)), (118, (.iload_n 2, 1)), (119, (.ireturn, 1))] = true := zDs 91 (by decide +kernel)
theorem d_Sorts_moebiusOf_91 : decode (zb m_Sorts_moebiusOf) 91 = .ok (.iload_n 3, 1) := zdal_p dlB_Sorts_moebiusOf_52 (i := 0) rfl
theorem d_Sorts_moebiusOf_92 : decode (zb m_Sorts_moebiusOf) 92 = .ok (.iload 4, 2) := zdal_p dlB_Sorts_moebiusOf_52 (i := 1) rfl
theorem d_Sorts_moebiusOf_94 : decode (zb m_Sorts_moebiusOf) 94 = .ok (.invokevirtual 40, 3) := zdal_p dlB_Sorts_moebiusOf_52 (i := 2) rfl
theorem d_Sorts_moebiusOf_97 : decode (zb m_Sorts_moebiusOf) 97 = .ok (.aload_n 0, 1) := zdal_p dlB_Sorts_moebiusOf_52 (i := 3) rfl
theorem d_Sorts_moebiusOf_98 : decode (zb m_Sorts_moebiusOf) 98 = .ok (.getfield 20, 3) := zdal_p dlB_Sorts_moebiusOf_52 (i := 4) rfl
theorem d_Sorts_moebiusOf_101 : decode (zb m_Sorts_moebiusOf) 101 = .ok (.iload_n 3, 1) := zdal_p dlB_Sorts_moebiusOf_52 (i := 5) rfl
theorem d_Sorts_moebiusOf_102 : decode (zb m_Sorts_moebiusOf) 102 = .ok (.invokevirtual 49, 3) := zdal_p dlB_Sorts_moebiusOf_52 (i := 6) rfl
theorem d_Sorts_moebiusOf_105 : decode (zb m_Sorts_moebiusOf) 105 = .ok (.iload_n 1, 1) := zdal_p dlB_Sorts_moebiusOf_52 (i := 7) rfl
theorem d_Sorts_moebiusOf_106 : decode (zb m_Sorts_moebiusOf) 106 = .ok (.if_icmp .ne 6, 3) := zdal_p dlB_Sorts_moebiusOf_52 (i := 8) rfl
theorem d_Sorts_moebiusOf_109 : decode (zb m_Sorts_moebiusOf) 109 = .ok (.iload 4, 2) := zdal_p dlB_Sorts_moebiusOf_52 (i := 9) rfl
theorem d_Sorts_moebiusOf_111 : decode (zb m_Sorts_moebiusOf) 111 = .ok (.istore_n 2, 1) := zdal_p dlB_Sorts_moebiusOf_52 (i := 10) rfl
theorem d_Sorts_moebiusOf_112 : decode (zb m_Sorts_moebiusOf) 112 = .ok (.iinc 3 (-1), 3) := zdal_p dlB_Sorts_moebiusOf_52 (i := 11) rfl
theorem d_Sorts_moebiusOf_115 : decode (zb m_Sorts_moebiusOf) 115 = .ok (.goto (-106), 3) := zdal_p dlB_Sorts_moebiusOf_52 (i := 12) rfl
theorem d_Sorts_moebiusOf_118 : decode (zb m_Sorts_moebiusOf) 118 = .ok (.iload_n 2, 1) := zdal_p dlB_Sorts_moebiusOf_52 (i := 13) rfl
theorem d_Sorts_moebiusOf_119 : decode (zb m_Sorts_moebiusOf) 119 = .ok (.ireturn, 1) := zdal_p dlB_Sorts_moebiusOf_52 (i := 14) rfl
theorem dlB_T_mixed_53 : zdal (zb m_T_mixed) [(0, (.aload_n 0, 1)), (1, (.getfield 28, 3)), (4, (.getfield 85, 3)), (7, (.iload_n 1, 1)), (8, (.invokevirtual 143, 3)), (11, (.ifCond .ne 5, 3)), (14, (.iconst (-1), 1)), (15, (.ireturn, 1)), (16, (.aload_n 0, 1)), (17, (.getfield 28, 3)), (20, (.getfield 85, 3)), (23, (.aload_n 0, 1)), (24, (.getfield 28, 3)), (27, (.getfield 61, 3)), (30, (.aload_n 0, 1)), (31, (.getfield 28, 3)), (34, (.getfield 85, 3)), (37, (.getfield 146, 3)), (40, (.iload_n 1, 1)), (41, (.invokevirtual 118, 3)), (44, (.invokevirtual 205, 3)), (47, (.invokevirtual 140, 3)), (50, (.ireturn, 1))] = true := zDs 0 (by decide +kernel)
theorem d_T_mixed_0 : decode (zb m_T_mixed) 0 = .ok (.aload_n 0, 1) := zdal_p dlB_T_mixed_53 (i := 0) rfl
theorem d_T_mixed_1 : decode (zb m_T_mixed) 1 = .ok (.getfield 28, 3) := zdal_p dlB_T_mixed_53 (i := 1) rfl
theorem d_T_mixed_4 : decode (zb m_T_mixed) 4 = .ok (.getfield 85, 3) := zdal_p dlB_T_mixed_53 (i := 2) rfl
theorem d_T_mixed_7 : decode (zb m_T_mixed) 7 = .ok (.iload_n 1, 1) := zdal_p dlB_T_mixed_53 (i := 3) rfl
theorem d_T_mixed_8 : decode (zb m_T_mixed) 8 = .ok (.invokevirtual 143, 3) := zdal_p dlB_T_mixed_53 (i := 4) rfl
theorem d_T_mixed_11 : decode (zb m_T_mixed) 11 = .ok (.ifCond .ne 5, 3) := zdal_p dlB_T_mixed_53 (i := 5) rfl
theorem d_T_mixed_14 : decode (zb m_T_mixed) 14 = .ok (.iconst (-1), 1) := zdal_p dlB_T_mixed_53 (i := 6) rfl
theorem d_T_mixed_15 : decode (zb m_T_mixed) 15 = .ok (.ireturn, 1) := zdal_p dlB_T_mixed_53 (i := 7) rfl
theorem d_T_mixed_16 : decode (zb m_T_mixed) 16 = .ok (.aload_n 0, 1) := zdal_p dlB_T_mixed_53 (i := 8) rfl
theorem d_T_mixed_17 : decode (zb m_T_mixed) 17 = .ok (.getfield 28, 3) := zdal_p dlB_T_mixed_53 (i := 9) rfl
theorem d_T_mixed_20 : decode (zb m_T_mixed) 20 = .ok (.getfield 85, 3) := zdal_p dlB_T_mixed_53 (i := 10) rfl
theorem d_T_mixed_23 : decode (zb m_T_mixed) 23 = .ok (.aload_n 0, 1) := zdal_p dlB_T_mixed_53 (i := 11) rfl
theorem d_T_mixed_24 : decode (zb m_T_mixed) 24 = .ok (.getfield 28, 3) := zdal_p dlB_T_mixed_53 (i := 12) rfl
theorem d_T_mixed_27 : decode (zb m_T_mixed) 27 = .ok (.getfield 61, 3) := zdal_p dlB_T_mixed_53 (i := 13) rfl
theorem d_T_mixed_30 : decode (zb m_T_mixed) 30 = .ok (.aload_n 0, 1) := zdal_p dlB_T_mixed_53 (i := 14) rfl
theorem d_T_mixed_31 : decode (zb m_T_mixed) 31 = .ok (.getfield 28, 3) := zdal_p dlB_T_mixed_53 (i := 15) rfl
theorem d_T_mixed_34 : decode (zb m_T_mixed) 34 = .ok (.getfield 85, 3) := zdal_p dlB_T_mixed_53 (i := 16) rfl
theorem d_T_mixed_37 : decode (zb m_T_mixed) 37 = .ok (.getfield 146, 3) := zdal_p dlB_T_mixed_53 (i := 17) rfl
theorem d_T_mixed_40 : decode (zb m_T_mixed) 40 = .ok (.iload_n 1, 1) := zdal_p dlB_T_mixed_53 (i := 18) rfl
theorem d_T_mixed_41 : decode (zb m_T_mixed) 41 = .ok (.invokevirtual 118, 3) := zdal_p dlB_T_mixed_53 (i := 19) rfl
theorem d_T_mixed_44 : decode (zb m_T_mixed) 44 = .ok (.invokevirtual 205, 3) := zdal_p dlB_T_mixed_53 (i := 20) rfl
theorem d_T_mixed_47 : decode (zb m_T_mixed) 47 = .ok (.invokevirtual 140, 3) := zdal_p dlB_T_mixed_53 (i := 21) rfl
theorem d_T_mixed_50 : decode (zb m_T_mixed) 50 = .ok (.ireturn, 1) := zdal_p dlB_T_mixed_53 (i := 22) rfl
theorem dlB_Group_mixturesOf_54 : zdal (zb m_Group_mixturesOf) [(0, (.iconst 0, 1)), (1, (.istore_n 2, 1)), (2, (.iconst 0, 1)), (3, (.istore_n 3, 1)), (4, (.iload_n 3, 1)), (5, (.aload_n 0, 1)), (6, (.getfield 39, 3)), (9, (.if_icmp .ge 85, 3)), (12, (.iconst 0, 1)), (13, (.istore 4, 2)), (15, (.iload 4, 2)), (17, (.aload_n 0, 1)), (18, (.getfield 39, 3)), (21, (.if_icmp .ge 67, 3)), (24, (.iload_n 1, 1)), (25, (.iload_n 3, 1)), (26, (.invokestatic 73, 3)), (29, (.ifCond .eq 53, 3)), (32, (.iload_n 1, 1)), (33, (.iload 4, 2)), (35, (.invokestatic 73, 3)), (38, (.ifCond .eq 44, 3)), (41, (.aload_n 0, 1)), (42, (.aload_n 0, 1))] = true := zDs 0 (by decide +kernel)
theorem d_Group_mixturesOf_0 : decode (zb m_Group_mixturesOf) 0 = .ok (.iconst 0, 1) := zdal_p dlB_Group_mixturesOf_54 (i := 0) rfl
theorem d_Group_mixturesOf_1 : decode (zb m_Group_mixturesOf) 1 = .ok (.istore_n 2, 1) := zdal_p dlB_Group_mixturesOf_54 (i := 1) rfl
theorem d_Group_mixturesOf_2 : decode (zb m_Group_mixturesOf) 2 = .ok (.iconst 0, 1) := zdal_p dlB_Group_mixturesOf_54 (i := 2) rfl
theorem d_Group_mixturesOf_3 : decode (zb m_Group_mixturesOf) 3 = .ok (.istore_n 3, 1) := zdal_p dlB_Group_mixturesOf_54 (i := 3) rfl
theorem d_Group_mixturesOf_4 : decode (zb m_Group_mixturesOf) 4 = .ok (.iload_n 3, 1) := zdal_p dlB_Group_mixturesOf_54 (i := 4) rfl
theorem d_Group_mixturesOf_5 : decode (zb m_Group_mixturesOf) 5 = .ok (.aload_n 0, 1) := zdal_p dlB_Group_mixturesOf_54 (i := 5) rfl
theorem d_Group_mixturesOf_6 : decode (zb m_Group_mixturesOf) 6 = .ok (.getfield 39, 3) := zdal_p dlB_Group_mixturesOf_54 (i := 6) rfl
theorem d_Group_mixturesOf_9 : decode (zb m_Group_mixturesOf) 9 = .ok (.if_icmp .ge 85, 3) := zdal_p dlB_Group_mixturesOf_54 (i := 7) rfl
theorem d_Group_mixturesOf_12 : decode (zb m_Group_mixturesOf) 12 = .ok (.iconst 0, 1) := zdal_p dlB_Group_mixturesOf_54 (i := 8) rfl
theorem d_Group_mixturesOf_13 : decode (zb m_Group_mixturesOf) 13 = .ok (.istore 4, 2) := zdal_p dlB_Group_mixturesOf_54 (i := 9) rfl
theorem d_Group_mixturesOf_15 : decode (zb m_Group_mixturesOf) 15 = .ok (.iload 4, 2) := zdal_p dlB_Group_mixturesOf_54 (i := 10) rfl
theorem d_Group_mixturesOf_17 : decode (zb m_Group_mixturesOf) 17 = .ok (.aload_n 0, 1) := zdal_p dlB_Group_mixturesOf_54 (i := 11) rfl
theorem d_Group_mixturesOf_18 : decode (zb m_Group_mixturesOf) 18 = .ok (.getfield 39, 3) := zdal_p dlB_Group_mixturesOf_54 (i := 12) rfl
theorem d_Group_mixturesOf_21 : decode (zb m_Group_mixturesOf) 21 = .ok (.if_icmp .ge 67, 3) := zdal_p dlB_Group_mixturesOf_54 (i := 13) rfl
theorem d_Group_mixturesOf_24 : decode (zb m_Group_mixturesOf) 24 = .ok (.iload_n 1, 1) := zdal_p dlB_Group_mixturesOf_54 (i := 14) rfl
theorem d_Group_mixturesOf_25 : decode (zb m_Group_mixturesOf) 25 = .ok (.iload_n 3, 1) := zdal_p dlB_Group_mixturesOf_54 (i := 15) rfl
theorem d_Group_mixturesOf_26 : decode (zb m_Group_mixturesOf) 26 = .ok (.invokestatic 73, 3) := zdal_p dlB_Group_mixturesOf_54 (i := 16) rfl
theorem d_Group_mixturesOf_29 : decode (zb m_Group_mixturesOf) 29 = .ok (.ifCond .eq 53, 3) := zdal_p dlB_Group_mixturesOf_54 (i := 17) rfl
theorem d_Group_mixturesOf_32 : decode (zb m_Group_mixturesOf) 32 = .ok (.iload_n 1, 1) := zdal_p dlB_Group_mixturesOf_54 (i := 18) rfl
theorem d_Group_mixturesOf_33 : decode (zb m_Group_mixturesOf) 33 = .ok (.iload 4, 2) := zdal_p dlB_Group_mixturesOf_54 (i := 19) rfl
theorem d_Group_mixturesOf_35 : decode (zb m_Group_mixturesOf) 35 = .ok (.invokestatic 73, 3) := zdal_p dlB_Group_mixturesOf_54 (i := 20) rfl
theorem d_Group_mixturesOf_38 : decode (zb m_Group_mixturesOf) 38 = .ok (.ifCond .eq 44, 3) := zdal_p dlB_Group_mixturesOf_54 (i := 21) rfl
theorem d_Group_mixturesOf_41 : decode (zb m_Group_mixturesOf) 41 = .ok (.aload_n 0, 1) := zdal_p dlB_Group_mixturesOf_54 (i := 22) rfl
theorem d_Group_mixturesOf_42 : decode (zb m_Group_mixturesOf) 42 = .ok (.aload_n 0, 1) := zdal_p dlB_Group_mixturesOf_54 (i := 23) rfl
theorem dlB_Group_mixturesOf_55 : zdal (zb m_Group_mixturesOf) [(43, (.getfield 26, 3)), (46, (.iload_n 3, 1)), (47, (.invokevirtual 54, 3)), (50, (.aload_n 0, 1)), (51, (.getfield 26, 3)), (54, (.iload 4, 2)), (56, (.invokevirtual 54, 3)), (59, (.invokevirtual 67, 3)), (62, (.istore 5, 2)), (64, (.iload_n 2, 1)), (65, (.iconst 1, 1)), (66, (.aload_n 0, 1)), (67, (.iload 5, 2)), (69, (.aload_n 0, 1)), (70, (.iload_n 3, 1)), (71, (.iload 4, 2)), (73, (.invokevirtual 67, 3)), (76, (.invokevirtual 67, 3)), (79, (.ishl, 1)), (80, (.ior, 1)), (81, (.istore_n 2, 1)), (82, (.iinc 4 1, 3)), (85, (.goto (-70), 3)), (88, (.iinc 3 1, 3))] = true := zDs 43 (by decide +kernel)
theorem d_Group_mixturesOf_43 : decode (zb m_Group_mixturesOf) 43 = .ok (.getfield 26, 3) := zdal_p dlB_Group_mixturesOf_55 (i := 0) rfl
theorem d_Group_mixturesOf_46 : decode (zb m_Group_mixturesOf) 46 = .ok (.iload_n 3, 1) := zdal_p dlB_Group_mixturesOf_55 (i := 1) rfl
theorem d_Group_mixturesOf_47 : decode (zb m_Group_mixturesOf) 47 = .ok (.invokevirtual 54, 3) := zdal_p dlB_Group_mixturesOf_55 (i := 2) rfl
theorem d_Group_mixturesOf_50 : decode (zb m_Group_mixturesOf) 50 = .ok (.aload_n 0, 1) := zdal_p dlB_Group_mixturesOf_55 (i := 3) rfl
theorem d_Group_mixturesOf_51 : decode (zb m_Group_mixturesOf) 51 = .ok (.getfield 26, 3) := zdal_p dlB_Group_mixturesOf_55 (i := 4) rfl
theorem d_Group_mixturesOf_54 : decode (zb m_Group_mixturesOf) 54 = .ok (.iload 4, 2) := zdal_p dlB_Group_mixturesOf_55 (i := 5) rfl
theorem d_Group_mixturesOf_56 : decode (zb m_Group_mixturesOf) 56 = .ok (.invokevirtual 54, 3) := zdal_p dlB_Group_mixturesOf_55 (i := 6) rfl
theorem d_Group_mixturesOf_59 : decode (zb m_Group_mixturesOf) 59 = .ok (.invokevirtual 67, 3) := zdal_p dlB_Group_mixturesOf_55 (i := 7) rfl
theorem d_Group_mixturesOf_62 : decode (zb m_Group_mixturesOf) 62 = .ok (.istore 5, 2) := zdal_p dlB_Group_mixturesOf_55 (i := 8) rfl
theorem d_Group_mixturesOf_64 : decode (zb m_Group_mixturesOf) 64 = .ok (.iload_n 2, 1) := zdal_p dlB_Group_mixturesOf_55 (i := 9) rfl
theorem d_Group_mixturesOf_65 : decode (zb m_Group_mixturesOf) 65 = .ok (.iconst 1, 1) := zdal_p dlB_Group_mixturesOf_55 (i := 10) rfl
theorem d_Group_mixturesOf_66 : decode (zb m_Group_mixturesOf) 66 = .ok (.aload_n 0, 1) := zdal_p dlB_Group_mixturesOf_55 (i := 11) rfl
theorem d_Group_mixturesOf_67 : decode (zb m_Group_mixturesOf) 67 = .ok (.iload 5, 2) := zdal_p dlB_Group_mixturesOf_55 (i := 12) rfl
theorem d_Group_mixturesOf_69 : decode (zb m_Group_mixturesOf) 69 = .ok (.aload_n 0, 1) := zdal_p dlB_Group_mixturesOf_55 (i := 13) rfl
theorem d_Group_mixturesOf_70 : decode (zb m_Group_mixturesOf) 70 = .ok (.iload_n 3, 1) := zdal_p dlB_Group_mixturesOf_55 (i := 14) rfl
theorem d_Group_mixturesOf_71 : decode (zb m_Group_mixturesOf) 71 = .ok (.iload 4, 2) := zdal_p dlB_Group_mixturesOf_55 (i := 15) rfl
theorem d_Group_mixturesOf_73 : decode (zb m_Group_mixturesOf) 73 = .ok (.invokevirtual 67, 3) := zdal_p dlB_Group_mixturesOf_55 (i := 16) rfl
theorem d_Group_mixturesOf_76 : decode (zb m_Group_mixturesOf) 76 = .ok (.invokevirtual 67, 3) := zdal_p dlB_Group_mixturesOf_55 (i := 17) rfl
theorem d_Group_mixturesOf_79 : decode (zb m_Group_mixturesOf) 79 = .ok (.ishl, 1) := zdal_p dlB_Group_mixturesOf_55 (i := 18) rfl
theorem d_Group_mixturesOf_80 : decode (zb m_Group_mixturesOf) 80 = .ok (.ior, 1) := zdal_p dlB_Group_mixturesOf_55 (i := 19) rfl
theorem d_Group_mixturesOf_81 : decode (zb m_Group_mixturesOf) 81 = .ok (.istore_n 2, 1) := zdal_p dlB_Group_mixturesOf_55 (i := 20) rfl
theorem d_Group_mixturesOf_82 : decode (zb m_Group_mixturesOf) 82 = .ok (.iinc 4 1, 3) := zdal_p dlB_Group_mixturesOf_55 (i := 21) rfl
theorem d_Group_mixturesOf_85 : decode (zb m_Group_mixturesOf) 85 = .ok (.goto (-70), 3) := zdal_p dlB_Group_mixturesOf_55 (i := 22) rfl
theorem d_Group_mixturesOf_88 : decode (zb m_Group_mixturesOf) 88 = .ok (.iinc 3 1, 3) := zdal_p dlB_Group_mixturesOf_55 (i := 23) rfl
theorem dlB_Group_mixturesOf_56 : zdal (zb m_Group_mixturesOf) [(91, (.goto (-87), 3)), (94, (.iload_n 2, 1)), (95, (.ireturn, 1))] = true := zDs 91 (by decide +kernel)
theorem d_Group_mixturesOf_91 : decode (zb m_Group_mixturesOf) 91 = .ok (.goto (-87), 3) := zdal_p dlB_Group_mixturesOf_56 (i := 0) rfl
theorem d_Group_mixturesOf_94 : decode (zb m_Group_mixturesOf) 94 = .ok (.iload_n 2, 1) := zdal_p dlB_Group_mixturesOf_56 (i := 1) rfl
theorem d_Group_mixturesOf_95 : decode (zb m_Group_mixturesOf) 95 = .ok (.ireturn, 1) := zdal_p dlB_Group_mixturesOf_56 (i := 2) rfl
theorem dlB_T_centre_57 : zdal (zb m_T_centre) [(0, (.aload_n 0, 1)), (1, (.getfield 28, 3)), (4, (.getfield 85, 3)), (7, (.iload_n 1, 1)), (8, (.invokevirtual 143, 3)), (11, (.ifCond .eq 30, 3)), (14, (.aload_n 0, 1)), (15, (.getfield 28, 3)), (18, (.getfield 61, 3)), (21, (.aload_n 0, 1)), (22, (.getfield 28, 3)), (25, (.getfield 85, 3)), (28, (.getfield 146, 3)), (31, (.iload_n 1, 1)), (32, (.invokevirtual 118, 3)), (35, (.invokevirtual 208, 3)), (38, (.goto 4, 3)), (41, (.iconst (-1), 1)), (42, (.ireturn, 1))] = true := zDs 0 (by decide +kernel)
theorem d_T_centre_0 : decode (zb m_T_centre) 0 = .ok (.aload_n 0, 1) := zdal_p dlB_T_centre_57 (i := 0) rfl
theorem d_T_centre_1 : decode (zb m_T_centre) 1 = .ok (.getfield 28, 3) := zdal_p dlB_T_centre_57 (i := 1) rfl
theorem d_T_centre_4 : decode (zb m_T_centre) 4 = .ok (.getfield 85, 3) := zdal_p dlB_T_centre_57 (i := 2) rfl
theorem d_T_centre_7 : decode (zb m_T_centre) 7 = .ok (.iload_n 1, 1) := zdal_p dlB_T_centre_57 (i := 3) rfl
theorem d_T_centre_8 : decode (zb m_T_centre) 8 = .ok (.invokevirtual 143, 3) := zdal_p dlB_T_centre_57 (i := 4) rfl
theorem d_T_centre_11 : decode (zb m_T_centre) 11 = .ok (.ifCond .eq 30, 3) := zdal_p dlB_T_centre_57 (i := 5) rfl
theorem d_T_centre_14 : decode (zb m_T_centre) 14 = .ok (.aload_n 0, 1) := zdal_p dlB_T_centre_57 (i := 6) rfl
theorem d_T_centre_15 : decode (zb m_T_centre) 15 = .ok (.getfield 28, 3) := zdal_p dlB_T_centre_57 (i := 7) rfl
theorem d_T_centre_18 : decode (zb m_T_centre) 18 = .ok (.getfield 61, 3) := zdal_p dlB_T_centre_57 (i := 8) rfl
theorem d_T_centre_21 : decode (zb m_T_centre) 21 = .ok (.aload_n 0, 1) := zdal_p dlB_T_centre_57 (i := 9) rfl
theorem d_T_centre_22 : decode (zb m_T_centre) 22 = .ok (.getfield 28, 3) := zdal_p dlB_T_centre_57 (i := 10) rfl
theorem d_T_centre_25 : decode (zb m_T_centre) 25 = .ok (.getfield 85, 3) := zdal_p dlB_T_centre_57 (i := 11) rfl
theorem d_T_centre_28 : decode (zb m_T_centre) 28 = .ok (.getfield 146, 3) := zdal_p dlB_T_centre_57 (i := 12) rfl
theorem d_T_centre_31 : decode (zb m_T_centre) 31 = .ok (.iload_n 1, 1) := zdal_p dlB_T_centre_57 (i := 13) rfl
theorem d_T_centre_32 : decode (zb m_T_centre) 32 = .ok (.invokevirtual 118, 3) := zdal_p dlB_T_centre_57 (i := 14) rfl
theorem d_T_centre_35 : decode (zb m_T_centre) 35 = .ok (.invokevirtual 208, 3) := zdal_p dlB_T_centre_57 (i := 15) rfl
theorem d_T_centre_38 : decode (zb m_T_centre) 38 = .ok (.goto 4, 3) := zdal_p dlB_T_centre_57 (i := 16) rfl
theorem d_T_centre_41 : decode (zb m_T_centre) 41 = .ok (.iconst (-1), 1) := zdal_p dlB_T_centre_57 (i := 17) rfl
theorem d_T_centre_42 : decode (zb m_T_centre) 42 = .ok (.ireturn, 1) := zdal_p dlB_T_centre_57 (i := 18) rfl
theorem dlB_T_pairs_58 : zdal (zb m_T_pairs) [(0, (.aload_n 0, 1)), (1, (.getfield 28, 3)), (4, (.getfield 85, 3)), (7, (.iload_n 1, 1)), (8, (.invokevirtual 143, 3)), (11, (.ifCond .eq 17, 3)), (14, (.aload_n 0, 1)), (15, (.getfield 28, 3)), (18, (.getfield 85, 3)), (21, (.iload_n 2, 1)), (22, (.invokevirtual 143, 3)), (25, (.ifCond .ne 5, 3)), (28, (.iconst (-1), 1)), (29, (.ireturn, 1)), (30, (.aload_n 0, 1)), (31, (.getfield 28, 3)), (34, (.getfield 169, 3)), (37, (.iload_n 1, 1)), (38, (.iload_n 2, 1)), (39, (.invokevirtual 173, 3)), (42, (.aload_n 0, 1)), (43, (.getfield 28, 3)), (46, (.getfield 169, 3)), (49, (.invokevirtual 211, 3))] = true := zDs 0 (by decide +kernel)
theorem d_T_pairs_0 : decode (zb m_T_pairs) 0 = .ok (.aload_n 0, 1) := zdal_p dlB_T_pairs_58 (i := 0) rfl
theorem d_T_pairs_1 : decode (zb m_T_pairs) 1 = .ok (.getfield 28, 3) := zdal_p dlB_T_pairs_58 (i := 1) rfl
theorem d_T_pairs_4 : decode (zb m_T_pairs) 4 = .ok (.getfield 85, 3) := zdal_p dlB_T_pairs_58 (i := 2) rfl
theorem d_T_pairs_7 : decode (zb m_T_pairs) 7 = .ok (.iload_n 1, 1) := zdal_p dlB_T_pairs_58 (i := 3) rfl
theorem d_T_pairs_8 : decode (zb m_T_pairs) 8 = .ok (.invokevirtual 143, 3) := zdal_p dlB_T_pairs_58 (i := 4) rfl
theorem d_T_pairs_11 : decode (zb m_T_pairs) 11 = .ok (.ifCond .eq 17, 3) := zdal_p dlB_T_pairs_58 (i := 5) rfl
theorem d_T_pairs_14 : decode (zb m_T_pairs) 14 = .ok (.aload_n 0, 1) := zdal_p dlB_T_pairs_58 (i := 6) rfl
theorem d_T_pairs_15 : decode (zb m_T_pairs) 15 = .ok (.getfield 28, 3) := zdal_p dlB_T_pairs_58 (i := 7) rfl
theorem d_T_pairs_18 : decode (zb m_T_pairs) 18 = .ok (.getfield 85, 3) := zdal_p dlB_T_pairs_58 (i := 8) rfl
theorem d_T_pairs_21 : decode (zb m_T_pairs) 21 = .ok (.iload_n 2, 1) := zdal_p dlB_T_pairs_58 (i := 9) rfl
theorem d_T_pairs_22 : decode (zb m_T_pairs) 22 = .ok (.invokevirtual 143, 3) := zdal_p dlB_T_pairs_58 (i := 10) rfl
theorem d_T_pairs_25 : decode (zb m_T_pairs) 25 = .ok (.ifCond .ne 5, 3) := zdal_p dlB_T_pairs_58 (i := 11) rfl
theorem d_T_pairs_28 : decode (zb m_T_pairs) 28 = .ok (.iconst (-1), 1) := zdal_p dlB_T_pairs_58 (i := 12) rfl
theorem d_T_pairs_29 : decode (zb m_T_pairs) 29 = .ok (.ireturn, 1) := zdal_p dlB_T_pairs_58 (i := 13) rfl
theorem d_T_pairs_30 : decode (zb m_T_pairs) 30 = .ok (.aload_n 0, 1) := zdal_p dlB_T_pairs_58 (i := 14) rfl
theorem d_T_pairs_31 : decode (zb m_T_pairs) 31 = .ok (.getfield 28, 3) := zdal_p dlB_T_pairs_58 (i := 15) rfl
theorem d_T_pairs_34 : decode (zb m_T_pairs) 34 = .ok (.getfield 169, 3) := zdal_p dlB_T_pairs_58 (i := 16) rfl
theorem d_T_pairs_37 : decode (zb m_T_pairs) 37 = .ok (.iload_n 1, 1) := zdal_p dlB_T_pairs_58 (i := 17) rfl
theorem d_T_pairs_38 : decode (zb m_T_pairs) 38 = .ok (.iload_n 2, 1) := zdal_p dlB_T_pairs_58 (i := 18) rfl
theorem d_T_pairs_39 : decode (zb m_T_pairs) 39 = .ok (.invokevirtual 173, 3) := zdal_p dlB_T_pairs_58 (i := 19) rfl
theorem d_T_pairs_42 : decode (zb m_T_pairs) 42 = .ok (.aload_n 0, 1) := zdal_p dlB_T_pairs_58 (i := 20) rfl
theorem d_T_pairs_43 : decode (zb m_T_pairs) 43 = .ok (.getfield 28, 3) := zdal_p dlB_T_pairs_58 (i := 21) rfl
theorem d_T_pairs_46 : decode (zb m_T_pairs) 46 = .ok (.getfield 169, 3) := zdal_p dlB_T_pairs_58 (i := 22) rfl
theorem d_T_pairs_49 : decode (zb m_T_pairs) 49 = .ok (.invokevirtual 211, 3) := zdal_p dlB_T_pairs_58 (i := 23) rfl
theorem dlB_T_pairs_59 : zdal (zb m_T_pairs) [(52, (.ireturn, 1))] = true := zDs 52 (by decide +kernel)
theorem d_T_pairs_52 : decode (zb m_T_pairs) 52 = .ok (.ireturn, 1) := zdal_p dlB_T_pairs_59 (i := 0) rfl
theorem dlB_Sums_totalOfWork_60 : zdal (zb m_Sums_totalOfWork) [(0, (.lconst 0, 1)), (1, (.lstore_n 1, 1)), (2, (.iconst 0, 1)), (3, (.istore_n 3, 1)), (4, (.iload_n 3, 1)), (5, (.aload_n 0, 1)), (6, (.getfield 23, 3)), (9, (.getfield 35, 3)), (12, (.if_icmp .ge 19, 3)), (15, (.lload_n 1, 1)), (16, (.aload_n 0, 1)), (17, (.bipush 39, 2)), (19, (.iload_n 3, 1)), (20, (.invokevirtual 67, 3)), (23, (.ladd, 1)), (24, (.lstore_n 1, 1)), (25, (.iinc 3 1, 3)), (28, (.goto (-24), 3)), (31, (.lload_n 1, 1)), (32, (.l2i, 1)), (33, (.ireturn, 1))] = true := zDs 0 (by decide +kernel)
theorem d_Sums_totalOfWork_0 : decode (zb m_Sums_totalOfWork) 0 = .ok (.lconst 0, 1) := zdal_p dlB_Sums_totalOfWork_60 (i := 0) rfl
theorem d_Sums_totalOfWork_1 : decode (zb m_Sums_totalOfWork) 1 = .ok (.lstore_n 1, 1) := zdal_p dlB_Sums_totalOfWork_60 (i := 1) rfl
theorem d_Sums_totalOfWork_2 : decode (zb m_Sums_totalOfWork) 2 = .ok (.iconst 0, 1) := zdal_p dlB_Sums_totalOfWork_60 (i := 2) rfl
theorem d_Sums_totalOfWork_3 : decode (zb m_Sums_totalOfWork) 3 = .ok (.istore_n 3, 1) := zdal_p dlB_Sums_totalOfWork_60 (i := 3) rfl
theorem d_Sums_totalOfWork_4 : decode (zb m_Sums_totalOfWork) 4 = .ok (.iload_n 3, 1) := zdal_p dlB_Sums_totalOfWork_60 (i := 4) rfl
theorem d_Sums_totalOfWork_5 : decode (zb m_Sums_totalOfWork) 5 = .ok (.aload_n 0, 1) := zdal_p dlB_Sums_totalOfWork_60 (i := 5) rfl
theorem d_Sums_totalOfWork_6 : decode (zb m_Sums_totalOfWork) 6 = .ok (.getfield 23, 3) := zdal_p dlB_Sums_totalOfWork_60 (i := 6) rfl
theorem d_Sums_totalOfWork_9 : decode (zb m_Sums_totalOfWork) 9 = .ok (.getfield 35, 3) := zdal_p dlB_Sums_totalOfWork_60 (i := 7) rfl
theorem d_Sums_totalOfWork_12 : decode (zb m_Sums_totalOfWork) 12 = .ok (.if_icmp .ge 19, 3) := zdal_p dlB_Sums_totalOfWork_60 (i := 8) rfl
theorem d_Sums_totalOfWork_15 : decode (zb m_Sums_totalOfWork) 15 = .ok (.lload_n 1, 1) := zdal_p dlB_Sums_totalOfWork_60 (i := 9) rfl
theorem d_Sums_totalOfWork_16 : decode (zb m_Sums_totalOfWork) 16 = .ok (.aload_n 0, 1) := zdal_p dlB_Sums_totalOfWork_60 (i := 10) rfl
theorem d_Sums_totalOfWork_17 : decode (zb m_Sums_totalOfWork) 17 = .ok (.bipush 39, 2) := zdal_p dlB_Sums_totalOfWork_60 (i := 11) rfl
theorem d_Sums_totalOfWork_19 : decode (zb m_Sums_totalOfWork) 19 = .ok (.iload_n 3, 1) := zdal_p dlB_Sums_totalOfWork_60 (i := 12) rfl
theorem d_Sums_totalOfWork_20 : decode (zb m_Sums_totalOfWork) 20 = .ok (.invokevirtual 67, 3) := zdal_p dlB_Sums_totalOfWork_60 (i := 13) rfl
theorem d_Sums_totalOfWork_23 : decode (zb m_Sums_totalOfWork) 23 = .ok (.ladd, 1) := zdal_p dlB_Sums_totalOfWork_60 (i := 14) rfl
theorem d_Sums_totalOfWork_24 : decode (zb m_Sums_totalOfWork) 24 = .ok (.lstore_n 1, 1) := zdal_p dlB_Sums_totalOfWork_60 (i := 15) rfl
theorem d_Sums_totalOfWork_25 : decode (zb m_Sums_totalOfWork) 25 = .ok (.iinc 3 1, 3) := zdal_p dlB_Sums_totalOfWork_60 (i := 16) rfl
theorem d_Sums_totalOfWork_28 : decode (zb m_Sums_totalOfWork) 28 = .ok (.goto (-24), 3) := zdal_p dlB_Sums_totalOfWork_60 (i := 17) rfl
theorem d_Sums_totalOfWork_31 : decode (zb m_Sums_totalOfWork) 31 = .ok (.lload_n 1, 1) := zdal_p dlB_Sums_totalOfWork_60 (i := 18) rfl
theorem d_Sums_totalOfWork_32 : decode (zb m_Sums_totalOfWork) 32 = .ok (.l2i, 1) := zdal_p dlB_Sums_totalOfWork_60 (i := 19) rfl
theorem d_Sums_totalOfWork_33 : decode (zb m_Sums_totalOfWork) 33 = .ok (.ireturn, 1) := zdal_p dlB_Sums_totalOfWork_60 (i := 20) rfl
theorem dlB_T_alike_61 : zdal (zb m_T_alike) [(0, (.aload_n 0, 1)), (1, (.getfield 28, 3)), (4, (.getfield 61, 3)), (7, (.invokevirtual 214, 3)), (10, (.ireturn, 1))] = true := zDs 0 (by decide +kernel)
theorem d_T_alike_0 : decode (zb m_T_alike) 0 = .ok (.aload_n 0, 1) := zdal_p dlB_T_alike_61 (i := 0) rfl
theorem d_T_alike_1 : decode (zb m_T_alike) 1 = .ok (.getfield 28, 3) := zdal_p dlB_T_alike_61 (i := 1) rfl
theorem d_T_alike_4 : decode (zb m_T_alike) 4 = .ok (.getfield 61, 3) := zdal_p dlB_T_alike_61 (i := 2) rfl
theorem d_T_alike_7 : decode (zb m_T_alike) 7 = .ok (.invokevirtual 214, 3) := zdal_p dlB_T_alike_61 (i := 3) rfl
theorem d_T_alike_10 : decode (zb m_T_alike) 10 = .ok (.ireturn, 1) := zdal_p dlB_T_alike_61 (i := 4) rfl
theorem dlB_Group_commutingPairs_62 : zdal (zb m_Group_commutingPairs) [(0, (.iconst 0, 1)), (1, (.istore_n 1, 1)), (2, (.iconst 0, 1)), (3, (.istore_n 2, 1)), (4, (.iload_n 2, 1)), (5, (.aload_n 0, 1)), (6, (.getfield 39, 3)), (9, (.if_icmp .ge 24, 3)), (12, (.iload_n 1, 1)), (13, (.aload_n 0, 1)), (14, (.iload_n 2, 1)), (15, (.aload_n 0, 1)), (16, (.invokevirtual 93, 3)), (19, (.invokevirtual 97, 3)), (22, (.invokestatic 83, 3)), (25, (.iadd, 1)), (26, (.istore_n 1, 1)), (27, (.iinc 2 1, 3)), (30, (.goto (-26), 3)), (33, (.iload_n 1, 1)), (34, (.ireturn, 1))] = true := zDs 0 (by decide +kernel)
theorem d_Group_commutingPairs_0 : decode (zb m_Group_commutingPairs) 0 = .ok (.iconst 0, 1) := zdal_p dlB_Group_commutingPairs_62 (i := 0) rfl
theorem d_Group_commutingPairs_1 : decode (zb m_Group_commutingPairs) 1 = .ok (.istore_n 1, 1) := zdal_p dlB_Group_commutingPairs_62 (i := 1) rfl
theorem d_Group_commutingPairs_2 : decode (zb m_Group_commutingPairs) 2 = .ok (.iconst 0, 1) := zdal_p dlB_Group_commutingPairs_62 (i := 2) rfl
theorem d_Group_commutingPairs_3 : decode (zb m_Group_commutingPairs) 3 = .ok (.istore_n 2, 1) := zdal_p dlB_Group_commutingPairs_62 (i := 3) rfl
theorem d_Group_commutingPairs_4 : decode (zb m_Group_commutingPairs) 4 = .ok (.iload_n 2, 1) := zdal_p dlB_Group_commutingPairs_62 (i := 4) rfl
theorem d_Group_commutingPairs_5 : decode (zb m_Group_commutingPairs) 5 = .ok (.aload_n 0, 1) := zdal_p dlB_Group_commutingPairs_62 (i := 5) rfl
theorem d_Group_commutingPairs_6 : decode (zb m_Group_commutingPairs) 6 = .ok (.getfield 39, 3) := zdal_p dlB_Group_commutingPairs_62 (i := 6) rfl
theorem d_Group_commutingPairs_9 : decode (zb m_Group_commutingPairs) 9 = .ok (.if_icmp .ge 24, 3) := zdal_p dlB_Group_commutingPairs_62 (i := 7) rfl
theorem d_Group_commutingPairs_12 : decode (zb m_Group_commutingPairs) 12 = .ok (.iload_n 1, 1) := zdal_p dlB_Group_commutingPairs_62 (i := 8) rfl
theorem d_Group_commutingPairs_13 : decode (zb m_Group_commutingPairs) 13 = .ok (.aload_n 0, 1) := zdal_p dlB_Group_commutingPairs_62 (i := 9) rfl
theorem d_Group_commutingPairs_14 : decode (zb m_Group_commutingPairs) 14 = .ok (.iload_n 2, 1) := zdal_p dlB_Group_commutingPairs_62 (i := 10) rfl
theorem d_Group_commutingPairs_15 : decode (zb m_Group_commutingPairs) 15 = .ok (.aload_n 0, 1) := zdal_p dlB_Group_commutingPairs_62 (i := 11) rfl
theorem d_Group_commutingPairs_16 : decode (zb m_Group_commutingPairs) 16 = .ok (.invokevirtual 93, 3) := zdal_p dlB_Group_commutingPairs_62 (i := 12) rfl
theorem d_Group_commutingPairs_19 : decode (zb m_Group_commutingPairs) 19 = .ok (.invokevirtual 97, 3) := zdal_p dlB_Group_commutingPairs_62 (i := 13) rfl
theorem d_Group_commutingPairs_22 : decode (zb m_Group_commutingPairs) 22 = .ok (.invokestatic 83, 3) := zdal_p dlB_Group_commutingPairs_62 (i := 14) rfl
theorem d_Group_commutingPairs_25 : decode (zb m_Group_commutingPairs) 25 = .ok (.iadd, 1) := zdal_p dlB_Group_commutingPairs_62 (i := 15) rfl
theorem d_Group_commutingPairs_26 : decode (zb m_Group_commutingPairs) 26 = .ok (.istore_n 1, 1) := zdal_p dlB_Group_commutingPairs_62 (i := 16) rfl
theorem d_Group_commutingPairs_27 : decode (zb m_Group_commutingPairs) 27 = .ok (.iinc 2 1, 3) := zdal_p dlB_Group_commutingPairs_62 (i := 17) rfl
theorem d_Group_commutingPairs_30 : decode (zb m_Group_commutingPairs) 30 = .ok (.goto (-26), 3) := zdal_p dlB_Group_commutingPairs_62 (i := 18) rfl
theorem d_Group_commutingPairs_33 : decode (zb m_Group_commutingPairs) 33 = .ok (.iload_n 1, 1) := zdal_p dlB_Group_commutingPairs_62 (i := 19) rfl
theorem d_Group_commutingPairs_34 : decode (zb m_Group_commutingPairs) 34 = .ok (.ireturn, 1) := zdal_p dlB_Group_commutingPairs_62 (i := 20) rfl
theorem dlB_T_meet_63 : zdal (zb m_T_meet) [(0, (.aload_n 0, 1)), (1, (.getfield 28, 3)), (4, (.getfield 85, 3)), (7, (.astore_n 3, 1)), (8, (.aload_n 3, 1)), (9, (.iload_n 1, 1)), (10, (.invokevirtual 143, 3)), (13, (.ifCond .eq 11, 3)), (16, (.aload_n 3, 1)), (17, (.iload_n 2, 1)), (18, (.invokevirtual 143, 3)), (21, (.ifCond .ne 5, 3)), (24, (.iconst (-1), 1)), (25, (.ireturn, 1)), (26, (.aload_n 3, 1)), (27, (.aload_n 3, 1)), (28, (.getfield 146, 3)), (31, (.iload_n 1, 1)), (32, (.invokevirtual 118, 3)), (35, (.aload_n 3, 1)), (36, (.getfield 146, 3)), (39, (.iload_n 2, 1)), (40, (.invokevirtual 118, 3)), (43, (.iand, 1))] = true := zDs 0 (by decide +kernel)
theorem d_T_meet_0 : decode (zb m_T_meet) 0 = .ok (.aload_n 0, 1) := zdal_p dlB_T_meet_63 (i := 0) rfl
theorem d_T_meet_1 : decode (zb m_T_meet) 1 = .ok (.getfield 28, 3) := zdal_p dlB_T_meet_63 (i := 1) rfl
theorem d_T_meet_4 : decode (zb m_T_meet) 4 = .ok (.getfield 85, 3) := zdal_p dlB_T_meet_63 (i := 2) rfl
theorem d_T_meet_7 : decode (zb m_T_meet) 7 = .ok (.astore_n 3, 1) := zdal_p dlB_T_meet_63 (i := 3) rfl
theorem d_T_meet_8 : decode (zb m_T_meet) 8 = .ok (.aload_n 3, 1) := zdal_p dlB_T_meet_63 (i := 4) rfl
theorem d_T_meet_9 : decode (zb m_T_meet) 9 = .ok (.iload_n 1, 1) := zdal_p dlB_T_meet_63 (i := 5) rfl
theorem d_T_meet_10 : decode (zb m_T_meet) 10 = .ok (.invokevirtual 143, 3) := zdal_p dlB_T_meet_63 (i := 6) rfl
theorem d_T_meet_13 : decode (zb m_T_meet) 13 = .ok (.ifCond .eq 11, 3) := zdal_p dlB_T_meet_63 (i := 7) rfl
theorem d_T_meet_16 : decode (zb m_T_meet) 16 = .ok (.aload_n 3, 1) := zdal_p dlB_T_meet_63 (i := 8) rfl
theorem d_T_meet_17 : decode (zb m_T_meet) 17 = .ok (.iload_n 2, 1) := zdal_p dlB_T_meet_63 (i := 9) rfl
theorem d_T_meet_18 : decode (zb m_T_meet) 18 = .ok (.invokevirtual 143, 3) := zdal_p dlB_T_meet_63 (i := 10) rfl
theorem d_T_meet_21 : decode (zb m_T_meet) 21 = .ok (.ifCond .ne 5, 3) := zdal_p dlB_T_meet_63 (i := 11) rfl
theorem d_T_meet_24 : decode (zb m_T_meet) 24 = .ok (.iconst (-1), 1) := zdal_p dlB_T_meet_63 (i := 12) rfl
theorem d_T_meet_25 : decode (zb m_T_meet) 25 = .ok (.ireturn, 1) := zdal_p dlB_T_meet_63 (i := 13) rfl
theorem d_T_meet_26 : decode (zb m_T_meet) 26 = .ok (.aload_n 3, 1) := zdal_p dlB_T_meet_63 (i := 14) rfl
theorem d_T_meet_27 : decode (zb m_T_meet) 27 = .ok (.aload_n 3, 1) := zdal_p dlB_T_meet_63 (i := 15) rfl
theorem d_T_meet_28 : decode (zb m_T_meet) 28 = .ok (.getfield 146, 3) := zdal_p dlB_T_meet_63 (i := 16) rfl
theorem d_T_meet_31 : decode (zb m_T_meet) 31 = .ok (.iload_n 1, 1) := zdal_p dlB_T_meet_63 (i := 17) rfl
theorem d_T_meet_32 : decode (zb m_T_meet) 32 = .ok (.invokevirtual 118, 3) := zdal_p dlB_T_meet_63 (i := 18) rfl
theorem d_T_meet_35 : decode (zb m_T_meet) 35 = .ok (.aload_n 3, 1) := zdal_p dlB_T_meet_63 (i := 19) rfl
theorem d_T_meet_36 : decode (zb m_T_meet) 36 = .ok (.getfield 146, 3) := zdal_p dlB_T_meet_63 (i := 20) rfl
theorem d_T_meet_39 : decode (zb m_T_meet) 39 = .ok (.iload_n 2, 1) := zdal_p dlB_T_meet_63 (i := 21) rfl
theorem d_T_meet_40 : decode (zb m_T_meet) 40 = .ok (.invokevirtual 118, 3) := zdal_p dlB_T_meet_63 (i := 22) rfl
theorem d_T_meet_43 : decode (zb m_T_meet) 43 = .ok (.iand, 1) := zdal_p dlB_T_meet_63 (i := 23) rfl
theorem dlB_T_meet_64 : zdal (zb m_T_meet) [(44, (.invokevirtual 140, 3)), (47, (.ireturn, 1))] = true := zDs 44 (by decide +kernel)
theorem d_T_meet_44 : decode (zb m_T_meet) 44 = .ok (.invokevirtual 140, 3) := zdal_p dlB_T_meet_64 (i := 0) rfl
theorem d_T_meet_47 : decode (zb m_T_meet) 47 = .ok (.ireturn, 1) := zdal_p dlB_T_meet_64 (i := 1) rfl
theorem dlB_T_join_65 : zdal (zb m_T_join) [(0, (.aload_n 0, 1)), (1, (.getfield 28, 3)), (4, (.getfield 85, 3)), (7, (.astore_n 3, 1)), (8, (.aload_n 3, 1)), (9, (.iload_n 1, 1)), (10, (.invokevirtual 143, 3)), (13, (.ifCond .eq 11, 3)), (16, (.aload_n 3, 1)), (17, (.iload_n 2, 1)), (18, (.invokevirtual 143, 3)), (21, (.ifCond .ne 5, 3)), (24, (.iconst (-1), 1)), (25, (.ireturn, 1)), (26, (.aload_n 3, 1)), (27, (.aload_n 3, 1)), (28, (.getfield 146, 3)), (31, (.iload_n 1, 1)), (32, (.invokevirtual 118, 3)), (35, (.aload_n 3, 1)), (36, (.getfield 146, 3)), (39, (.iload_n 2, 1)), (40, (.invokevirtual 118, 3)), (43, (.ior, 1))] = true := zDs 0 (by decide +kernel)
theorem d_T_join_0 : decode (zb m_T_join) 0 = .ok (.aload_n 0, 1) := zdal_p dlB_T_join_65 (i := 0) rfl
theorem d_T_join_1 : decode (zb m_T_join) 1 = .ok (.getfield 28, 3) := zdal_p dlB_T_join_65 (i := 1) rfl
theorem d_T_join_4 : decode (zb m_T_join) 4 = .ok (.getfield 85, 3) := zdal_p dlB_T_join_65 (i := 2) rfl
theorem d_T_join_7 : decode (zb m_T_join) 7 = .ok (.astore_n 3, 1) := zdal_p dlB_T_join_65 (i := 3) rfl
theorem d_T_join_8 : decode (zb m_T_join) 8 = .ok (.aload_n 3, 1) := zdal_p dlB_T_join_65 (i := 4) rfl
theorem d_T_join_9 : decode (zb m_T_join) 9 = .ok (.iload_n 1, 1) := zdal_p dlB_T_join_65 (i := 5) rfl
theorem d_T_join_10 : decode (zb m_T_join) 10 = .ok (.invokevirtual 143, 3) := zdal_p dlB_T_join_65 (i := 6) rfl
theorem d_T_join_13 : decode (zb m_T_join) 13 = .ok (.ifCond .eq 11, 3) := zdal_p dlB_T_join_65 (i := 7) rfl
theorem d_T_join_16 : decode (zb m_T_join) 16 = .ok (.aload_n 3, 1) := zdal_p dlB_T_join_65 (i := 8) rfl
theorem d_T_join_17 : decode (zb m_T_join) 17 = .ok (.iload_n 2, 1) := zdal_p dlB_T_join_65 (i := 9) rfl
theorem d_T_join_18 : decode (zb m_T_join) 18 = .ok (.invokevirtual 143, 3) := zdal_p dlB_T_join_65 (i := 10) rfl
theorem d_T_join_21 : decode (zb m_T_join) 21 = .ok (.ifCond .ne 5, 3) := zdal_p dlB_T_join_65 (i := 11) rfl
theorem d_T_join_24 : decode (zb m_T_join) 24 = .ok (.iconst (-1), 1) := zdal_p dlB_T_join_65 (i := 12) rfl
theorem d_T_join_25 : decode (zb m_T_join) 25 = .ok (.ireturn, 1) := zdal_p dlB_T_join_65 (i := 13) rfl
theorem d_T_join_26 : decode (zb m_T_join) 26 = .ok (.aload_n 3, 1) := zdal_p dlB_T_join_65 (i := 14) rfl
theorem d_T_join_27 : decode (zb m_T_join) 27 = .ok (.aload_n 3, 1) := zdal_p dlB_T_join_65 (i := 15) rfl
theorem d_T_join_28 : decode (zb m_T_join) 28 = .ok (.getfield 146, 3) := zdal_p dlB_T_join_65 (i := 16) rfl
theorem d_T_join_31 : decode (zb m_T_join) 31 = .ok (.iload_n 1, 1) := zdal_p dlB_T_join_65 (i := 17) rfl
theorem d_T_join_32 : decode (zb m_T_join) 32 = .ok (.invokevirtual 118, 3) := zdal_p dlB_T_join_65 (i := 18) rfl
theorem d_T_join_35 : decode (zb m_T_join) 35 = .ok (.aload_n 3, 1) := zdal_p dlB_T_join_65 (i := 19) rfl
theorem d_T_join_36 : decode (zb m_T_join) 36 = .ok (.getfield 146, 3) := zdal_p dlB_T_join_65 (i := 20) rfl
theorem d_T_join_39 : decode (zb m_T_join) 39 = .ok (.iload_n 2, 1) := zdal_p dlB_T_join_65 (i := 21) rfl
theorem d_T_join_40 : decode (zb m_T_join) 40 = .ok (.invokevirtual 118, 3) := zdal_p dlB_T_join_65 (i := 22) rfl
theorem d_T_join_43 : decode (zb m_T_join) 43 = .ok (.ior, 1) := zdal_p dlB_T_join_65 (i := 23) rfl
theorem dlB_T_join_66 : zdal (zb m_T_join) [(44, (.invokevirtual 140, 3)), (47, (.ireturn, 1))] = true := zDs 44 (by decide +kernel)
theorem d_T_join_44 : decode (zb m_T_join) 44 = .ok (.invokevirtual 140, 3) := zdal_p dlB_T_join_66 (i := 0) rfl
theorem d_T_join_47 : decode (zb m_T_join) 47 = .ok (.ireturn, 1) := zdal_p dlB_T_join_66 (i := 1) rfl
theorem dlB_T_orders_67 : zdal (zb m_T_orders) [(0, (.iload_n 1, 1)), (1, (.iconst 1, 1)), (2, (.if_icmp .lt 23, 3)), (5, (.iload_n 1, 1)), (6, (.bipush 24, 2)), (8, (.if_icmp .gt 17, 3)), (11, (.aload_n 0, 1)), (12, (.getfield 28, 3)), (15, (.getfield 61, 3)), (18, (.iload_n 1, 1)), (19, (.invokevirtual 217, 3)), (22, (.goto 4, 3)), (25, (.iconst (-1), 1)), (26, (.ireturn, 1))] = true := zDs 0 (by decide +kernel)
theorem d_T_orders_0 : decode (zb m_T_orders) 0 = .ok (.iload_n 1, 1) := zdal_p dlB_T_orders_67 (i := 0) rfl
theorem d_T_orders_1 : decode (zb m_T_orders) 1 = .ok (.iconst 1, 1) := zdal_p dlB_T_orders_67 (i := 1) rfl
theorem d_T_orders_2 : decode (zb m_T_orders) 2 = .ok (.if_icmp .lt 23, 3) := zdal_p dlB_T_orders_67 (i := 2) rfl
theorem d_T_orders_5 : decode (zb m_T_orders) 5 = .ok (.iload_n 1, 1) := zdal_p dlB_T_orders_67 (i := 3) rfl
theorem d_T_orders_6 : decode (zb m_T_orders) 6 = .ok (.bipush 24, 2) := zdal_p dlB_T_orders_67 (i := 4) rfl
theorem d_T_orders_8 : decode (zb m_T_orders) 8 = .ok (.if_icmp .gt 17, 3) := zdal_p dlB_T_orders_67 (i := 5) rfl
theorem d_T_orders_11 : decode (zb m_T_orders) 11 = .ok (.aload_n 0, 1) := zdal_p dlB_T_orders_67 (i := 6) rfl
theorem d_T_orders_12 : decode (zb m_T_orders) 12 = .ok (.getfield 28, 3) := zdal_p dlB_T_orders_67 (i := 7) rfl
theorem d_T_orders_15 : decode (zb m_T_orders) 15 = .ok (.getfield 61, 3) := zdal_p dlB_T_orders_67 (i := 8) rfl
theorem d_T_orders_18 : decode (zb m_T_orders) 18 = .ok (.iload_n 1, 1) := zdal_p dlB_T_orders_67 (i := 9) rfl
theorem d_T_orders_19 : decode (zb m_T_orders) 19 = .ok (.invokevirtual 217, 3) := zdal_p dlB_T_orders_67 (i := 10) rfl
theorem d_T_orders_22 : decode (zb m_T_orders) 22 = .ok (.goto 4, 3) := zdal_p dlB_T_orders_67 (i := 11) rfl
theorem d_T_orders_25 : decode (zb m_T_orders) 25 = .ok (.iconst (-1), 1) := zdal_p dlB_T_orders_67 (i := 12) rfl
theorem d_T_orders_26 : decode (zb m_T_orders) 26 = .ok (.ireturn, 1) := zdal_p dlB_T_orders_67 (i := 13) rfl
theorem dlB_Group_countRepeating_68 : zdal (zb m_Group_countRepeating) [(0, (.iconst 0, 1)), (1, (.istore_n 2, 1)), (2, (.iconst 0, 1)), (3, (.istore_n 3, 1)), (4, (.iload_n 3, 1)), (5, (.aload_n 0, 1)), (6, (.getfield 39, 3)), (9, (.if_icmp .ge 21, 3)), (12, (.aload_n 0, 1)), (13, (.iload_n 3, 1)), (14, (.invokevirtual 70, 3)), (17, (.iload_n 1, 1)), (18, (.if_icmp .ne 6, 3)), (21, (.iinc 2 1, 3)), (24, (.iinc 3 1, 3)), (27, (.goto (-23), 3)), (30, (.iload_n 2, 1)), (31, (.ireturn, 1))] = true := zDs 0 (by decide +kernel)
theorem d_Group_countRepeating_0 : decode (zb m_Group_countRepeating) 0 = .ok (.iconst 0, 1) := zdal_p dlB_Group_countRepeating_68 (i := 0) rfl
theorem d_Group_countRepeating_1 : decode (zb m_Group_countRepeating) 1 = .ok (.istore_n 2, 1) := zdal_p dlB_Group_countRepeating_68 (i := 1) rfl
theorem d_Group_countRepeating_2 : decode (zb m_Group_countRepeating) 2 = .ok (.iconst 0, 1) := zdal_p dlB_Group_countRepeating_68 (i := 2) rfl
theorem d_Group_countRepeating_3 : decode (zb m_Group_countRepeating) 3 = .ok (.istore_n 3, 1) := zdal_p dlB_Group_countRepeating_68 (i := 3) rfl
theorem d_Group_countRepeating_4 : decode (zb m_Group_countRepeating) 4 = .ok (.iload_n 3, 1) := zdal_p dlB_Group_countRepeating_68 (i := 4) rfl
theorem d_Group_countRepeating_5 : decode (zb m_Group_countRepeating) 5 = .ok (.aload_n 0, 1) := zdal_p dlB_Group_countRepeating_68 (i := 5) rfl
theorem d_Group_countRepeating_6 : decode (zb m_Group_countRepeating) 6 = .ok (.getfield 39, 3) := zdal_p dlB_Group_countRepeating_68 (i := 6) rfl
theorem d_Group_countRepeating_9 : decode (zb m_Group_countRepeating) 9 = .ok (.if_icmp .ge 21, 3) := zdal_p dlB_Group_countRepeating_68 (i := 7) rfl
theorem d_Group_countRepeating_12 : decode (zb m_Group_countRepeating) 12 = .ok (.aload_n 0, 1) := zdal_p dlB_Group_countRepeating_68 (i := 8) rfl
theorem d_Group_countRepeating_13 : decode (zb m_Group_countRepeating) 13 = .ok (.iload_n 3, 1) := zdal_p dlB_Group_countRepeating_68 (i := 9) rfl
theorem d_Group_countRepeating_14 : decode (zb m_Group_countRepeating) 14 = .ok (.invokevirtual 70, 3) := zdal_p dlB_Group_countRepeating_68 (i := 10) rfl
theorem d_Group_countRepeating_17 : decode (zb m_Group_countRepeating) 17 = .ok (.iload_n 1, 1) := zdal_p dlB_Group_countRepeating_68 (i := 11) rfl
theorem d_Group_countRepeating_18 : decode (zb m_Group_countRepeating) 18 = .ok (.if_icmp .ne 6, 3) := zdal_p dlB_Group_countRepeating_68 (i := 12) rfl
theorem d_Group_countRepeating_21 : decode (zb m_Group_countRepeating) 21 = .ok (.iinc 2 1, 3) := zdal_p dlB_Group_countRepeating_68 (i := 13) rfl
theorem d_Group_countRepeating_24 : decode (zb m_Group_countRepeating) 24 = .ok (.iinc 3 1, 3) := zdal_p dlB_Group_countRepeating_68 (i := 14) rfl
theorem d_Group_countRepeating_27 : decode (zb m_Group_countRepeating) 27 = .ok (.goto (-23), 3) := zdal_p dlB_Group_countRepeating_68 (i := 15) rfl
theorem d_Group_countRepeating_30 : decode (zb m_Group_countRepeating) 30 = .ok (.iload_n 2, 1) := zdal_p dlB_Group_countRepeating_68 (i := 16) rfl
theorem d_Group_countRepeating_31 : decode (zb m_Group_countRepeating) 31 = .ok (.ireturn, 1) := zdal_p dlB_Group_countRepeating_68 (i := 17) rfl
theorem dlB_T_likes_69 : zdal (zb m_T_likes) [(0, (.aload_n 0, 1)), (1, (.getfield 28, 3)), (4, (.getfield 61, 3)), (7, (.iload_n 1, 1)), (8, (.invokevirtual 108, 3)), (11, (.ifCond .eq 17, 3)), (14, (.aload_n 0, 1)), (15, (.getfield 28, 3)), (18, (.getfield 61, 3)), (21, (.iload_n 1, 1)), (22, (.invokevirtual 220, 3)), (25, (.goto 4, 3)), (28, (.iconst (-1), 1)), (29, (.ireturn, 1))] = true := zDs 0 (by decide +kernel)
theorem d_T_likes_0 : decode (zb m_T_likes) 0 = .ok (.aload_n 0, 1) := zdal_p dlB_T_likes_69 (i := 0) rfl
theorem d_T_likes_1 : decode (zb m_T_likes) 1 = .ok (.getfield 28, 3) := zdal_p dlB_T_likes_69 (i := 1) rfl
theorem d_T_likes_4 : decode (zb m_T_likes) 4 = .ok (.getfield 61, 3) := zdal_p dlB_T_likes_69 (i := 2) rfl
theorem d_T_likes_7 : decode (zb m_T_likes) 7 = .ok (.iload_n 1, 1) := zdal_p dlB_T_likes_69 (i := 3) rfl
theorem d_T_likes_8 : decode (zb m_T_likes) 8 = .ok (.invokevirtual 108, 3) := zdal_p dlB_T_likes_69 (i := 4) rfl
theorem d_T_likes_11 : decode (zb m_T_likes) 11 = .ok (.ifCond .eq 17, 3) := zdal_p dlB_T_likes_69 (i := 5) rfl
theorem d_T_likes_14 : decode (zb m_T_likes) 14 = .ok (.aload_n 0, 1) := zdal_p dlB_T_likes_69 (i := 6) rfl
theorem d_T_likes_15 : decode (zb m_T_likes) 15 = .ok (.getfield 28, 3) := zdal_p dlB_T_likes_69 (i := 7) rfl
theorem d_T_likes_18 : decode (zb m_T_likes) 18 = .ok (.getfield 61, 3) := zdal_p dlB_T_likes_69 (i := 8) rfl
theorem d_T_likes_21 : decode (zb m_T_likes) 21 = .ok (.iload_n 1, 1) := zdal_p dlB_T_likes_69 (i := 9) rfl
theorem d_T_likes_22 : decode (zb m_T_likes) 22 = .ok (.invokevirtual 220, 3) := zdal_p dlB_T_likes_69 (i := 10) rfl
theorem d_T_likes_25 : decode (zb m_T_likes) 25 = .ok (.goto 4, 3) := zdal_p dlB_T_likes_69 (i := 11) rfl
theorem d_T_likes_28 : decode (zb m_T_likes) 28 = .ok (.iconst (-1), 1) := zdal_p dlB_T_likes_69 (i := 12) rfl
theorem d_T_likes_29 : decode (zb m_T_likes) 29 = .ok (.ireturn, 1) := zdal_p dlB_T_likes_69 (i := 13) rfl
theorem dlB_Group_countLike_70 : zdal (zb m_Group_countLike) [(0, (.iconst 0, 1)), (1, (.istore_n 2, 1)), (2, (.iconst 0, 1)), (3, (.istore_n 3, 1)), (4, (.iload_n 3, 1)), (5, (.aload_n 0, 1)), (6, (.getfield 39, 3)), (9, (.if_icmp .ge 20, 3)), (12, (.iload_n 2, 1)), (13, (.iconst 1, 1)), (14, (.aload_n 0, 1)), (15, (.iload_n 1, 1)), (16, (.iload_n 3, 1)), (17, (.invokevirtual 77, 3)), (20, (.ishl, 1)), (21, (.ior, 1)), (22, (.istore_n 2, 1)), (23, (.iinc 3 1, 3)), (26, (.goto (-22), 3)), (29, (.iload_n 2, 1)), (30, (.invokestatic 83, 3)), (33, (.ireturn, 1))] = true := zDs 0 (by decide +kernel)
theorem d_Group_countLike_0 : decode (zb m_Group_countLike) 0 = .ok (.iconst 0, 1) := zdal_p dlB_Group_countLike_70 (i := 0) rfl
theorem d_Group_countLike_1 : decode (zb m_Group_countLike) 1 = .ok (.istore_n 2, 1) := zdal_p dlB_Group_countLike_70 (i := 1) rfl
theorem d_Group_countLike_2 : decode (zb m_Group_countLike) 2 = .ok (.iconst 0, 1) := zdal_p dlB_Group_countLike_70 (i := 2) rfl
theorem d_Group_countLike_3 : decode (zb m_Group_countLike) 3 = .ok (.istore_n 3, 1) := zdal_p dlB_Group_countLike_70 (i := 3) rfl
theorem d_Group_countLike_4 : decode (zb m_Group_countLike) 4 = .ok (.iload_n 3, 1) := zdal_p dlB_Group_countLike_70 (i := 4) rfl
theorem d_Group_countLike_5 : decode (zb m_Group_countLike) 5 = .ok (.aload_n 0, 1) := zdal_p dlB_Group_countLike_70 (i := 5) rfl
theorem d_Group_countLike_6 : decode (zb m_Group_countLike) 6 = .ok (.getfield 39, 3) := zdal_p dlB_Group_countLike_70 (i := 6) rfl
theorem d_Group_countLike_9 : decode (zb m_Group_countLike) 9 = .ok (.if_icmp .ge 20, 3) := zdal_p dlB_Group_countLike_70 (i := 7) rfl
theorem d_Group_countLike_12 : decode (zb m_Group_countLike) 12 = .ok (.iload_n 2, 1) := zdal_p dlB_Group_countLike_70 (i := 8) rfl
theorem d_Group_countLike_13 : decode (zb m_Group_countLike) 13 = .ok (.iconst 1, 1) := zdal_p dlB_Group_countLike_70 (i := 9) rfl
theorem d_Group_countLike_14 : decode (zb m_Group_countLike) 14 = .ok (.aload_n 0, 1) := zdal_p dlB_Group_countLike_70 (i := 10) rfl
theorem d_Group_countLike_15 : decode (zb m_Group_countLike) 15 = .ok (.iload_n 1, 1) := zdal_p dlB_Group_countLike_70 (i := 11) rfl
theorem d_Group_countLike_16 : decode (zb m_Group_countLike) 16 = .ok (.iload_n 3, 1) := zdal_p dlB_Group_countLike_70 (i := 12) rfl
theorem d_Group_countLike_17 : decode (zb m_Group_countLike) 17 = .ok (.invokevirtual 77, 3) := zdal_p dlB_Group_countLike_70 (i := 13) rfl
theorem d_Group_countLike_20 : decode (zb m_Group_countLike) 20 = .ok (.ishl, 1) := zdal_p dlB_Group_countLike_70 (i := 14) rfl
theorem d_Group_countLike_21 : decode (zb m_Group_countLike) 21 = .ok (.ior, 1) := zdal_p dlB_Group_countLike_70 (i := 15) rfl
theorem d_Group_countLike_22 : decode (zb m_Group_countLike) 22 = .ok (.istore_n 2, 1) := zdal_p dlB_Group_countLike_70 (i := 16) rfl
theorem d_Group_countLike_23 : decode (zb m_Group_countLike) 23 = .ok (.iinc 3 1, 3) := zdal_p dlB_Group_countLike_70 (i := 17) rfl
theorem d_Group_countLike_26 : decode (zb m_Group_countLike) 26 = .ok (.goto (-22), 3) := zdal_p dlB_Group_countLike_70 (i := 18) rfl
theorem d_Group_countLike_29 : decode (zb m_Group_countLike) 29 = .ok (.iload_n 2, 1) := zdal_p dlB_Group_countLike_70 (i := 19) rfl
theorem d_Group_countLike_30 : decode (zb m_Group_countLike) 30 = .ok (.invokestatic 83, 3) := zdal_p dlB_Group_countLike_70 (i := 20) rfl
theorem d_Group_countLike_33 : decode (zb m_Group_countLike) 33 = .ok (.ireturn, 1) := zdal_p dlB_Group_countLike_70 (i := 21) rfl
theorem dlB_T_peak_71 : zdal (zb m_T_peak) [(0, (.aload_n 0, 1)), (1, (.getfield 28, 3)), (4, (.getfield 85, 3)), (7, (.iload_n 1, 1)), (8, (.invokevirtual 143, 3)), (11, (.ifCond .eq 17, 3)), (14, (.aload_n 0, 1)), (15, (.getfield 28, 3)), (18, (.getfield 85, 3)), (21, (.iload_n 2, 1)), (22, (.invokevirtual 143, 3)), (25, (.ifCond .ne 6, 3)), (28, (.ldc 204, 2)), (30, (.ireturn, 1)), (31, (.aload_n 0, 1)), (32, (.iconst 1, 1)), (33, (.iload_n 1, 1)), (34, (.ishl, 1)), (35, (.iload_n 2, 1)), (36, (.iload_n 3, 1)), (37, (.invokevirtual 223, 3)), (40, (.ireturn, 1))] = true := zDs 0 (by decide +kernel)
theorem d_T_peak_0 : decode (zb m_T_peak) 0 = .ok (.aload_n 0, 1) := zdal_p dlB_T_peak_71 (i := 0) rfl
theorem d_T_peak_1 : decode (zb m_T_peak) 1 = .ok (.getfield 28, 3) := zdal_p dlB_T_peak_71 (i := 1) rfl
theorem d_T_peak_4 : decode (zb m_T_peak) 4 = .ok (.getfield 85, 3) := zdal_p dlB_T_peak_71 (i := 2) rfl
theorem d_T_peak_7 : decode (zb m_T_peak) 7 = .ok (.iload_n 1, 1) := zdal_p dlB_T_peak_71 (i := 3) rfl
theorem d_T_peak_8 : decode (zb m_T_peak) 8 = .ok (.invokevirtual 143, 3) := zdal_p dlB_T_peak_71 (i := 4) rfl
theorem d_T_peak_11 : decode (zb m_T_peak) 11 = .ok (.ifCond .eq 17, 3) := zdal_p dlB_T_peak_71 (i := 5) rfl
theorem d_T_peak_14 : decode (zb m_T_peak) 14 = .ok (.aload_n 0, 1) := zdal_p dlB_T_peak_71 (i := 6) rfl
theorem d_T_peak_15 : decode (zb m_T_peak) 15 = .ok (.getfield 28, 3) := zdal_p dlB_T_peak_71 (i := 7) rfl
theorem d_T_peak_18 : decode (zb m_T_peak) 18 = .ok (.getfield 85, 3) := zdal_p dlB_T_peak_71 (i := 8) rfl
theorem d_T_peak_21 : decode (zb m_T_peak) 21 = .ok (.iload_n 2, 1) := zdal_p dlB_T_peak_71 (i := 9) rfl
theorem d_T_peak_22 : decode (zb m_T_peak) 22 = .ok (.invokevirtual 143, 3) := zdal_p dlB_T_peak_71 (i := 10) rfl
theorem d_T_peak_25 : decode (zb m_T_peak) 25 = .ok (.ifCond .ne 6, 3) := zdal_p dlB_T_peak_71 (i := 11) rfl
theorem d_T_peak_28 : decode (zb m_T_peak) 28 = .ok (.ldc 204, 2) := zdal_p dlB_T_peak_71 (i := 12) rfl
theorem d_T_peak_30 : decode (zb m_T_peak) 30 = .ok (.ireturn, 1) := zdal_p dlB_T_peak_71 (i := 13) rfl
theorem d_T_peak_31 : decode (zb m_T_peak) 31 = .ok (.aload_n 0, 1) := zdal_p dlB_T_peak_71 (i := 14) rfl
theorem d_T_peak_32 : decode (zb m_T_peak) 32 = .ok (.iconst 1, 1) := zdal_p dlB_T_peak_71 (i := 15) rfl
theorem d_T_peak_33 : decode (zb m_T_peak) 33 = .ok (.iload_n 1, 1) := zdal_p dlB_T_peak_71 (i := 16) rfl
theorem d_T_peak_34 : decode (zb m_T_peak) 34 = .ok (.ishl, 1) := zdal_p dlB_T_peak_71 (i := 17) rfl
theorem d_T_peak_35 : decode (zb m_T_peak) 35 = .ok (.iload_n 2, 1) := zdal_p dlB_T_peak_71 (i := 18) rfl
theorem d_T_peak_36 : decode (zb m_T_peak) 36 = .ok (.iload_n 3, 1) := zdal_p dlB_T_peak_71 (i := 19) rfl
theorem d_T_peak_37 : decode (zb m_T_peak) 37 = .ok (.invokevirtual 223, 3) := zdal_p dlB_T_peak_71 (i := 20) rfl
theorem d_T_peak_40 : decode (zb m_T_peak) 40 = .ok (.ireturn, 1) := zdal_p dlB_T_peak_71 (i := 21) rfl
theorem dlB_T_peakPart_72 : zdal (zb m_T_peakPart) [(0, (.iload_n 3, 1)), (1, (.ifCond .eq 11, 3)), (4, (.iload_n 3, 1)), (5, (.iconst 1, 1)), (6, (.if_icmp .eq 6, 3)), (9, (.ldc 204, 2)), (11, (.ireturn, 1)), (12, (.aload_n 0, 1)), (13, (.getfield 28, 3)), (16, (.getfield 61, 3)), (19, (.getfield 65, 3)), (22, (.istore 4, 2)), (24, (.aload_n 0, 1)), (25, (.getfield 28, 3)), (28, (.getfield 169, 3)), (31, (.iload_n 1, 1)), (32, (.iload 4, 2)), (34, (.invokevirtual 317, 3)), (37, (.aload_n 0, 1)), (38, (.getfield 28, 3)), (41, (.getfield 169, 3)), (44, (.bipush 39, 2)), (46, (.iload_n 2, 1)), (47, (.invokevirtual 179, 3))] = true := zDs 0 (by decide +kernel)
theorem d_T_peakPart_0 : decode (zb m_T_peakPart) 0 = .ok (.iload_n 3, 1) := zdal_p dlB_T_peakPart_72 (i := 0) rfl
theorem d_T_peakPart_1 : decode (zb m_T_peakPart) 1 = .ok (.ifCond .eq 11, 3) := zdal_p dlB_T_peakPart_72 (i := 1) rfl
theorem d_T_peakPart_4 : decode (zb m_T_peakPart) 4 = .ok (.iload_n 3, 1) := zdal_p dlB_T_peakPart_72 (i := 2) rfl
theorem d_T_peakPart_5 : decode (zb m_T_peakPart) 5 = .ok (.iconst 1, 1) := zdal_p dlB_T_peakPart_72 (i := 3) rfl
theorem d_T_peakPart_6 : decode (zb m_T_peakPart) 6 = .ok (.if_icmp .eq 6, 3) := zdal_p dlB_T_peakPart_72 (i := 4) rfl
theorem d_T_peakPart_9 : decode (zb m_T_peakPart) 9 = .ok (.ldc 204, 2) := zdal_p dlB_T_peakPart_72 (i := 5) rfl
theorem d_T_peakPart_11 : decode (zb m_T_peakPart) 11 = .ok (.ireturn, 1) := zdal_p dlB_T_peakPart_72 (i := 6) rfl
theorem d_T_peakPart_12 : decode (zb m_T_peakPart) 12 = .ok (.aload_n 0, 1) := zdal_p dlB_T_peakPart_72 (i := 7) rfl
theorem d_T_peakPart_13 : decode (zb m_T_peakPart) 13 = .ok (.getfield 28, 3) := zdal_p dlB_T_peakPart_72 (i := 8) rfl
theorem d_T_peakPart_16 : decode (zb m_T_peakPart) 16 = .ok (.getfield 61, 3) := zdal_p dlB_T_peakPart_72 (i := 9) rfl
theorem d_T_peakPart_19 : decode (zb m_T_peakPart) 19 = .ok (.getfield 65, 3) := zdal_p dlB_T_peakPart_72 (i := 10) rfl
theorem d_T_peakPart_22 : decode (zb m_T_peakPart) 22 = .ok (.istore 4, 2) := zdal_p dlB_T_peakPart_72 (i := 11) rfl
theorem d_T_peakPart_24 : decode (zb m_T_peakPart) 24 = .ok (.aload_n 0, 1) := zdal_p dlB_T_peakPart_72 (i := 12) rfl
theorem d_T_peakPart_25 : decode (zb m_T_peakPart) 25 = .ok (.getfield 28, 3) := zdal_p dlB_T_peakPart_72 (i := 13) rfl
theorem d_T_peakPart_28 : decode (zb m_T_peakPart) 28 = .ok (.getfield 169, 3) := zdal_p dlB_T_peakPart_72 (i := 14) rfl
theorem d_T_peakPart_31 : decode (zb m_T_peakPart) 31 = .ok (.iload_n 1, 1) := zdal_p dlB_T_peakPart_72 (i := 15) rfl
theorem d_T_peakPart_32 : decode (zb m_T_peakPart) 32 = .ok (.iload 4, 2) := zdal_p dlB_T_peakPart_72 (i := 16) rfl
theorem d_T_peakPart_34 : decode (zb m_T_peakPart) 34 = .ok (.invokevirtual 317, 3) := zdal_p dlB_T_peakPart_72 (i := 17) rfl
theorem d_T_peakPart_37 : decode (zb m_T_peakPart) 37 = .ok (.aload_n 0, 1) := zdal_p dlB_T_peakPart_72 (i := 18) rfl
theorem d_T_peakPart_38 : decode (zb m_T_peakPart) 38 = .ok (.getfield 28, 3) := zdal_p dlB_T_peakPart_72 (i := 19) rfl
theorem d_T_peakPart_41 : decode (zb m_T_peakPart) 41 = .ok (.getfield 169, 3) := zdal_p dlB_T_peakPart_72 (i := 20) rfl
theorem d_T_peakPart_44 : decode (zb m_T_peakPart) 44 = .ok (.bipush 39, 2) := zdal_p dlB_T_peakPart_72 (i := 21) rfl
theorem d_T_peakPart_46 : decode (zb m_T_peakPart) 46 = .ok (.iload_n 2, 1) := zdal_p dlB_T_peakPart_72 (i := 22) rfl
theorem d_T_peakPart_47 : decode (zb m_T_peakPart) 47 = .ok (.invokevirtual 179, 3) := zdal_p dlB_T_peakPart_72 (i := 23) rfl
theorem dlB_T_peakPart_73 : zdal (zb m_T_peakPart) [(50, (.l2i, 1)), (51, (.istore 5, 2)), (53, (.iload 4, 2)), (55, (.iload 5, 2)), (57, (.invokestatic 320, 3)), (60, (.invokestatic 325, 3)), (63, (.istore 6, 2)), (65, (.iload 6, 2)), (67, (.ifCond .ne 6, 3)), (70, (.ldc 204, 2)), (72, (.ireturn, 1)), (73, (.iload_n 3, 1)), (74, (.ifCond .ne 11, 3)), (77, (.iload 5, 2)), (79, (.iload 6, 2)), (81, (.idiv, 1)), (82, (.goto 8, 3)), (85, (.iload 4, 2)), (87, (.iload 6, 2)), (89, (.idiv, 1)), (90, (.ireturn, 1))] = true := zDs 50 (by decide +kernel)
theorem d_T_peakPart_50 : decode (zb m_T_peakPart) 50 = .ok (.l2i, 1) := zdal_p dlB_T_peakPart_73 (i := 0) rfl
theorem d_T_peakPart_51 : decode (zb m_T_peakPart) 51 = .ok (.istore 5, 2) := zdal_p dlB_T_peakPart_73 (i := 1) rfl
theorem d_T_peakPart_53 : decode (zb m_T_peakPart) 53 = .ok (.iload 4, 2) := zdal_p dlB_T_peakPart_73 (i := 2) rfl
theorem d_T_peakPart_55 : decode (zb m_T_peakPart) 55 = .ok (.iload 5, 2) := zdal_p dlB_T_peakPart_73 (i := 3) rfl
theorem d_T_peakPart_57 : decode (zb m_T_peakPart) 57 = .ok (.invokestatic 320, 3) := zdal_p dlB_T_peakPart_73 (i := 4) rfl
theorem d_T_peakPart_60 : decode (zb m_T_peakPart) 60 = .ok (.invokestatic 325, 3) := zdal_p dlB_T_peakPart_73 (i := 5) rfl
theorem d_T_peakPart_63 : decode (zb m_T_peakPart) 63 = .ok (.istore 6, 2) := zdal_p dlB_T_peakPart_73 (i := 6) rfl
theorem d_T_peakPart_65 : decode (zb m_T_peakPart) 65 = .ok (.iload 6, 2) := zdal_p dlB_T_peakPart_73 (i := 7) rfl
theorem d_T_peakPart_67 : decode (zb m_T_peakPart) 67 = .ok (.ifCond .ne 6, 3) := zdal_p dlB_T_peakPart_73 (i := 8) rfl
theorem d_T_peakPart_70 : decode (zb m_T_peakPart) 70 = .ok (.ldc 204, 2) := zdal_p dlB_T_peakPart_73 (i := 9) rfl
theorem d_T_peakPart_72 : decode (zb m_T_peakPart) 72 = .ok (.ireturn, 1) := zdal_p dlB_T_peakPart_73 (i := 10) rfl
theorem d_T_peakPart_73 : decode (zb m_T_peakPart) 73 = .ok (.iload_n 3, 1) := zdal_p dlB_T_peakPart_73 (i := 11) rfl
theorem d_T_peakPart_74 : decode (zb m_T_peakPart) 74 = .ok (.ifCond .ne 11, 3) := zdal_p dlB_T_peakPart_73 (i := 12) rfl
theorem d_T_peakPart_77 : decode (zb m_T_peakPart) 77 = .ok (.iload 5, 2) := zdal_p dlB_T_peakPart_73 (i := 13) rfl
theorem d_T_peakPart_79 : decode (zb m_T_peakPart) 79 = .ok (.iload 6, 2) := zdal_p dlB_T_peakPart_73 (i := 14) rfl
theorem d_T_peakPart_81 : decode (zb m_T_peakPart) 81 = .ok (.idiv, 1) := zdal_p dlB_T_peakPart_73 (i := 15) rfl
theorem d_T_peakPart_82 : decode (zb m_T_peakPart) 82 = .ok (.goto 8, 3) := zdal_p dlB_T_peakPart_73 (i := 16) rfl
theorem d_T_peakPart_85 : decode (zb m_T_peakPart) 85 = .ok (.iload 4, 2) := zdal_p dlB_T_peakPart_73 (i := 17) rfl
theorem d_T_peakPart_87 : decode (zb m_T_peakPart) 87 = .ok (.iload 6, 2) := zdal_p dlB_T_peakPart_73 (i := 18) rfl
theorem d_T_peakPart_89 : decode (zb m_T_peakPart) 89 = .ok (.idiv, 1) := zdal_p dlB_T_peakPart_73 (i := 19) rfl
theorem d_T_peakPart_90 : decode (zb m_T_peakPart) 90 = .ok (.ireturn, 1) := zdal_p dlB_T_peakPart_73 (i := 20) rfl
theorem dlB_Sums_putScaled_74 : zdal (zb m_Sums_putScaled) [(0, (.iconst 0, 1)), (1, (.istore_n 3, 1)), (2, (.iload_n 3, 1)), (3, (.aload_n 0, 1)), (4, (.getfield 23, 3)), (7, (.getfield 35, 3)), (10, (.if_icmp .ge 31, 3)), (13, (.aload_n 0, 1)), (14, (.getfield 20, 3)), (17, (.iload_n 3, 1)), (18, (.iload_n 1, 1)), (19, (.iload_n 3, 1)), (20, (.invokestatic 61, 3)), (23, (.ifCond .eq 8, 3)), (26, (.iload_n 2, 1)), (27, (.i2l, 1)), (28, (.goto 4, 3)), (31, (.lconst 0, 1)), (32, (.invokevirtual 31, 3)), (35, (.iinc 3 1, 3)), (38, (.goto (-36), 3)), (41, (.aload_n 0, 1)), (42, (.bipush 39, 2)), (44, (.invokevirtual 58, 3))] = true := zDs 0 (by decide +kernel)
theorem d_Sums_putScaled_0 : decode (zb m_Sums_putScaled) 0 = .ok (.iconst 0, 1) := zdal_p dlB_Sums_putScaled_74 (i := 0) rfl
theorem d_Sums_putScaled_1 : decode (zb m_Sums_putScaled) 1 = .ok (.istore_n 3, 1) := zdal_p dlB_Sums_putScaled_74 (i := 1) rfl
theorem d_Sums_putScaled_2 : decode (zb m_Sums_putScaled) 2 = .ok (.iload_n 3, 1) := zdal_p dlB_Sums_putScaled_74 (i := 2) rfl
theorem d_Sums_putScaled_3 : decode (zb m_Sums_putScaled) 3 = .ok (.aload_n 0, 1) := zdal_p dlB_Sums_putScaled_74 (i := 3) rfl
theorem d_Sums_putScaled_4 : decode (zb m_Sums_putScaled) 4 = .ok (.getfield 23, 3) := zdal_p dlB_Sums_putScaled_74 (i := 4) rfl
theorem d_Sums_putScaled_7 : decode (zb m_Sums_putScaled) 7 = .ok (.getfield 35, 3) := zdal_p dlB_Sums_putScaled_74 (i := 5) rfl
theorem d_Sums_putScaled_10 : decode (zb m_Sums_putScaled) 10 = .ok (.if_icmp .ge 31, 3) := zdal_p dlB_Sums_putScaled_74 (i := 6) rfl
theorem d_Sums_putScaled_13 : decode (zb m_Sums_putScaled) 13 = .ok (.aload_n 0, 1) := zdal_p dlB_Sums_putScaled_74 (i := 7) rfl
theorem d_Sums_putScaled_14 : decode (zb m_Sums_putScaled) 14 = .ok (.getfield 20, 3) := zdal_p dlB_Sums_putScaled_74 (i := 8) rfl
theorem d_Sums_putScaled_17 : decode (zb m_Sums_putScaled) 17 = .ok (.iload_n 3, 1) := zdal_p dlB_Sums_putScaled_74 (i := 9) rfl
theorem d_Sums_putScaled_18 : decode (zb m_Sums_putScaled) 18 = .ok (.iload_n 1, 1) := zdal_p dlB_Sums_putScaled_74 (i := 10) rfl
theorem d_Sums_putScaled_19 : decode (zb m_Sums_putScaled) 19 = .ok (.iload_n 3, 1) := zdal_p dlB_Sums_putScaled_74 (i := 11) rfl
theorem d_Sums_putScaled_20 : decode (zb m_Sums_putScaled) 20 = .ok (.invokestatic 61, 3) := zdal_p dlB_Sums_putScaled_74 (i := 12) rfl
theorem d_Sums_putScaled_23 : decode (zb m_Sums_putScaled) 23 = .ok (.ifCond .eq 8, 3) := zdal_p dlB_Sums_putScaled_74 (i := 13) rfl
theorem d_Sums_putScaled_26 : decode (zb m_Sums_putScaled) 26 = .ok (.iload_n 2, 1) := zdal_p dlB_Sums_putScaled_74 (i := 14) rfl
theorem d_Sums_putScaled_27 : decode (zb m_Sums_putScaled) 27 = .ok (.i2l, 1) := zdal_p dlB_Sums_putScaled_74 (i := 15) rfl
theorem d_Sums_putScaled_28 : decode (zb m_Sums_putScaled) 28 = .ok (.goto 4, 3) := zdal_p dlB_Sums_putScaled_74 (i := 16) rfl
theorem d_Sums_putScaled_31 : decode (zb m_Sums_putScaled) 31 = .ok (.lconst 0, 1) := zdal_p dlB_Sums_putScaled_74 (i := 17) rfl
theorem d_Sums_putScaled_32 : decode (zb m_Sums_putScaled) 32 = .ok (.invokevirtual 31, 3) := zdal_p dlB_Sums_putScaled_74 (i := 18) rfl
theorem d_Sums_putScaled_35 : decode (zb m_Sums_putScaled) 35 = .ok (.iinc 3 1, 3) := zdal_p dlB_Sums_putScaled_74 (i := 19) rfl
theorem d_Sums_putScaled_38 : decode (zb m_Sums_putScaled) 38 = .ok (.goto (-36), 3) := zdal_p dlB_Sums_putScaled_74 (i := 20) rfl
theorem d_Sums_putScaled_41 : decode (zb m_Sums_putScaled) 41 = .ok (.aload_n 0, 1) := zdal_p dlB_Sums_putScaled_74 (i := 21) rfl
theorem d_Sums_putScaled_42 : decode (zb m_Sums_putScaled) 42 = .ok (.bipush 39, 2) := zdal_p dlB_Sums_putScaled_74 (i := 22) rfl
theorem d_Sums_putScaled_44 : decode (zb m_Sums_putScaled) 44 = .ok (.invokevirtual 58, 3) := zdal_p dlB_Sums_putScaled_74 (i := 23) rfl
theorem dlB_Sums_putScaled_75 : zdal (zb m_Sums_putScaled) [(47, (.return_, 1))] = true := zDs 47 (by decide +kernel)
theorem d_Sums_putScaled_47 : decode (zb m_Sums_putScaled) 47 = .ok (.return_, 1) := zdal_p dlB_Sums_putScaled_75 (i := 0) rfl
theorem dlB_T_greatestDivisor_76 : zdal (zb m_T_greatestDivisor) [(0, (.iload_n 0, 1)), (1, (.istore_n 2, 1)), (2, (.iload_n 1, 1)), (3, (.istore_n 3, 1)), (4, (.iconst 0, 1)), (5, (.istore 4, 2)), (7, (.iload 4, 2)), (9, (.bipush 100, 2)), (11, (.if_icmp .ge 23, 3)), (14, (.iload_n 3, 1)), (15, (.ifCond .eq 19, 3)), (18, (.iload_n 2, 1)), (19, (.iload_n 3, 1)), (20, (.irem, 1)), (21, (.istore 5, 2)), (23, (.iload_n 3, 1)), (24, (.istore_n 2, 1)), (25, (.iload 5, 2)), (27, (.istore_n 3, 1)), (28, (.iinc 4 1, 3)), (31, (.goto (-24), 3)), (34, (.iload_n 2, 1)), (35, (.ireturn, 1))] = true := zDs 0 (by decide +kernel)
theorem d_T_greatestDivisor_0 : decode (zb m_T_greatestDivisor) 0 = .ok (.iload_n 0, 1) := zdal_p dlB_T_greatestDivisor_76 (i := 0) rfl
theorem d_T_greatestDivisor_1 : decode (zb m_T_greatestDivisor) 1 = .ok (.istore_n 2, 1) := zdal_p dlB_T_greatestDivisor_76 (i := 1) rfl
theorem d_T_greatestDivisor_2 : decode (zb m_T_greatestDivisor) 2 = .ok (.iload_n 1, 1) := zdal_p dlB_T_greatestDivisor_76 (i := 2) rfl
theorem d_T_greatestDivisor_3 : decode (zb m_T_greatestDivisor) 3 = .ok (.istore_n 3, 1) := zdal_p dlB_T_greatestDivisor_76 (i := 3) rfl
theorem d_T_greatestDivisor_4 : decode (zb m_T_greatestDivisor) 4 = .ok (.iconst 0, 1) := zdal_p dlB_T_greatestDivisor_76 (i := 4) rfl
theorem d_T_greatestDivisor_5 : decode (zb m_T_greatestDivisor) 5 = .ok (.istore 4, 2) := zdal_p dlB_T_greatestDivisor_76 (i := 5) rfl
theorem d_T_greatestDivisor_7 : decode (zb m_T_greatestDivisor) 7 = .ok (.iload 4, 2) := zdal_p dlB_T_greatestDivisor_76 (i := 6) rfl
theorem d_T_greatestDivisor_9 : decode (zb m_T_greatestDivisor) 9 = .ok (.bipush 100, 2) := zdal_p dlB_T_greatestDivisor_76 (i := 7) rfl
theorem d_T_greatestDivisor_11 : decode (zb m_T_greatestDivisor) 11 = .ok (.if_icmp .ge 23, 3) := zdal_p dlB_T_greatestDivisor_76 (i := 8) rfl
theorem d_T_greatestDivisor_14 : decode (zb m_T_greatestDivisor) 14 = .ok (.iload_n 3, 1) := zdal_p dlB_T_greatestDivisor_76 (i := 9) rfl
theorem d_T_greatestDivisor_15 : decode (zb m_T_greatestDivisor) 15 = .ok (.ifCond .eq 19, 3) := zdal_p dlB_T_greatestDivisor_76 (i := 10) rfl
theorem d_T_greatestDivisor_18 : decode (zb m_T_greatestDivisor) 18 = .ok (.iload_n 2, 1) := zdal_p dlB_T_greatestDivisor_76 (i := 11) rfl
theorem d_T_greatestDivisor_19 : decode (zb m_T_greatestDivisor) 19 = .ok (.iload_n 3, 1) := zdal_p dlB_T_greatestDivisor_76 (i := 12) rfl
theorem d_T_greatestDivisor_20 : decode (zb m_T_greatestDivisor) 20 = .ok (.irem, 1) := zdal_p dlB_T_greatestDivisor_76 (i := 13) rfl
theorem d_T_greatestDivisor_21 : decode (zb m_T_greatestDivisor) 21 = .ok (.istore 5, 2) := zdal_p dlB_T_greatestDivisor_76 (i := 14) rfl
theorem d_T_greatestDivisor_23 : decode (zb m_T_greatestDivisor) 23 = .ok (.iload_n 3, 1) := zdal_p dlB_T_greatestDivisor_76 (i := 15) rfl
theorem d_T_greatestDivisor_24 : decode (zb m_T_greatestDivisor) 24 = .ok (.istore_n 2, 1) := zdal_p dlB_T_greatestDivisor_76 (i := 16) rfl
theorem d_T_greatestDivisor_25 : decode (zb m_T_greatestDivisor) 25 = .ok (.iload 5, 2) := zdal_p dlB_T_greatestDivisor_76 (i := 17) rfl
theorem d_T_greatestDivisor_27 : decode (zb m_T_greatestDivisor) 27 = .ok (.istore_n 3, 1) := zdal_p dlB_T_greatestDivisor_76 (i := 18) rfl
theorem d_T_greatestDivisor_28 : decode (zb m_T_greatestDivisor) 28 = .ok (.iinc 4 1, 3) := zdal_p dlB_T_greatestDivisor_76 (i := 19) rfl
theorem d_T_greatestDivisor_31 : decode (zb m_T_greatestDivisor) 31 = .ok (.goto (-24), 3) := zdal_p dlB_T_greatestDivisor_76 (i := 20) rfl
theorem d_T_greatestDivisor_34 : decode (zb m_T_greatestDivisor) 34 = .ok (.iload_n 2, 1) := zdal_p dlB_T_greatestDivisor_76 (i := 21) rfl
theorem d_T_greatestDivisor_35 : decode (zb m_T_greatestDivisor) 35 = .ok (.ireturn, 1) := zdal_p dlB_T_greatestDivisor_76 (i := 22) rfl
theorem dlB_T_local_77 : zdal (zb m_T_local) [(0, (.iload_n 1, 1)), (1, (.invokestatic 183, 3)), (4, (.ifCond .eq 31, 3)), (7, (.aload_n 0, 1)), (8, (.getfield 28, 3)), (11, (.getfield 85, 3)), (14, (.iload_n 2, 1)), (15, (.invokevirtual 143, 3)), (18, (.ifCond .eq 17, 3)), (21, (.aload_n 0, 1)), (22, (.getfield 28, 3)), (25, (.getfield 85, 3)), (28, (.iload_n 3, 1)), (29, (.invokevirtual 143, 3)), (32, (.ifCond .ne 6, 3)), (35, (.ldc 204, 2)), (37, (.ireturn, 1)), (38, (.aload_n 0, 1)), (39, (.aload_n 0, 1)), (40, (.getfield 28, 3)), (43, (.getfield 85, 3)), (46, (.iload_n 2, 1)), (47, (.iload_n 1, 1)), (48, (.invokevirtual 189, 3))] = true := zDs 0 (by decide +kernel)
theorem d_T_local_0 : decode (zb m_T_local) 0 = .ok (.iload_n 1, 1) := zdal_p dlB_T_local_77 (i := 0) rfl
theorem d_T_local_1 : decode (zb m_T_local) 1 = .ok (.invokestatic 183, 3) := zdal_p dlB_T_local_77 (i := 1) rfl
theorem d_T_local_4 : decode (zb m_T_local) 4 = .ok (.ifCond .eq 31, 3) := zdal_p dlB_T_local_77 (i := 2) rfl
theorem d_T_local_7 : decode (zb m_T_local) 7 = .ok (.aload_n 0, 1) := zdal_p dlB_T_local_77 (i := 3) rfl
theorem d_T_local_8 : decode (zb m_T_local) 8 = .ok (.getfield 28, 3) := zdal_p dlB_T_local_77 (i := 4) rfl
theorem d_T_local_11 : decode (zb m_T_local) 11 = .ok (.getfield 85, 3) := zdal_p dlB_T_local_77 (i := 5) rfl
theorem d_T_local_14 : decode (zb m_T_local) 14 = .ok (.iload_n 2, 1) := zdal_p dlB_T_local_77 (i := 6) rfl
theorem d_T_local_15 : decode (zb m_T_local) 15 = .ok (.invokevirtual 143, 3) := zdal_p dlB_T_local_77 (i := 7) rfl
theorem d_T_local_18 : decode (zb m_T_local) 18 = .ok (.ifCond .eq 17, 3) := zdal_p dlB_T_local_77 (i := 8) rfl
theorem d_T_local_21 : decode (zb m_T_local) 21 = .ok (.aload_n 0, 1) := zdal_p dlB_T_local_77 (i := 9) rfl
theorem d_T_local_22 : decode (zb m_T_local) 22 = .ok (.getfield 28, 3) := zdal_p dlB_T_local_77 (i := 10) rfl
theorem d_T_local_25 : decode (zb m_T_local) 25 = .ok (.getfield 85, 3) := zdal_p dlB_T_local_77 (i := 11) rfl
theorem d_T_local_28 : decode (zb m_T_local) 28 = .ok (.iload_n 3, 1) := zdal_p dlB_T_local_77 (i := 12) rfl
theorem d_T_local_29 : decode (zb m_T_local) 29 = .ok (.invokevirtual 143, 3) := zdal_p dlB_T_local_77 (i := 13) rfl
theorem d_T_local_32 : decode (zb m_T_local) 32 = .ok (.ifCond .ne 6, 3) := zdal_p dlB_T_local_77 (i := 14) rfl
theorem d_T_local_35 : decode (zb m_T_local) 35 = .ok (.ldc 204, 2) := zdal_p dlB_T_local_77 (i := 15) rfl
theorem d_T_local_37 : decode (zb m_T_local) 37 = .ok (.ireturn, 1) := zdal_p dlB_T_local_77 (i := 16) rfl
theorem d_T_local_38 : decode (zb m_T_local) 38 = .ok (.aload_n 0, 1) := zdal_p dlB_T_local_77 (i := 17) rfl
theorem d_T_local_39 : decode (zb m_T_local) 39 = .ok (.aload_n 0, 1) := zdal_p dlB_T_local_77 (i := 18) rfl
theorem d_T_local_40 : decode (zb m_T_local) 40 = .ok (.getfield 28, 3) := zdal_p dlB_T_local_77 (i := 19) rfl
theorem d_T_local_43 : decode (zb m_T_local) 43 = .ok (.getfield 85, 3) := zdal_p dlB_T_local_77 (i := 20) rfl
theorem d_T_local_46 : decode (zb m_T_local) 46 = .ok (.iload_n 2, 1) := zdal_p dlB_T_local_77 (i := 21) rfl
theorem d_T_local_47 : decode (zb m_T_local) 47 = .ok (.iload_n 1, 1) := zdal_p dlB_T_local_77 (i := 22) rfl
theorem d_T_local_48 : decode (zb m_T_local) 48 = .ok (.invokevirtual 189, 3) := zdal_p dlB_T_local_77 (i := 23) rfl
theorem dlB_T_local_78 : zdal (zb m_T_local) [(51, (.iload_n 3, 1)), (52, (.iload 4, 2)), (54, (.invokevirtual 223, 3)), (57, (.ireturn, 1))] = true := zDs 51 (by decide +kernel)
theorem d_T_local_51 : decode (zb m_T_local) 51 = .ok (.iload_n 3, 1) := zdal_p dlB_T_local_78 (i := 0) rfl
theorem d_T_local_52 : decode (zb m_T_local) 52 = .ok (.iload 4, 2) := zdal_p dlB_T_local_78 (i := 1) rfl
theorem d_T_local_54 : decode (zb m_T_local) 54 = .ok (.invokevirtual 223, 3) := zdal_p dlB_T_local_78 (i := 2) rfl
theorem d_T_local_57 : decode (zb m_T_local) 57 = .ok (.ireturn, 1) := zdal_p dlB_T_local_78 (i := 3) rfl
theorem dlB_T_units_79 : zdal (zb m_T_units) [(0, (.aload_n 0, 1)), (1, (.getfield 28, 3)), (4, (.getfield 227, 3)), (7, (.invokevirtual 231, 3)), (10, (.aload_n 0, 1)), (11, (.getfield 28, 3)), (14, (.getfield 227, 3)), (17, (.invokevirtual 236, 3)), (20, (.ireturn, 1))] = true := zDs 0 (by decide +kernel)
theorem d_T_units_0 : decode (zb m_T_units) 0 = .ok (.aload_n 0, 1) := zdal_p dlB_T_units_79 (i := 0) rfl
theorem d_T_units_1 : decode (zb m_T_units) 1 = .ok (.getfield 28, 3) := zdal_p dlB_T_units_79 (i := 1) rfl
theorem d_T_units_4 : decode (zb m_T_units) 4 = .ok (.getfield 227, 3) := zdal_p dlB_T_units_79 (i := 2) rfl
theorem d_T_units_7 : decode (zb m_T_units) 7 = .ok (.invokevirtual 231, 3) := zdal_p dlB_T_units_79 (i := 3) rfl
theorem d_T_units_10 : decode (zb m_T_units) 10 = .ok (.aload_n 0, 1) := zdal_p dlB_T_units_79 (i := 4) rfl
theorem d_T_units_11 : decode (zb m_T_units) 11 = .ok (.getfield 28, 3) := zdal_p dlB_T_units_79 (i := 5) rfl
theorem d_T_units_14 : decode (zb m_T_units) 14 = .ok (.getfield 227, 3) := zdal_p dlB_T_units_79 (i := 6) rfl
theorem d_T_units_17 : decode (zb m_T_units) 17 = .ok (.invokevirtual 236, 3) := zdal_p dlB_T_units_79 (i := 7) rfl
theorem d_T_units_20 : decode (zb m_T_units) 20 = .ok (.ireturn, 1) := zdal_p dlB_T_units_79 (i := 8) rfl
theorem dlB_Units_seek_80 : zdal (zb m_Units_seek) [(0, (.aload_n 0, 1)), (1, (.getfield 27, 3)), (4, (.ifCond .eq 4, 3)), (7, (.return_, 1)), (8, (.aload_n 0, 1)), (9, (.iconst 1, 1)), (10, (.putfield 27, 3)), (13, (.aload_n 0, 1)), (14, (.aload_n 0, 1)), (15, (.getfield 23, 3)), (18, (.getfield 35, 3)), (21, (.putfield 31, 3)), (24, (.iconst 0, 1)), (25, (.istore_n 1, 1)), (26, (.iload_n 1, 1)), (27, (.aload_n 0, 1)), (28, (.getfield 23, 3)), (31, (.getfield 35, 3)), (34, (.if_icmp .ge 20, 3)), (37, (.aload_n 0, 1)), (38, (.getfield 14, 3)), (41, (.iload_n 1, 1)), (42, (.iconst 1, 1)), (43, (.iload_n 1, 1))] = true := zDs 0 (by decide +kernel)
theorem d_Units_seek_0 : decode (zb m_Units_seek) 0 = .ok (.aload_n 0, 1) := zdal_p dlB_Units_seek_80 (i := 0) rfl
theorem d_Units_seek_1 : decode (zb m_Units_seek) 1 = .ok (.getfield 27, 3) := zdal_p dlB_Units_seek_80 (i := 1) rfl
theorem d_Units_seek_4 : decode (zb m_Units_seek) 4 = .ok (.ifCond .eq 4, 3) := zdal_p dlB_Units_seek_80 (i := 2) rfl
theorem d_Units_seek_7 : decode (zb m_Units_seek) 7 = .ok (.return_, 1) := zdal_p dlB_Units_seek_80 (i := 3) rfl
theorem d_Units_seek_8 : decode (zb m_Units_seek) 8 = .ok (.aload_n 0, 1) := zdal_p dlB_Units_seek_80 (i := 4) rfl
theorem d_Units_seek_9 : decode (zb m_Units_seek) 9 = .ok (.iconst 1, 1) := zdal_p dlB_Units_seek_80 (i := 5) rfl
theorem d_Units_seek_10 : decode (zb m_Units_seek) 10 = .ok (.putfield 27, 3) := zdal_p dlB_Units_seek_80 (i := 6) rfl
theorem d_Units_seek_13 : decode (zb m_Units_seek) 13 = .ok (.aload_n 0, 1) := zdal_p dlB_Units_seek_80 (i := 7) rfl
theorem d_Units_seek_14 : decode (zb m_Units_seek) 14 = .ok (.aload_n 0, 1) := zdal_p dlB_Units_seek_80 (i := 8) rfl
theorem d_Units_seek_15 : decode (zb m_Units_seek) 15 = .ok (.getfield 23, 3) := zdal_p dlB_Units_seek_80 (i := 9) rfl
theorem d_Units_seek_18 : decode (zb m_Units_seek) 18 = .ok (.getfield 35, 3) := zdal_p dlB_Units_seek_80 (i := 10) rfl
theorem d_Units_seek_21 : decode (zb m_Units_seek) 21 = .ok (.putfield 31, 3) := zdal_p dlB_Units_seek_80 (i := 11) rfl
theorem d_Units_seek_24 : decode (zb m_Units_seek) 24 = .ok (.iconst 0, 1) := zdal_p dlB_Units_seek_80 (i := 12) rfl
theorem d_Units_seek_25 : decode (zb m_Units_seek) 25 = .ok (.istore_n 1, 1) := zdal_p dlB_Units_seek_80 (i := 13) rfl
theorem d_Units_seek_26 : decode (zb m_Units_seek) 26 = .ok (.iload_n 1, 1) := zdal_p dlB_Units_seek_80 (i := 14) rfl
theorem d_Units_seek_27 : decode (zb m_Units_seek) 27 = .ok (.aload_n 0, 1) := zdal_p dlB_Units_seek_80 (i := 15) rfl
theorem d_Units_seek_28 : decode (zb m_Units_seek) 28 = .ok (.getfield 23, 3) := zdal_p dlB_Units_seek_80 (i := 16) rfl
theorem d_Units_seek_31 : decode (zb m_Units_seek) 31 = .ok (.getfield 35, 3) := zdal_p dlB_Units_seek_80 (i := 17) rfl
theorem d_Units_seek_34 : decode (zb m_Units_seek) 34 = .ok (.if_icmp .ge 20, 3) := zdal_p dlB_Units_seek_80 (i := 18) rfl
theorem d_Units_seek_37 : decode (zb m_Units_seek) 37 = .ok (.aload_n 0, 1) := zdal_p dlB_Units_seek_80 (i := 19) rfl
theorem d_Units_seek_38 : decode (zb m_Units_seek) 38 = .ok (.getfield 14, 3) := zdal_p dlB_Units_seek_80 (i := 20) rfl
theorem d_Units_seek_41 : decode (zb m_Units_seek) 41 = .ok (.iload_n 1, 1) := zdal_p dlB_Units_seek_80 (i := 21) rfl
theorem d_Units_seek_42 : decode (zb m_Units_seek) 42 = .ok (.iconst 1, 1) := zdal_p dlB_Units_seek_80 (i := 22) rfl
theorem d_Units_seek_43 : decode (zb m_Units_seek) 43 = .ok (.iload_n 1, 1) := zdal_p dlB_Units_seek_80 (i := 23) rfl
theorem dlB_Units_seek_81 : zdal (zb m_Units_seek) [(44, (.ishl, 1)), (45, (.invokevirtual 40, 3)), (48, (.iinc 1 1, 3)), (51, (.goto (-25), 3)), (54, (.iconst 0, 1)), (55, (.istore_n 1, 1)), (56, (.iload_n 1, 1)), (57, (.aload_n 0, 1)), (58, (.getfield 23, 3)), (61, (.getfield 35, 3)), (64, (.if_icmp .ge 14, 3)), (67, (.aload_n 0, 1)), (68, (.iload_n 1, 1)), (69, (.invokevirtual 44, 3)), (72, (.iinc 1 1, 3)), (75, (.goto (-19), 3)), (78, (.aload_n 0, 1)), (79, (.invokevirtual 47, 3)), (82, (.return_, 1))] = true := zDs 44 (by decide +kernel)
theorem d_Units_seek_44 : decode (zb m_Units_seek) 44 = .ok (.ishl, 1) := zdal_p dlB_Units_seek_81 (i := 0) rfl
theorem d_Units_seek_45 : decode (zb m_Units_seek) 45 = .ok (.invokevirtual 40, 3) := zdal_p dlB_Units_seek_81 (i := 1) rfl
theorem d_Units_seek_48 : decode (zb m_Units_seek) 48 = .ok (.iinc 1 1, 3) := zdal_p dlB_Units_seek_81 (i := 2) rfl
theorem d_Units_seek_51 : decode (zb m_Units_seek) 51 = .ok (.goto (-25), 3) := zdal_p dlB_Units_seek_81 (i := 3) rfl
theorem d_Units_seek_54 : decode (zb m_Units_seek) 54 = .ok (.iconst 0, 1) := zdal_p dlB_Units_seek_81 (i := 4) rfl
theorem d_Units_seek_55 : decode (zb m_Units_seek) 55 = .ok (.istore_n 1, 1) := zdal_p dlB_Units_seek_81 (i := 5) rfl
theorem d_Units_seek_56 : decode (zb m_Units_seek) 56 = .ok (.iload_n 1, 1) := zdal_p dlB_Units_seek_81 (i := 6) rfl
theorem d_Units_seek_57 : decode (zb m_Units_seek) 57 = .ok (.aload_n 0, 1) := zdal_p dlB_Units_seek_81 (i := 7) rfl
theorem d_Units_seek_58 : decode (zb m_Units_seek) 58 = .ok (.getfield 23, 3) := zdal_p dlB_Units_seek_81 (i := 8) rfl
theorem d_Units_seek_61 : decode (zb m_Units_seek) 61 = .ok (.getfield 35, 3) := zdal_p dlB_Units_seek_81 (i := 9) rfl
theorem d_Units_seek_64 : decode (zb m_Units_seek) 64 = .ok (.if_icmp .ge 14, 3) := zdal_p dlB_Units_seek_81 (i := 10) rfl
theorem d_Units_seek_67 : decode (zb m_Units_seek) 67 = .ok (.aload_n 0, 1) := zdal_p dlB_Units_seek_81 (i := 11) rfl
theorem d_Units_seek_68 : decode (zb m_Units_seek) 68 = .ok (.iload_n 1, 1) := zdal_p dlB_Units_seek_81 (i := 12) rfl
theorem d_Units_seek_69 : decode (zb m_Units_seek) 69 = .ok (.invokevirtual 44, 3) := zdal_p dlB_Units_seek_81 (i := 13) rfl
theorem d_Units_seek_72 : decode (zb m_Units_seek) 72 = .ok (.iinc 1 1, 3) := zdal_p dlB_Units_seek_81 (i := 14) rfl
theorem d_Units_seek_75 : decode (zb m_Units_seek) 75 = .ok (.goto (-19), 3) := zdal_p dlB_Units_seek_81 (i := 15) rfl
theorem d_Units_seek_78 : decode (zb m_Units_seek) 78 = .ok (.aload_n 0, 1) := zdal_p dlB_Units_seek_81 (i := 16) rfl
theorem d_Units_seek_79 : decode (zb m_Units_seek) 79 = .ok (.invokevirtual 47, 3) := zdal_p dlB_Units_seek_81 (i := 17) rfl
theorem d_Units_seek_82 : decode (zb m_Units_seek) 82 = .ok (.return_, 1) := zdal_p dlB_Units_seek_81 (i := 18) rfl
theorem dlB_Units_narrowAt_82 : zdal (zb m_Units_narrowAt) [(0, (.aload_n 0, 1)), (1, (.getfield 23, 3)), (4, (.getfield 50, 3)), (7, (.astore_n 2, 1)), (8, (.aload_n 0, 1)), (9, (.getfield 23, 3)), (12, (.getfield 54, 3)), (15, (.iload_n 1, 1)), (16, (.invokevirtual 57, 3)), (19, (.istore_n 3, 1)), (20, (.iconst 0, 1)), (21, (.istore 4, 2)), (23, (.aload_n 2, 1)), (24, (.iload_n 3, 1)), (25, (.invokevirtual 61, 3)), (28, (.istore 5, 2)), (30, (.iconst 0, 1)), (31, (.istore 6, 2)), (33, (.iload 6, 2)), (35, (.aload_n 2, 1)), (36, (.getfield 66, 3)), (39, (.if_icmp .ge 66, 3)), (42, (.iload 5, 2)), (44, (.iload 6, 2))] = true := zDs 0 (by decide +kernel)
theorem d_Units_narrowAt_0 : decode (zb m_Units_narrowAt) 0 = .ok (.aload_n 0, 1) := zdal_p dlB_Units_narrowAt_82 (i := 0) rfl
theorem d_Units_narrowAt_1 : decode (zb m_Units_narrowAt) 1 = .ok (.getfield 23, 3) := zdal_p dlB_Units_narrowAt_82 (i := 1) rfl
theorem d_Units_narrowAt_4 : decode (zb m_Units_narrowAt) 4 = .ok (.getfield 50, 3) := zdal_p dlB_Units_narrowAt_82 (i := 2) rfl
theorem d_Units_narrowAt_7 : decode (zb m_Units_narrowAt) 7 = .ok (.astore_n 2, 1) := zdal_p dlB_Units_narrowAt_82 (i := 3) rfl
theorem d_Units_narrowAt_8 : decode (zb m_Units_narrowAt) 8 = .ok (.aload_n 0, 1) := zdal_p dlB_Units_narrowAt_82 (i := 4) rfl
theorem d_Units_narrowAt_9 : decode (zb m_Units_narrowAt) 9 = .ok (.getfield 23, 3) := zdal_p dlB_Units_narrowAt_82 (i := 5) rfl
theorem d_Units_narrowAt_12 : decode (zb m_Units_narrowAt) 12 = .ok (.getfield 54, 3) := zdal_p dlB_Units_narrowAt_82 (i := 6) rfl
theorem d_Units_narrowAt_15 : decode (zb m_Units_narrowAt) 15 = .ok (.iload_n 1, 1) := zdal_p dlB_Units_narrowAt_82 (i := 7) rfl
theorem d_Units_narrowAt_16 : decode (zb m_Units_narrowAt) 16 = .ok (.invokevirtual 57, 3) := zdal_p dlB_Units_narrowAt_82 (i := 8) rfl
theorem d_Units_narrowAt_19 : decode (zb m_Units_narrowAt) 19 = .ok (.istore_n 3, 1) := zdal_p dlB_Units_narrowAt_82 (i := 9) rfl
theorem d_Units_narrowAt_20 : decode (zb m_Units_narrowAt) 20 = .ok (.iconst 0, 1) := zdal_p dlB_Units_narrowAt_82 (i := 10) rfl
theorem d_Units_narrowAt_21 : decode (zb m_Units_narrowAt) 21 = .ok (.istore 4, 2) := zdal_p dlB_Units_narrowAt_82 (i := 11) rfl
theorem d_Units_narrowAt_23 : decode (zb m_Units_narrowAt) 23 = .ok (.aload_n 2, 1) := zdal_p dlB_Units_narrowAt_82 (i := 12) rfl
theorem d_Units_narrowAt_24 : decode (zb m_Units_narrowAt) 24 = .ok (.iload_n 3, 1) := zdal_p dlB_Units_narrowAt_82 (i := 13) rfl
theorem d_Units_narrowAt_25 : decode (zb m_Units_narrowAt) 25 = .ok (.invokevirtual 61, 3) := zdal_p dlB_Units_narrowAt_82 (i := 14) rfl
theorem d_Units_narrowAt_28 : decode (zb m_Units_narrowAt) 28 = .ok (.istore 5, 2) := zdal_p dlB_Units_narrowAt_82 (i := 15) rfl
theorem d_Units_narrowAt_30 : decode (zb m_Units_narrowAt) 30 = .ok (.iconst 0, 1) := zdal_p dlB_Units_narrowAt_82 (i := 16) rfl
theorem d_Units_narrowAt_31 : decode (zb m_Units_narrowAt) 31 = .ok (.istore 6, 2) := zdal_p dlB_Units_narrowAt_82 (i := 17) rfl
theorem d_Units_narrowAt_33 : decode (zb m_Units_narrowAt) 33 = .ok (.iload 6, 2) := zdal_p dlB_Units_narrowAt_82 (i := 18) rfl
theorem d_Units_narrowAt_35 : decode (zb m_Units_narrowAt) 35 = .ok (.aload_n 2, 1) := zdal_p dlB_Units_narrowAt_82 (i := 19) rfl
theorem d_Units_narrowAt_36 : decode (zb m_Units_narrowAt) 36 = .ok (.getfield 66, 3) := zdal_p dlB_Units_narrowAt_82 (i := 20) rfl
theorem d_Units_narrowAt_39 : decode (zb m_Units_narrowAt) 39 = .ok (.if_icmp .ge 66, 3) := zdal_p dlB_Units_narrowAt_82 (i := 21) rfl
theorem d_Units_narrowAt_42 : decode (zb m_Units_narrowAt) 42 = .ok (.iload 5, 2) := zdal_p dlB_Units_narrowAt_82 (i := 22) rfl
theorem d_Units_narrowAt_44 : decode (zb m_Units_narrowAt) 44 = .ok (.iload 6, 2) := zdal_p dlB_Units_narrowAt_82 (i := 23) rfl
theorem dlB_Units_narrowAt_83 : zdal (zb m_Units_narrowAt) [(46, (.invokestatic 69, 3)), (49, (.ifCond .eq 50, 3)), (52, (.aload_n 2, 1)), (53, (.iload_n 3, 1)), (54, (.iload 6, 2)), (56, (.invokevirtual 73, 3)), (59, (.iload 6, 2)), (61, (.if_icmp .ne 38, 3)), (64, (.iload 4, 2)), (66, (.iconst 1, 1)), (67, (.iload 6, 2)), (69, (.ishl, 1)), (70, (.ior, 1)), (71, (.istore 4, 2)), (73, (.aload_n 0, 1)), (74, (.getfield 20, 3)), (77, (.iload 6, 2)), (79, (.aload_n 0, 1)), (80, (.aload_n 0, 1)), (81, (.getfield 23, 3)), (84, (.iload_n 3, 1)), (85, (.iconst 1, 1)), (86, (.iload 6, 2)), (88, (.ishl, 1))] = true := zDs 46 (by decide +kernel)
theorem d_Units_narrowAt_46 : decode (zb m_Units_narrowAt) 46 = .ok (.invokestatic 69, 3) := zdal_p dlB_Units_narrowAt_83 (i := 0) rfl
theorem d_Units_narrowAt_49 : decode (zb m_Units_narrowAt) 49 = .ok (.ifCond .eq 50, 3) := zdal_p dlB_Units_narrowAt_83 (i := 1) rfl
theorem d_Units_narrowAt_52 : decode (zb m_Units_narrowAt) 52 = .ok (.aload_n 2, 1) := zdal_p dlB_Units_narrowAt_83 (i := 2) rfl
theorem d_Units_narrowAt_53 : decode (zb m_Units_narrowAt) 53 = .ok (.iload_n 3, 1) := zdal_p dlB_Units_narrowAt_83 (i := 3) rfl
theorem d_Units_narrowAt_54 : decode (zb m_Units_narrowAt) 54 = .ok (.iload 6, 2) := zdal_p dlB_Units_narrowAt_83 (i := 4) rfl
theorem d_Units_narrowAt_56 : decode (zb m_Units_narrowAt) 56 = .ok (.invokevirtual 73, 3) := zdal_p dlB_Units_narrowAt_83 (i := 5) rfl
theorem d_Units_narrowAt_59 : decode (zb m_Units_narrowAt) 59 = .ok (.iload 6, 2) := zdal_p dlB_Units_narrowAt_83 (i := 6) rfl
theorem d_Units_narrowAt_61 : decode (zb m_Units_narrowAt) 61 = .ok (.if_icmp .ne 38, 3) := zdal_p dlB_Units_narrowAt_83 (i := 7) rfl
theorem d_Units_narrowAt_64 : decode (zb m_Units_narrowAt) 64 = .ok (.iload 4, 2) := zdal_p dlB_Units_narrowAt_83 (i := 8) rfl
theorem d_Units_narrowAt_66 : decode (zb m_Units_narrowAt) 66 = .ok (.iconst 1, 1) := zdal_p dlB_Units_narrowAt_83 (i := 9) rfl
theorem d_Units_narrowAt_67 : decode (zb m_Units_narrowAt) 67 = .ok (.iload 6, 2) := zdal_p dlB_Units_narrowAt_83 (i := 10) rfl
theorem d_Units_narrowAt_69 : decode (zb m_Units_narrowAt) 69 = .ok (.ishl, 1) := zdal_p dlB_Units_narrowAt_83 (i := 11) rfl
theorem d_Units_narrowAt_70 : decode (zb m_Units_narrowAt) 70 = .ok (.ior, 1) := zdal_p dlB_Units_narrowAt_83 (i := 12) rfl
theorem d_Units_narrowAt_71 : decode (zb m_Units_narrowAt) 71 = .ok (.istore 4, 2) := zdal_p dlB_Units_narrowAt_83 (i := 13) rfl
theorem d_Units_narrowAt_73 : decode (zb m_Units_narrowAt) 73 = .ok (.aload_n 0, 1) := zdal_p dlB_Units_narrowAt_83 (i := 14) rfl
theorem d_Units_narrowAt_74 : decode (zb m_Units_narrowAt) 74 = .ok (.getfield 20, 3) := zdal_p dlB_Units_narrowAt_83 (i := 15) rfl
theorem d_Units_narrowAt_77 : decode (zb m_Units_narrowAt) 77 = .ok (.iload 6, 2) := zdal_p dlB_Units_narrowAt_83 (i := 16) rfl
theorem d_Units_narrowAt_79 : decode (zb m_Units_narrowAt) 79 = .ok (.aload_n 0, 1) := zdal_p dlB_Units_narrowAt_83 (i := 17) rfl
theorem d_Units_narrowAt_80 : decode (zb m_Units_narrowAt) 80 = .ok (.aload_n 0, 1) := zdal_p dlB_Units_narrowAt_83 (i := 18) rfl
theorem d_Units_narrowAt_81 : decode (zb m_Units_narrowAt) 81 = .ok (.getfield 23, 3) := zdal_p dlB_Units_narrowAt_83 (i := 19) rfl
theorem d_Units_narrowAt_84 : decode (zb m_Units_narrowAt) 84 = .ok (.iload_n 3, 1) := zdal_p dlB_Units_narrowAt_83 (i := 20) rfl
theorem d_Units_narrowAt_85 : decode (zb m_Units_narrowAt) 85 = .ok (.iconst 1, 1) := zdal_p dlB_Units_narrowAt_83 (i := 21) rfl
theorem d_Units_narrowAt_86 : decode (zb m_Units_narrowAt) 86 = .ok (.iload 6, 2) := zdal_p dlB_Units_narrowAt_83 (i := 22) rfl
theorem d_Units_narrowAt_88 : decode (zb m_Units_narrowAt) 88 = .ok (.ishl, 1) := zdal_p dlB_Units_narrowAt_83 (i := 23) rfl
theorem dlB_Units_narrowAt_84 : zdal (zb m_Units_narrowAt) [(89, (.ior, 1)), (90, (.invokevirtual 77, 3)), (93, (.invokevirtual 80, 3)), (96, (.invokevirtual 40, 3)), (99, (.iinc 6 1, 3)), (102, (.goto (-69), 3)), (105, (.iconst 0, 1)), (106, (.istore 6, 2)), (108, (.iload 6, 2)), (110, (.aload_n 2, 1)), (111, (.getfield 66, 3)), (114, (.if_icmp .ge 101, 3)), (117, (.iconst 0, 1)), (118, (.istore 7, 2)), (120, (.iload 7, 2)), (122, (.aload_n 2, 1)), (123, (.getfield 66, 3)), (126, (.if_icmp .ge 83, 3)), (129, (.iload 4, 2)), (131, (.iload 6, 2)), (133, (.invokestatic 69, 3)), (136, (.ifCond .eq 67, 3)), (139, (.iload 4, 2)), (141, (.iload 7, 2))] = true := zDs 89 (by decide +kernel)
theorem d_Units_narrowAt_89 : decode (zb m_Units_narrowAt) 89 = .ok (.ior, 1) := zdal_p dlB_Units_narrowAt_84 (i := 0) rfl
theorem d_Units_narrowAt_90 : decode (zb m_Units_narrowAt) 90 = .ok (.invokevirtual 77, 3) := zdal_p dlB_Units_narrowAt_84 (i := 1) rfl
theorem d_Units_narrowAt_93 : decode (zb m_Units_narrowAt) 93 = .ok (.invokevirtual 80, 3) := zdal_p dlB_Units_narrowAt_84 (i := 2) rfl
theorem d_Units_narrowAt_96 : decode (zb m_Units_narrowAt) 96 = .ok (.invokevirtual 40, 3) := zdal_p dlB_Units_narrowAt_84 (i := 3) rfl
theorem d_Units_narrowAt_99 : decode (zb m_Units_narrowAt) 99 = .ok (.iinc 6 1, 3) := zdal_p dlB_Units_narrowAt_84 (i := 4) rfl
theorem d_Units_narrowAt_102 : decode (zb m_Units_narrowAt) 102 = .ok (.goto (-69), 3) := zdal_p dlB_Units_narrowAt_84 (i := 5) rfl
theorem d_Units_narrowAt_105 : decode (zb m_Units_narrowAt) 105 = .ok (.iconst 0, 1) := zdal_p dlB_Units_narrowAt_84 (i := 6) rfl
theorem d_Units_narrowAt_106 : decode (zb m_Units_narrowAt) 106 = .ok (.istore 6, 2) := zdal_p dlB_Units_narrowAt_84 (i := 7) rfl
theorem d_Units_narrowAt_108 : decode (zb m_Units_narrowAt) 108 = .ok (.iload 6, 2) := zdal_p dlB_Units_narrowAt_84 (i := 8) rfl
theorem d_Units_narrowAt_110 : decode (zb m_Units_narrowAt) 110 = .ok (.aload_n 2, 1) := zdal_p dlB_Units_narrowAt_84 (i := 9) rfl
theorem d_Units_narrowAt_111 : decode (zb m_Units_narrowAt) 111 = .ok (.getfield 66, 3) := zdal_p dlB_Units_narrowAt_84 (i := 10) rfl
theorem d_Units_narrowAt_114 : decode (zb m_Units_narrowAt) 114 = .ok (.if_icmp .ge 101, 3) := zdal_p dlB_Units_narrowAt_84 (i := 11) rfl
theorem d_Units_narrowAt_117 : decode (zb m_Units_narrowAt) 117 = .ok (.iconst 0, 1) := zdal_p dlB_Units_narrowAt_84 (i := 12) rfl
theorem d_Units_narrowAt_118 : decode (zb m_Units_narrowAt) 118 = .ok (.istore 7, 2) := zdal_p dlB_Units_narrowAt_84 (i := 13) rfl
theorem d_Units_narrowAt_120 : decode (zb m_Units_narrowAt) 120 = .ok (.iload 7, 2) := zdal_p dlB_Units_narrowAt_84 (i := 14) rfl
theorem d_Units_narrowAt_122 : decode (zb m_Units_narrowAt) 122 = .ok (.aload_n 2, 1) := zdal_p dlB_Units_narrowAt_84 (i := 15) rfl
theorem d_Units_narrowAt_123 : decode (zb m_Units_narrowAt) 123 = .ok (.getfield 66, 3) := zdal_p dlB_Units_narrowAt_84 (i := 16) rfl
theorem d_Units_narrowAt_126 : decode (zb m_Units_narrowAt) 126 = .ok (.if_icmp .ge 83, 3) := zdal_p dlB_Units_narrowAt_84 (i := 17) rfl
theorem d_Units_narrowAt_129 : decode (zb m_Units_narrowAt) 129 = .ok (.iload 4, 2) := zdal_p dlB_Units_narrowAt_84 (i := 18) rfl
theorem d_Units_narrowAt_131 : decode (zb m_Units_narrowAt) 131 = .ok (.iload 6, 2) := zdal_p dlB_Units_narrowAt_84 (i := 19) rfl
theorem d_Units_narrowAt_133 : decode (zb m_Units_narrowAt) 133 = .ok (.invokestatic 69, 3) := zdal_p dlB_Units_narrowAt_84 (i := 20) rfl
theorem d_Units_narrowAt_136 : decode (zb m_Units_narrowAt) 136 = .ok (.ifCond .eq 67, 3) := zdal_p dlB_Units_narrowAt_84 (i := 21) rfl
theorem d_Units_narrowAt_139 : decode (zb m_Units_narrowAt) 139 = .ok (.iload 4, 2) := zdal_p dlB_Units_narrowAt_84 (i := 22) rfl
theorem d_Units_narrowAt_141 : decode (zb m_Units_narrowAt) 141 = .ok (.iload 7, 2) := zdal_p dlB_Units_narrowAt_84 (i := 23) rfl
theorem dlB_Units_narrowAt_85 : zdal (zb m_Units_narrowAt) [(143, (.invokestatic 69, 3)), (146, (.ifCond .eq 57, 3)), (149, (.aload_n 2, 1)), (150, (.iload_n 3, 1)), (151, (.aload_n 2, 1)), (152, (.iload 6, 2)), (154, (.iload 7, 2)), (156, (.invokevirtual 83, 3)), (159, (.invokevirtual 73, 3)), (162, (.istore 8, 2)), (164, (.aload_n 0, 1)), (165, (.aload_n 0, 1)), (166, (.iload_n 1, 1)), (167, (.invokevirtual 80, 3)), (170, (.aload_n 0, 1)), (171, (.getfield 20, 3)), (174, (.iload 6, 2)), (176, (.invokevirtual 57, 3)), (179, (.ixor, 1)), (180, (.aload_n 0, 1)), (181, (.getfield 20, 3)), (184, (.iload 7, 2)), (186, (.invokevirtual 57, 3)), (189, (.ixor, 1))] = true := zDs 143 (by decide +kernel)
theorem d_Units_narrowAt_143 : decode (zb m_Units_narrowAt) 143 = .ok (.invokestatic 69, 3) := zdal_p dlB_Units_narrowAt_85 (i := 0) rfl
theorem d_Units_narrowAt_146 : decode (zb m_Units_narrowAt) 146 = .ok (.ifCond .eq 57, 3) := zdal_p dlB_Units_narrowAt_85 (i := 1) rfl
theorem d_Units_narrowAt_149 : decode (zb m_Units_narrowAt) 149 = .ok (.aload_n 2, 1) := zdal_p dlB_Units_narrowAt_85 (i := 2) rfl
theorem d_Units_narrowAt_150 : decode (zb m_Units_narrowAt) 150 = .ok (.iload_n 3, 1) := zdal_p dlB_Units_narrowAt_85 (i := 3) rfl
theorem d_Units_narrowAt_151 : decode (zb m_Units_narrowAt) 151 = .ok (.aload_n 2, 1) := zdal_p dlB_Units_narrowAt_85 (i := 4) rfl
theorem d_Units_narrowAt_152 : decode (zb m_Units_narrowAt) 152 = .ok (.iload 6, 2) := zdal_p dlB_Units_narrowAt_85 (i := 5) rfl
theorem d_Units_narrowAt_154 : decode (zb m_Units_narrowAt) 154 = .ok (.iload 7, 2) := zdal_p dlB_Units_narrowAt_85 (i := 6) rfl
theorem d_Units_narrowAt_156 : decode (zb m_Units_narrowAt) 156 = .ok (.invokevirtual 83, 3) := zdal_p dlB_Units_narrowAt_85 (i := 7) rfl
theorem d_Units_narrowAt_159 : decode (zb m_Units_narrowAt) 159 = .ok (.invokevirtual 73, 3) := zdal_p dlB_Units_narrowAt_85 (i := 8) rfl
theorem d_Units_narrowAt_162 : decode (zb m_Units_narrowAt) 162 = .ok (.istore 8, 2) := zdal_p dlB_Units_narrowAt_85 (i := 9) rfl
theorem d_Units_narrowAt_164 : decode (zb m_Units_narrowAt) 164 = .ok (.aload_n 0, 1) := zdal_p dlB_Units_narrowAt_85 (i := 10) rfl
theorem d_Units_narrowAt_165 : decode (zb m_Units_narrowAt) 165 = .ok (.aload_n 0, 1) := zdal_p dlB_Units_narrowAt_85 (i := 11) rfl
theorem d_Units_narrowAt_166 : decode (zb m_Units_narrowAt) 166 = .ok (.iload_n 1, 1) := zdal_p dlB_Units_narrowAt_85 (i := 12) rfl
theorem d_Units_narrowAt_167 : decode (zb m_Units_narrowAt) 167 = .ok (.invokevirtual 80, 3) := zdal_p dlB_Units_narrowAt_85 (i := 13) rfl
theorem d_Units_narrowAt_170 : decode (zb m_Units_narrowAt) 170 = .ok (.aload_n 0, 1) := zdal_p dlB_Units_narrowAt_85 (i := 14) rfl
theorem d_Units_narrowAt_171 : decode (zb m_Units_narrowAt) 171 = .ok (.getfield 20, 3) := zdal_p dlB_Units_narrowAt_85 (i := 15) rfl
theorem d_Units_narrowAt_174 : decode (zb m_Units_narrowAt) 174 = .ok (.iload 6, 2) := zdal_p dlB_Units_narrowAt_85 (i := 16) rfl
theorem d_Units_narrowAt_176 : decode (zb m_Units_narrowAt) 176 = .ok (.invokevirtual 57, 3) := zdal_p dlB_Units_narrowAt_85 (i := 17) rfl
theorem d_Units_narrowAt_179 : decode (zb m_Units_narrowAt) 179 = .ok (.ixor, 1) := zdal_p dlB_Units_narrowAt_85 (i := 18) rfl
theorem d_Units_narrowAt_180 : decode (zb m_Units_narrowAt) 180 = .ok (.aload_n 0, 1) := zdal_p dlB_Units_narrowAt_85 (i := 19) rfl
theorem d_Units_narrowAt_181 : decode (zb m_Units_narrowAt) 181 = .ok (.getfield 20, 3) := zdal_p dlB_Units_narrowAt_85 (i := 20) rfl
theorem d_Units_narrowAt_184 : decode (zb m_Units_narrowAt) 184 = .ok (.iload 7, 2) := zdal_p dlB_Units_narrowAt_85 (i := 21) rfl
theorem d_Units_narrowAt_186 : decode (zb m_Units_narrowAt) 186 = .ok (.invokevirtual 57, 3) := zdal_p dlB_Units_narrowAt_85 (i := 22) rfl
theorem d_Units_narrowAt_189 : decode (zb m_Units_narrowAt) 189 = .ok (.ixor, 1) := zdal_p dlB_Units_narrowAt_85 (i := 23) rfl
theorem dlB_Units_narrowAt_86 : zdal (zb m_Units_narrowAt) [(190, (.aload_n 0, 1)), (191, (.getfield 20, 3)), (194, (.iload 8, 2)), (196, (.invokevirtual 57, 3)), (199, (.ixor, 1)), (200, (.invokevirtual 86, 3)), (203, (.iinc 7 1, 3)), (206, (.goto (-86), 3)), (209, (.iinc 6 1, 3)), (212, (.goto (-104), 3)), (215, (.return_, 1))] = true := zDs 190 (by decide +kernel)
theorem d_Units_narrowAt_190 : decode (zb m_Units_narrowAt) 190 = .ok (.aload_n 0, 1) := zdal_p dlB_Units_narrowAt_86 (i := 0) rfl
theorem d_Units_narrowAt_191 : decode (zb m_Units_narrowAt) 191 = .ok (.getfield 20, 3) := zdal_p dlB_Units_narrowAt_86 (i := 1) rfl
theorem d_Units_narrowAt_194 : decode (zb m_Units_narrowAt) 194 = .ok (.iload 8, 2) := zdal_p dlB_Units_narrowAt_86 (i := 2) rfl
theorem d_Units_narrowAt_196 : decode (zb m_Units_narrowAt) 196 = .ok (.invokevirtual 57, 3) := zdal_p dlB_Units_narrowAt_86 (i := 3) rfl
theorem d_Units_narrowAt_199 : decode (zb m_Units_narrowAt) 199 = .ok (.ixor, 1) := zdal_p dlB_Units_narrowAt_86 (i := 4) rfl
theorem d_Units_narrowAt_200 : decode (zb m_Units_narrowAt) 200 = .ok (.invokevirtual 86, 3) := zdal_p dlB_Units_narrowAt_86 (i := 5) rfl
theorem d_Units_narrowAt_203 : decode (zb m_Units_narrowAt) 203 = .ok (.iinc 7 1, 3) := zdal_p dlB_Units_narrowAt_86 (i := 6) rfl
theorem d_Units_narrowAt_206 : decode (zb m_Units_narrowAt) 206 = .ok (.goto (-86), 3) := zdal_p dlB_Units_narrowAt_86 (i := 7) rfl
theorem d_Units_narrowAt_209 : decode (zb m_Units_narrowAt) 209 = .ok (.iinc 6 1, 3) := zdal_p dlB_Units_narrowAt_86 (i := 8) rfl
theorem d_Units_narrowAt_212 : decode (zb m_Units_narrowAt) 212 = .ok (.goto (-104), 3) := zdal_p dlB_Units_narrowAt_86 (i := 9) rfl
theorem d_Units_narrowAt_215 : decode (zb m_Units_narrowAt) 215 = .ok (.return_, 1) := zdal_p dlB_Units_narrowAt_86 (i := 10) rfl
theorem dlB_Units_bitOf_87 : zdal (zb m_Units_bitOf) [(0, (.iconst 1, 1)), (1, (.aload_n 0, 1)), (2, (.getfield 23, 3)), (5, (.getfield 35, 3)), (8, (.iconst 1, 1)), (9, (.isub, 1)), (10, (.iload_n 1, 1)), (11, (.isub, 1)), (12, (.ishl, 1)), (13, (.ireturn, 1))] = true := zDs 0 (by decide +kernel)
theorem d_Units_bitOf_0 : decode (zb m_Units_bitOf) 0 = .ok (.iconst 1, 1) := zdal_p dlB_Units_bitOf_87 (i := 0) rfl
theorem d_Units_bitOf_1 : decode (zb m_Units_bitOf) 1 = .ok (.aload_n 0, 1) := zdal_p dlB_Units_bitOf_87 (i := 1) rfl
theorem d_Units_bitOf_2 : decode (zb m_Units_bitOf) 2 = .ok (.getfield 23, 3) := zdal_p dlB_Units_bitOf_87 (i := 2) rfl
theorem d_Units_bitOf_5 : decode (zb m_Units_bitOf) 5 = .ok (.getfield 35, 3) := zdal_p dlB_Units_bitOf_87 (i := 3) rfl
theorem d_Units_bitOf_8 : decode (zb m_Units_bitOf) 8 = .ok (.iconst 1, 1) := zdal_p dlB_Units_bitOf_87 (i := 4) rfl
theorem d_Units_bitOf_9 : decode (zb m_Units_bitOf) 9 = .ok (.isub, 1) := zdal_p dlB_Units_bitOf_87 (i := 5) rfl
theorem d_Units_bitOf_10 : decode (zb m_Units_bitOf) 10 = .ok (.iload_n 1, 1) := zdal_p dlB_Units_bitOf_87 (i := 6) rfl
theorem d_Units_bitOf_11 : decode (zb m_Units_bitOf) 11 = .ok (.isub, 1) := zdal_p dlB_Units_bitOf_87 (i := 7) rfl
theorem d_Units_bitOf_12 : decode (zb m_Units_bitOf) 12 = .ok (.ishl, 1) := zdal_p dlB_Units_bitOf_87 (i := 8) rfl
theorem d_Units_bitOf_13 : decode (zb m_Units_bitOf) 13 = .ok (.ireturn, 1) := zdal_p dlB_Units_bitOf_87 (i := 9) rfl
theorem dlB_Units_narrow_88 : zdal (zb m_Units_narrow) [(0, (.iconst (-1), 1)), (1, (.istore_n 2, 1)), (2, (.iconst 0, 1)), (3, (.istore_n 3, 1)), (4, (.iload_n 3, 1)), (5, (.aload_n 0, 1)), (6, (.getfield 31, 3)), (9, (.if_icmp .ge 65, 3)), (12, (.aload_n 0, 1)), (13, (.getfield 14, 3)), (16, (.iload_n 3, 1)), (17, (.invokevirtual 57, 3)), (20, (.iload_n 1, 1)), (21, (.iand, 1)), (22, (.invokestatic 89, 3)), (25, (.iconst 1, 1)), (26, (.iand, 1)), (27, (.ifCond .ne 6, 3)), (30, (.goto 38, 3)), (33, (.iload_n 2, 1)), (34, (.iconst (-1), 1)), (35, (.if_icmp .ne 8, 3)), (38, (.iload_n 3, 1)), (39, (.istore_n 2, 1))] = true := zDs 0 (by decide +kernel)
theorem d_Units_narrow_0 : decode (zb m_Units_narrow) 0 = .ok (.iconst (-1), 1) := zdal_p dlB_Units_narrow_88 (i := 0) rfl
theorem d_Units_narrow_1 : decode (zb m_Units_narrow) 1 = .ok (.istore_n 2, 1) := zdal_p dlB_Units_narrow_88 (i := 1) rfl
theorem d_Units_narrow_2 : decode (zb m_Units_narrow) 2 = .ok (.iconst 0, 1) := zdal_p dlB_Units_narrow_88 (i := 2) rfl
theorem d_Units_narrow_3 : decode (zb m_Units_narrow) 3 = .ok (.istore_n 3, 1) := zdal_p dlB_Units_narrow_88 (i := 3) rfl
theorem d_Units_narrow_4 : decode (zb m_Units_narrow) 4 = .ok (.iload_n 3, 1) := zdal_p dlB_Units_narrow_88 (i := 4) rfl
theorem d_Units_narrow_5 : decode (zb m_Units_narrow) 5 = .ok (.aload_n 0, 1) := zdal_p dlB_Units_narrow_88 (i := 5) rfl
theorem d_Units_narrow_6 : decode (zb m_Units_narrow) 6 = .ok (.getfield 31, 3) := zdal_p dlB_Units_narrow_88 (i := 6) rfl
theorem d_Units_narrow_9 : decode (zb m_Units_narrow) 9 = .ok (.if_icmp .ge 65, 3) := zdal_p dlB_Units_narrow_88 (i := 7) rfl
theorem d_Units_narrow_12 : decode (zb m_Units_narrow) 12 = .ok (.aload_n 0, 1) := zdal_p dlB_Units_narrow_88 (i := 8) rfl
theorem d_Units_narrow_13 : decode (zb m_Units_narrow) 13 = .ok (.getfield 14, 3) := zdal_p dlB_Units_narrow_88 (i := 9) rfl
theorem d_Units_narrow_16 : decode (zb m_Units_narrow) 16 = .ok (.iload_n 3, 1) := zdal_p dlB_Units_narrow_88 (i := 10) rfl
theorem d_Units_narrow_17 : decode (zb m_Units_narrow) 17 = .ok (.invokevirtual 57, 3) := zdal_p dlB_Units_narrow_88 (i := 11) rfl
theorem d_Units_narrow_20 : decode (zb m_Units_narrow) 20 = .ok (.iload_n 1, 1) := zdal_p dlB_Units_narrow_88 (i := 12) rfl
theorem d_Units_narrow_21 : decode (zb m_Units_narrow) 21 = .ok (.iand, 1) := zdal_p dlB_Units_narrow_88 (i := 13) rfl
theorem d_Units_narrow_22 : decode (zb m_Units_narrow) 22 = .ok (.invokestatic 89, 3) := zdal_p dlB_Units_narrow_88 (i := 14) rfl
theorem d_Units_narrow_25 : decode (zb m_Units_narrow) 25 = .ok (.iconst 1, 1) := zdal_p dlB_Units_narrow_88 (i := 15) rfl
theorem d_Units_narrow_26 : decode (zb m_Units_narrow) 26 = .ok (.iand, 1) := zdal_p dlB_Units_narrow_88 (i := 16) rfl
theorem d_Units_narrow_27 : decode (zb m_Units_narrow) 27 = .ok (.ifCond .ne 6, 3) := zdal_p dlB_Units_narrow_88 (i := 17) rfl
theorem d_Units_narrow_30 : decode (zb m_Units_narrow) 30 = .ok (.goto 38, 3) := zdal_p dlB_Units_narrow_88 (i := 18) rfl
theorem d_Units_narrow_33 : decode (zb m_Units_narrow) 33 = .ok (.iload_n 2, 1) := zdal_p dlB_Units_narrow_88 (i := 19) rfl
theorem d_Units_narrow_34 : decode (zb m_Units_narrow) 34 = .ok (.iconst (-1), 1) := zdal_p dlB_Units_narrow_88 (i := 20) rfl
theorem d_Units_narrow_35 : decode (zb m_Units_narrow) 35 = .ok (.if_icmp .ne 8, 3) := zdal_p dlB_Units_narrow_88 (i := 21) rfl
theorem d_Units_narrow_38 : decode (zb m_Units_narrow) 38 = .ok (.iload_n 3, 1) := zdal_p dlB_Units_narrow_88 (i := 22) rfl
theorem d_Units_narrow_39 : decode (zb m_Units_narrow) 39 = .ok (.istore_n 2, 1) := zdal_p dlB_Units_narrow_88 (i := 23) rfl
theorem dlB_Units_narrow_89 : zdal (zb m_Units_narrow) [(40, (.goto 28, 3)), (43, (.aload_n 0, 1)), (44, (.getfield 14, 3)), (47, (.iload_n 3, 1)), (48, (.aload_n 0, 1)), (49, (.getfield 14, 3)), (52, (.iload_n 3, 1)), (53, (.invokevirtual 57, 3)), (56, (.aload_n 0, 1)), (57, (.getfield 14, 3)), (60, (.iload_n 2, 1)), (61, (.invokevirtual 57, 3)), (64, (.ixor, 1)), (65, (.invokevirtual 40, 3)), (68, (.iinc 3 1, 3)), (71, (.goto (-67), 3)), (74, (.iload_n 2, 1)), (75, (.iconst (-1), 1)), (76, (.if_icmp .eq 32, 3)), (79, (.aload_n 0, 1)), (80, (.dup, 1)), (81, (.getfield 31, 3)), (84, (.iconst 1, 1)), (85, (.isub, 1))] = true := zDs 40 (by decide +kernel)
theorem d_Units_narrow_40 : decode (zb m_Units_narrow) 40 = .ok (.goto 28, 3) := zdal_p dlB_Units_narrow_89 (i := 0) rfl
theorem d_Units_narrow_43 : decode (zb m_Units_narrow) 43 = .ok (.aload_n 0, 1) := zdal_p dlB_Units_narrow_89 (i := 1) rfl
theorem d_Units_narrow_44 : decode (zb m_Units_narrow) 44 = .ok (.getfield 14, 3) := zdal_p dlB_Units_narrow_89 (i := 2) rfl
theorem d_Units_narrow_47 : decode (zb m_Units_narrow) 47 = .ok (.iload_n 3, 1) := zdal_p dlB_Units_narrow_89 (i := 3) rfl
theorem d_Units_narrow_48 : decode (zb m_Units_narrow) 48 = .ok (.aload_n 0, 1) := zdal_p dlB_Units_narrow_89 (i := 4) rfl
theorem d_Units_narrow_49 : decode (zb m_Units_narrow) 49 = .ok (.getfield 14, 3) := zdal_p dlB_Units_narrow_89 (i := 5) rfl
theorem d_Units_narrow_52 : decode (zb m_Units_narrow) 52 = .ok (.iload_n 3, 1) := zdal_p dlB_Units_narrow_89 (i := 6) rfl
theorem d_Units_narrow_53 : decode (zb m_Units_narrow) 53 = .ok (.invokevirtual 57, 3) := zdal_p dlB_Units_narrow_89 (i := 7) rfl
theorem d_Units_narrow_56 : decode (zb m_Units_narrow) 56 = .ok (.aload_n 0, 1) := zdal_p dlB_Units_narrow_89 (i := 8) rfl
theorem d_Units_narrow_57 : decode (zb m_Units_narrow) 57 = .ok (.getfield 14, 3) := zdal_p dlB_Units_narrow_89 (i := 9) rfl
theorem d_Units_narrow_60 : decode (zb m_Units_narrow) 60 = .ok (.iload_n 2, 1) := zdal_p dlB_Units_narrow_89 (i := 10) rfl
theorem d_Units_narrow_61 : decode (zb m_Units_narrow) 61 = .ok (.invokevirtual 57, 3) := zdal_p dlB_Units_narrow_89 (i := 11) rfl
theorem d_Units_narrow_64 : decode (zb m_Units_narrow) 64 = .ok (.ixor, 1) := zdal_p dlB_Units_narrow_89 (i := 12) rfl
theorem d_Units_narrow_65 : decode (zb m_Units_narrow) 65 = .ok (.invokevirtual 40, 3) := zdal_p dlB_Units_narrow_89 (i := 13) rfl
theorem d_Units_narrow_68 : decode (zb m_Units_narrow) 68 = .ok (.iinc 3 1, 3) := zdal_p dlB_Units_narrow_89 (i := 14) rfl
theorem d_Units_narrow_71 : decode (zb m_Units_narrow) 71 = .ok (.goto (-67), 3) := zdal_p dlB_Units_narrow_89 (i := 15) rfl
theorem d_Units_narrow_74 : decode (zb m_Units_narrow) 74 = .ok (.iload_n 2, 1) := zdal_p dlB_Units_narrow_89 (i := 16) rfl
theorem d_Units_narrow_75 : decode (zb m_Units_narrow) 75 = .ok (.iconst (-1), 1) := zdal_p dlB_Units_narrow_89 (i := 17) rfl
theorem d_Units_narrow_76 : decode (zb m_Units_narrow) 76 = .ok (.if_icmp .eq 32, 3) := zdal_p dlB_Units_narrow_89 (i := 18) rfl
theorem d_Units_narrow_79 : decode (zb m_Units_narrow) 79 = .ok (.aload_n 0, 1) := zdal_p dlB_Units_narrow_89 (i := 19) rfl
theorem d_Units_narrow_80 : decode (zb m_Units_narrow) 80 = .ok (.dup, 1) := zdal_p dlB_Units_narrow_89 (i := 20) rfl
theorem d_Units_narrow_81 : decode (zb m_Units_narrow) 81 = .ok (.getfield 31, 3) := zdal_p dlB_Units_narrow_89 (i := 21) rfl
theorem d_Units_narrow_84 : decode (zb m_Units_narrow) 84 = .ok (.iconst 1, 1) := zdal_p dlB_Units_narrow_89 (i := 22) rfl
theorem d_Units_narrow_85 : decode (zb m_Units_narrow) 85 = .ok (.isub, 1) := zdal_p dlB_Units_narrow_89 (i := 23) rfl
theorem dlB_Units_narrow_90 : zdal (zb m_Units_narrow) [(86, (.putfield 31, 3)), (89, (.aload_n 0, 1)), (90, (.getfield 14, 3)), (93, (.iload_n 2, 1)), (94, (.aload_n 0, 1)), (95, (.getfield 14, 3)), (98, (.aload_n 0, 1)), (99, (.getfield 31, 3)), (102, (.invokevirtual 57, 3)), (105, (.invokevirtual 40, 3)), (108, (.return_, 1))] = true := zDs 86 (by decide +kernel)
theorem d_Units_narrow_86 : decode (zb m_Units_narrow) 86 = .ok (.putfield 31, 3) := zdal_p dlB_Units_narrow_90 (i := 0) rfl
theorem d_Units_narrow_89 : decode (zb m_Units_narrow) 89 = .ok (.aload_n 0, 1) := zdal_p dlB_Units_narrow_90 (i := 1) rfl
theorem d_Units_narrow_90 : decode (zb m_Units_narrow) 90 = .ok (.getfield 14, 3) := zdal_p dlB_Units_narrow_90 (i := 2) rfl
theorem d_Units_narrow_93 : decode (zb m_Units_narrow) 93 = .ok (.iload_n 2, 1) := zdal_p dlB_Units_narrow_90 (i := 3) rfl
theorem d_Units_narrow_94 : decode (zb m_Units_narrow) 94 = .ok (.aload_n 0, 1) := zdal_p dlB_Units_narrow_90 (i := 4) rfl
theorem d_Units_narrow_95 : decode (zb m_Units_narrow) 95 = .ok (.getfield 14, 3) := zdal_p dlB_Units_narrow_90 (i := 5) rfl
theorem d_Units_narrow_98 : decode (zb m_Units_narrow) 98 = .ok (.aload_n 0, 1) := zdal_p dlB_Units_narrow_90 (i := 6) rfl
theorem d_Units_narrow_99 : decode (zb m_Units_narrow) 99 = .ok (.getfield 31, 3) := zdal_p dlB_Units_narrow_90 (i := 7) rfl
theorem d_Units_narrow_102 : decode (zb m_Units_narrow) 102 = .ok (.invokevirtual 57, 3) := zdal_p dlB_Units_narrow_90 (i := 8) rfl
theorem d_Units_narrow_105 : decode (zb m_Units_narrow) 105 = .ok (.invokevirtual 40, 3) := zdal_p dlB_Units_narrow_90 (i := 9) rfl
theorem d_Units_narrow_108 : decode (zb m_Units_narrow) 108 = .ok (.return_, 1) := zdal_p dlB_Units_narrow_90 (i := 10) rfl
theorem dlB_Units_straighten_91 : zdal (zb m_Units_straighten) [(0, (.iconst 0, 1)), (1, (.istore_n 1, 1)), (2, (.iconst 0, 1)), (3, (.istore_n 2, 1)), (4, (.iload_n 2, 1)), (5, (.aload_n 0, 1)), (6, (.getfield 23, 3)), (9, (.getfield 35, 3)), (12, (.if_icmp .ge 155, 3)), (15, (.iload_n 1, 1)), (16, (.istore_n 3, 1)), (17, (.iload_n 3, 1)), (18, (.aload_n 0, 1)), (19, (.getfield 31, 3)), (22, (.if_icmp .ge 26, 3)), (25, (.aload_n 0, 1)), (26, (.getfield 14, 3)), (29, (.iload_n 3, 1)), (30, (.invokevirtual 57, 3)), (33, (.aload_n 0, 1)), (34, (.iload_n 2, 1)), (35, (.invokevirtual 80, 3)), (38, (.iand, 1)), (39, (.ifCond .ne 9, 3))] = true := zDs 0 (by decide +kernel)
theorem d_Units_straighten_0 : decode (zb m_Units_straighten) 0 = .ok (.iconst 0, 1) := zdal_p dlB_Units_straighten_91 (i := 0) rfl
theorem d_Units_straighten_1 : decode (zb m_Units_straighten) 1 = .ok (.istore_n 1, 1) := zdal_p dlB_Units_straighten_91 (i := 1) rfl
theorem d_Units_straighten_2 : decode (zb m_Units_straighten) 2 = .ok (.iconst 0, 1) := zdal_p dlB_Units_straighten_91 (i := 2) rfl
theorem d_Units_straighten_3 : decode (zb m_Units_straighten) 3 = .ok (.istore_n 2, 1) := zdal_p dlB_Units_straighten_91 (i := 3) rfl
theorem d_Units_straighten_4 : decode (zb m_Units_straighten) 4 = .ok (.iload_n 2, 1) := zdal_p dlB_Units_straighten_91 (i := 4) rfl
theorem d_Units_straighten_5 : decode (zb m_Units_straighten) 5 = .ok (.aload_n 0, 1) := zdal_p dlB_Units_straighten_91 (i := 5) rfl
theorem d_Units_straighten_6 : decode (zb m_Units_straighten) 6 = .ok (.getfield 23, 3) := zdal_p dlB_Units_straighten_91 (i := 6) rfl
theorem d_Units_straighten_9 : decode (zb m_Units_straighten) 9 = .ok (.getfield 35, 3) := zdal_p dlB_Units_straighten_91 (i := 7) rfl
theorem d_Units_straighten_12 : decode (zb m_Units_straighten) 12 = .ok (.if_icmp .ge 155, 3) := zdal_p dlB_Units_straighten_91 (i := 8) rfl
theorem d_Units_straighten_15 : decode (zb m_Units_straighten) 15 = .ok (.iload_n 1, 1) := zdal_p dlB_Units_straighten_91 (i := 9) rfl
theorem d_Units_straighten_16 : decode (zb m_Units_straighten) 16 = .ok (.istore_n 3, 1) := zdal_p dlB_Units_straighten_91 (i := 10) rfl
theorem d_Units_straighten_17 : decode (zb m_Units_straighten) 17 = .ok (.iload_n 3, 1) := zdal_p dlB_Units_straighten_91 (i := 11) rfl
theorem d_Units_straighten_18 : decode (zb m_Units_straighten) 18 = .ok (.aload_n 0, 1) := zdal_p dlB_Units_straighten_91 (i := 12) rfl
theorem d_Units_straighten_19 : decode (zb m_Units_straighten) 19 = .ok (.getfield 31, 3) := zdal_p dlB_Units_straighten_91 (i := 13) rfl
theorem d_Units_straighten_22 : decode (zb m_Units_straighten) 22 = .ok (.if_icmp .ge 26, 3) := zdal_p dlB_Units_straighten_91 (i := 14) rfl
theorem d_Units_straighten_25 : decode (zb m_Units_straighten) 25 = .ok (.aload_n 0, 1) := zdal_p dlB_Units_straighten_91 (i := 15) rfl
theorem d_Units_straighten_26 : decode (zb m_Units_straighten) 26 = .ok (.getfield 14, 3) := zdal_p dlB_Units_straighten_91 (i := 16) rfl
theorem d_Units_straighten_29 : decode (zb m_Units_straighten) 29 = .ok (.iload_n 3, 1) := zdal_p dlB_Units_straighten_91 (i := 17) rfl
theorem d_Units_straighten_30 : decode (zb m_Units_straighten) 30 = .ok (.invokevirtual 57, 3) := zdal_p dlB_Units_straighten_91 (i := 18) rfl
theorem d_Units_straighten_33 : decode (zb m_Units_straighten) 33 = .ok (.aload_n 0, 1) := zdal_p dlB_Units_straighten_91 (i := 19) rfl
theorem d_Units_straighten_34 : decode (zb m_Units_straighten) 34 = .ok (.iload_n 2, 1) := zdal_p dlB_Units_straighten_91 (i := 20) rfl
theorem d_Units_straighten_35 : decode (zb m_Units_straighten) 35 = .ok (.invokevirtual 80, 3) := zdal_p dlB_Units_straighten_91 (i := 21) rfl
theorem d_Units_straighten_38 : decode (zb m_Units_straighten) 38 = .ok (.iand, 1) := zdal_p dlB_Units_straighten_91 (i := 22) rfl
theorem d_Units_straighten_39 : decode (zb m_Units_straighten) 39 = .ok (.ifCond .ne 9, 3) := zdal_p dlB_Units_straighten_91 (i := 23) rfl
theorem dlB_Units_straighten_92 : zdal (zb m_Units_straighten) [(42, (.iinc 3 1, 3)), (45, (.goto (-28), 3)), (48, (.iload_n 3, 1)), (49, (.aload_n 0, 1)), (50, (.getfield 31, 3)), (53, (.if_icmp .lt 6, 3)), (56, (.goto 105, 3)), (59, (.aload_n 0, 1)), (60, (.getfield 14, 3)), (63, (.iload_n 3, 1)), (64, (.invokevirtual 57, 3)), (67, (.istore 4, 2)), (69, (.aload_n 0, 1)), (70, (.getfield 14, 3)), (73, (.iload_n 3, 1)), (74, (.aload_n 0, 1)), (75, (.getfield 14, 3)), (78, (.iload_n 1, 1)), (79, (.invokevirtual 57, 3)), (82, (.invokevirtual 40, 3)), (85, (.aload_n 0, 1)), (86, (.getfield 14, 3)), (89, (.iload_n 1, 1)), (90, (.iload 4, 2))] = true := zDs 42 (by decide +kernel)
theorem d_Units_straighten_42 : decode (zb m_Units_straighten) 42 = .ok (.iinc 3 1, 3) := zdal_p dlB_Units_straighten_92 (i := 0) rfl
theorem d_Units_straighten_45 : decode (zb m_Units_straighten) 45 = .ok (.goto (-28), 3) := zdal_p dlB_Units_straighten_92 (i := 1) rfl
theorem d_Units_straighten_48 : decode (zb m_Units_straighten) 48 = .ok (.iload_n 3, 1) := zdal_p dlB_Units_straighten_92 (i := 2) rfl
theorem d_Units_straighten_49 : decode (zb m_Units_straighten) 49 = .ok (.aload_n 0, 1) := zdal_p dlB_Units_straighten_92 (i := 3) rfl
theorem d_Units_straighten_50 : decode (zb m_Units_straighten) 50 = .ok (.getfield 31, 3) := zdal_p dlB_Units_straighten_92 (i := 4) rfl
theorem d_Units_straighten_53 : decode (zb m_Units_straighten) 53 = .ok (.if_icmp .lt 6, 3) := zdal_p dlB_Units_straighten_92 (i := 5) rfl
theorem d_Units_straighten_56 : decode (zb m_Units_straighten) 56 = .ok (.goto 105, 3) := zdal_p dlB_Units_straighten_92 (i := 6) rfl
theorem d_Units_straighten_59 : decode (zb m_Units_straighten) 59 = .ok (.aload_n 0, 1) := zdal_p dlB_Units_straighten_92 (i := 7) rfl
theorem d_Units_straighten_60 : decode (zb m_Units_straighten) 60 = .ok (.getfield 14, 3) := zdal_p dlB_Units_straighten_92 (i := 8) rfl
theorem d_Units_straighten_63 : decode (zb m_Units_straighten) 63 = .ok (.iload_n 3, 1) := zdal_p dlB_Units_straighten_92 (i := 9) rfl
theorem d_Units_straighten_64 : decode (zb m_Units_straighten) 64 = .ok (.invokevirtual 57, 3) := zdal_p dlB_Units_straighten_92 (i := 10) rfl
theorem d_Units_straighten_67 : decode (zb m_Units_straighten) 67 = .ok (.istore 4, 2) := zdal_p dlB_Units_straighten_92 (i := 11) rfl
theorem d_Units_straighten_69 : decode (zb m_Units_straighten) 69 = .ok (.aload_n 0, 1) := zdal_p dlB_Units_straighten_92 (i := 12) rfl
theorem d_Units_straighten_70 : decode (zb m_Units_straighten) 70 = .ok (.getfield 14, 3) := zdal_p dlB_Units_straighten_92 (i := 13) rfl
theorem d_Units_straighten_73 : decode (zb m_Units_straighten) 73 = .ok (.iload_n 3, 1) := zdal_p dlB_Units_straighten_92 (i := 14) rfl
theorem d_Units_straighten_74 : decode (zb m_Units_straighten) 74 = .ok (.aload_n 0, 1) := zdal_p dlB_Units_straighten_92 (i := 15) rfl
theorem d_Units_straighten_75 : decode (zb m_Units_straighten) 75 = .ok (.getfield 14, 3) := zdal_p dlB_Units_straighten_92 (i := 16) rfl
theorem d_Units_straighten_78 : decode (zb m_Units_straighten) 78 = .ok (.iload_n 1, 1) := zdal_p dlB_Units_straighten_92 (i := 17) rfl
theorem d_Units_straighten_79 : decode (zb m_Units_straighten) 79 = .ok (.invokevirtual 57, 3) := zdal_p dlB_Units_straighten_92 (i := 18) rfl
theorem d_Units_straighten_82 : decode (zb m_Units_straighten) 82 = .ok (.invokevirtual 40, 3) := zdal_p dlB_Units_straighten_92 (i := 19) rfl
theorem d_Units_straighten_85 : decode (zb m_Units_straighten) 85 = .ok (.aload_n 0, 1) := zdal_p dlB_Units_straighten_92 (i := 20) rfl
theorem d_Units_straighten_86 : decode (zb m_Units_straighten) 86 = .ok (.getfield 14, 3) := zdal_p dlB_Units_straighten_92 (i := 21) rfl
theorem d_Units_straighten_89 : decode (zb m_Units_straighten) 89 = .ok (.iload_n 1, 1) := zdal_p dlB_Units_straighten_92 (i := 22) rfl
theorem d_Units_straighten_90 : decode (zb m_Units_straighten) 90 = .ok (.iload 4, 2) := zdal_p dlB_Units_straighten_92 (i := 23) rfl
theorem dlB_Units_straighten_93 : zdal (zb m_Units_straighten) [(92, (.invokevirtual 40, 3)), (95, (.iconst 0, 1)), (96, (.istore 5, 2)), (98, (.iload 5, 2)), (100, (.aload_n 0, 1)), (101, (.getfield 31, 3)), (104, (.if_icmp .ge 54, 3)), (107, (.iload 5, 2)), (109, (.iload_n 1, 1)), (110, (.if_icmp .eq 42, 3)), (113, (.aload_n 0, 1)), (114, (.getfield 14, 3)), (117, (.iload 5, 2)), (119, (.invokevirtual 57, 3)), (122, (.aload_n 0, 1)), (123, (.iload_n 2, 1)), (124, (.invokevirtual 80, 3)), (127, (.iand, 1)), (128, (.ifCond .eq 24, 3)), (131, (.aload_n 0, 1)), (132, (.getfield 14, 3)), (135, (.iload 5, 2)), (137, (.aload_n 0, 1)), (138, (.getfield 14, 3))] = true := zDs 92 (by decide +kernel)
theorem d_Units_straighten_92 : decode (zb m_Units_straighten) 92 = .ok (.invokevirtual 40, 3) := zdal_p dlB_Units_straighten_93 (i := 0) rfl
theorem d_Units_straighten_95 : decode (zb m_Units_straighten) 95 = .ok (.iconst 0, 1) := zdal_p dlB_Units_straighten_93 (i := 1) rfl
theorem d_Units_straighten_96 : decode (zb m_Units_straighten) 96 = .ok (.istore 5, 2) := zdal_p dlB_Units_straighten_93 (i := 2) rfl
theorem d_Units_straighten_98 : decode (zb m_Units_straighten) 98 = .ok (.iload 5, 2) := zdal_p dlB_Units_straighten_93 (i := 3) rfl
theorem d_Units_straighten_100 : decode (zb m_Units_straighten) 100 = .ok (.aload_n 0, 1) := zdal_p dlB_Units_straighten_93 (i := 4) rfl
theorem d_Units_straighten_101 : decode (zb m_Units_straighten) 101 = .ok (.getfield 31, 3) := zdal_p dlB_Units_straighten_93 (i := 5) rfl
theorem d_Units_straighten_104 : decode (zb m_Units_straighten) 104 = .ok (.if_icmp .ge 54, 3) := zdal_p dlB_Units_straighten_93 (i := 6) rfl
theorem d_Units_straighten_107 : decode (zb m_Units_straighten) 107 = .ok (.iload 5, 2) := zdal_p dlB_Units_straighten_93 (i := 7) rfl
theorem d_Units_straighten_109 : decode (zb m_Units_straighten) 109 = .ok (.iload_n 1, 1) := zdal_p dlB_Units_straighten_93 (i := 8) rfl
theorem d_Units_straighten_110 : decode (zb m_Units_straighten) 110 = .ok (.if_icmp .eq 42, 3) := zdal_p dlB_Units_straighten_93 (i := 9) rfl
theorem d_Units_straighten_113 : decode (zb m_Units_straighten) 113 = .ok (.aload_n 0, 1) := zdal_p dlB_Units_straighten_93 (i := 10) rfl
theorem d_Units_straighten_114 : decode (zb m_Units_straighten) 114 = .ok (.getfield 14, 3) := zdal_p dlB_Units_straighten_93 (i := 11) rfl
theorem d_Units_straighten_117 : decode (zb m_Units_straighten) 117 = .ok (.iload 5, 2) := zdal_p dlB_Units_straighten_93 (i := 12) rfl
theorem d_Units_straighten_119 : decode (zb m_Units_straighten) 119 = .ok (.invokevirtual 57, 3) := zdal_p dlB_Units_straighten_93 (i := 13) rfl
theorem d_Units_straighten_122 : decode (zb m_Units_straighten) 122 = .ok (.aload_n 0, 1) := zdal_p dlB_Units_straighten_93 (i := 14) rfl
theorem d_Units_straighten_123 : decode (zb m_Units_straighten) 123 = .ok (.iload_n 2, 1) := zdal_p dlB_Units_straighten_93 (i := 15) rfl
theorem d_Units_straighten_124 : decode (zb m_Units_straighten) 124 = .ok (.invokevirtual 80, 3) := zdal_p dlB_Units_straighten_93 (i := 16) rfl
theorem d_Units_straighten_127 : decode (zb m_Units_straighten) 127 = .ok (.iand, 1) := zdal_p dlB_Units_straighten_93 (i := 17) rfl
theorem d_Units_straighten_128 : decode (zb m_Units_straighten) 128 = .ok (.ifCond .eq 24, 3) := zdal_p dlB_Units_straighten_93 (i := 18) rfl
theorem d_Units_straighten_131 : decode (zb m_Units_straighten) 131 = .ok (.aload_n 0, 1) := zdal_p dlB_Units_straighten_93 (i := 19) rfl
theorem d_Units_straighten_132 : decode (zb m_Units_straighten) 132 = .ok (.getfield 14, 3) := zdal_p dlB_Units_straighten_93 (i := 20) rfl
theorem d_Units_straighten_135 : decode (zb m_Units_straighten) 135 = .ok (.iload 5, 2) := zdal_p dlB_Units_straighten_93 (i := 21) rfl
theorem d_Units_straighten_137 : decode (zb m_Units_straighten) 137 = .ok (.aload_n 0, 1) := zdal_p dlB_Units_straighten_93 (i := 22) rfl
theorem d_Units_straighten_138 : decode (zb m_Units_straighten) 138 = .ok (.getfield 14, 3) := zdal_p dlB_Units_straighten_93 (i := 23) rfl
theorem dlB_Units_straighten_94 : zdal (zb m_Units_straighten) [(141, (.iload 5, 2)), (143, (.invokevirtual 57, 3)), (146, (.iload 4, 2)), (148, (.ixor, 1)), (149, (.invokevirtual 40, 3)), (152, (.iinc 5 1, 3)), (155, (.goto (-57), 3)), (158, (.iinc 1 1, 3)), (161, (.iinc 2 1, 3)), (164, (.goto (-160), 3)), (167, (.return_, 1))] = true := zDs 141 (by decide +kernel)
theorem d_Units_straighten_141 : decode (zb m_Units_straighten) 141 = .ok (.iload 5, 2) := zdal_p dlB_Units_straighten_94 (i := 0) rfl
theorem d_Units_straighten_143 : decode (zb m_Units_straighten) 143 = .ok (.invokevirtual 57, 3) := zdal_p dlB_Units_straighten_94 (i := 1) rfl
theorem d_Units_straighten_146 : decode (zb m_Units_straighten) 146 = .ok (.iload 4, 2) := zdal_p dlB_Units_straighten_94 (i := 2) rfl
theorem d_Units_straighten_148 : decode (zb m_Units_straighten) 148 = .ok (.ixor, 1) := zdal_p dlB_Units_straighten_94 (i := 3) rfl
theorem d_Units_straighten_149 : decode (zb m_Units_straighten) 149 = .ok (.invokevirtual 40, 3) := zdal_p dlB_Units_straighten_94 (i := 4) rfl
theorem d_Units_straighten_152 : decode (zb m_Units_straighten) 152 = .ok (.iinc 5 1, 3) := zdal_p dlB_Units_straighten_94 (i := 5) rfl
theorem d_Units_straighten_155 : decode (zb m_Units_straighten) 155 = .ok (.goto (-57), 3) := zdal_p dlB_Units_straighten_94 (i := 6) rfl
theorem d_Units_straighten_158 : decode (zb m_Units_straighten) 158 = .ok (.iinc 1 1, 3) := zdal_p dlB_Units_straighten_94 (i := 7) rfl
theorem d_Units_straighten_161 : decode (zb m_Units_straighten) 161 = .ok (.iinc 2 1, 3) := zdal_p dlB_Units_straighten_94 (i := 8) rfl
theorem d_Units_straighten_164 : decode (zb m_Units_straighten) 164 = .ok (.goto (-160), 3) := zdal_p dlB_Units_straighten_94 (i := 9) rfl
theorem d_Units_straighten_167 : decode (zb m_Units_straighten) 167 = .ok (.return_, 1) := zdal_p dlB_Units_straighten_94 (i := 10) rfl
theorem dlB_Units_total_95 : zdal (zb m_Units_total) [(0, (.iconst 1, 1)), (1, (.aload_n 0, 1)), (2, (.getfield 31, 3)), (5, (.ishl, 1)), (6, (.ireturn, 1))] = true := zDs 0 (by decide +kernel)
theorem d_Units_total_0 : decode (zb m_Units_total) 0 = .ok (.iconst 1, 1) := zdal_p dlB_Units_total_95 (i := 0) rfl
theorem d_Units_total_1 : decode (zb m_Units_total) 1 = .ok (.aload_n 0, 1) := zdal_p dlB_Units_total_95 (i := 1) rfl
theorem d_Units_total_2 : decode (zb m_Units_total) 2 = .ok (.getfield 31, 3) := zdal_p dlB_Units_total_95 (i := 2) rfl
theorem d_Units_total_5 : decode (zb m_Units_total) 5 = .ok (.ishl, 1) := zdal_p dlB_Units_total_95 (i := 3) rfl
theorem d_Units_total_6 : decode (zb m_Units_total) 6 = .ok (.ireturn, 1) := zdal_p dlB_Units_total_95 (i := 4) rfl
theorem dlB_T_unit_96 : zdal (zb m_T_unit) [(0, (.aload_n 0, 1)), (1, (.getfield 28, 3)), (4, (.getfield 227, 3)), (7, (.invokevirtual 231, 3)), (10, (.iload_n 1, 1)), (11, (.ifCond .lt 31, 3)), (14, (.iload_n 1, 1)), (15, (.aload_n 0, 1)), (16, (.getfield 28, 3)), (19, (.getfield 227, 3)), (22, (.invokevirtual 236, 3)), (25, (.if_icmp .ge 17, 3)), (28, (.aload_n 0, 1)), (29, (.getfield 28, 3)), (32, (.getfield 85, 3)), (35, (.iload_n 2, 1)), (36, (.invokevirtual 143, 3)), (39, (.ifCond .ne 6, 3)), (42, (.ldc 204, 2)), (44, (.ireturn, 1)), (45, (.aload_n 0, 1)), (46, (.getfield 28, 3)), (49, (.getfield 169, 3)), (52, (.aload_n 0, 1))] = true := zDs 0 (by decide +kernel)
theorem d_T_unit_0 : decode (zb m_T_unit) 0 = .ok (.aload_n 0, 1) := zdal_p dlB_T_unit_96 (i := 0) rfl
theorem d_T_unit_1 : decode (zb m_T_unit) 1 = .ok (.getfield 28, 3) := zdal_p dlB_T_unit_96 (i := 1) rfl
theorem d_T_unit_4 : decode (zb m_T_unit) 4 = .ok (.getfield 227, 3) := zdal_p dlB_T_unit_96 (i := 2) rfl
theorem d_T_unit_7 : decode (zb m_T_unit) 7 = .ok (.invokevirtual 231, 3) := zdal_p dlB_T_unit_96 (i := 3) rfl
theorem d_T_unit_10 : decode (zb m_T_unit) 10 = .ok (.iload_n 1, 1) := zdal_p dlB_T_unit_96 (i := 4) rfl
theorem d_T_unit_11 : decode (zb m_T_unit) 11 = .ok (.ifCond .lt 31, 3) := zdal_p dlB_T_unit_96 (i := 5) rfl
theorem d_T_unit_14 : decode (zb m_T_unit) 14 = .ok (.iload_n 1, 1) := zdal_p dlB_T_unit_96 (i := 6) rfl
theorem d_T_unit_15 : decode (zb m_T_unit) 15 = .ok (.aload_n 0, 1) := zdal_p dlB_T_unit_96 (i := 7) rfl
theorem d_T_unit_16 : decode (zb m_T_unit) 16 = .ok (.getfield 28, 3) := zdal_p dlB_T_unit_96 (i := 8) rfl
theorem d_T_unit_19 : decode (zb m_T_unit) 19 = .ok (.getfield 227, 3) := zdal_p dlB_T_unit_96 (i := 9) rfl
theorem d_T_unit_22 : decode (zb m_T_unit) 22 = .ok (.invokevirtual 236, 3) := zdal_p dlB_T_unit_96 (i := 10) rfl
theorem d_T_unit_25 : decode (zb m_T_unit) 25 = .ok (.if_icmp .ge 17, 3) := zdal_p dlB_T_unit_96 (i := 11) rfl
theorem d_T_unit_28 : decode (zb m_T_unit) 28 = .ok (.aload_n 0, 1) := zdal_p dlB_T_unit_96 (i := 12) rfl
theorem d_T_unit_29 : decode (zb m_T_unit) 29 = .ok (.getfield 28, 3) := zdal_p dlB_T_unit_96 (i := 13) rfl
theorem d_T_unit_32 : decode (zb m_T_unit) 32 = .ok (.getfield 85, 3) := zdal_p dlB_T_unit_96 (i := 14) rfl
theorem d_T_unit_35 : decode (zb m_T_unit) 35 = .ok (.iload_n 2, 1) := zdal_p dlB_T_unit_96 (i := 15) rfl
theorem d_T_unit_36 : decode (zb m_T_unit) 36 = .ok (.invokevirtual 143, 3) := zdal_p dlB_T_unit_96 (i := 16) rfl
theorem d_T_unit_39 : decode (zb m_T_unit) 39 = .ok (.ifCond .ne 6, 3) := zdal_p dlB_T_unit_96 (i := 17) rfl
theorem d_T_unit_42 : decode (zb m_T_unit) 42 = .ok (.ldc 204, 2) := zdal_p dlB_T_unit_96 (i := 18) rfl
theorem d_T_unit_44 : decode (zb m_T_unit) 44 = .ok (.ireturn, 1) := zdal_p dlB_T_unit_96 (i := 19) rfl
theorem d_T_unit_45 : decode (zb m_T_unit) 45 = .ok (.aload_n 0, 1) := zdal_p dlB_T_unit_96 (i := 20) rfl
theorem d_T_unit_46 : decode (zb m_T_unit) 46 = .ok (.getfield 28, 3) := zdal_p dlB_T_unit_96 (i := 21) rfl
theorem d_T_unit_49 : decode (zb m_T_unit) 49 = .ok (.getfield 169, 3) := zdal_p dlB_T_unit_96 (i := 22) rfl
theorem d_T_unit_52 : decode (zb m_T_unit) 52 = .ok (.aload_n 0, 1) := zdal_p dlB_T_unit_96 (i := 23) rfl
theorem dlB_T_unit_97 : zdal (zb m_T_unit) [(53, (.getfield 28, 3)), (56, (.getfield 227, 3)), (59, (.iload_n 1, 1)), (60, (.invokevirtual 239, 3)), (63, (.invokevirtual 242, 3)), (66, (.aload_n 0, 1)), (67, (.getfield 28, 3)), (70, (.getfield 169, 3)), (73, (.bipush 39, 2)), (75, (.iload_n 2, 1)), (76, (.invokevirtual 179, 3)), (79, (.l2i, 1)), (80, (.ireturn, 1))] = true := zDs 53 (by decide +kernel)
theorem d_T_unit_53 : decode (zb m_T_unit) 53 = .ok (.getfield 28, 3) := zdal_p dlB_T_unit_97 (i := 0) rfl
theorem d_T_unit_56 : decode (zb m_T_unit) 56 = .ok (.getfield 227, 3) := zdal_p dlB_T_unit_97 (i := 1) rfl
theorem d_T_unit_59 : decode (zb m_T_unit) 59 = .ok (.iload_n 1, 1) := zdal_p dlB_T_unit_97 (i := 2) rfl
theorem d_T_unit_60 : decode (zb m_T_unit) 60 = .ok (.invokevirtual 239, 3) := zdal_p dlB_T_unit_97 (i := 3) rfl
theorem d_T_unit_63 : decode (zb m_T_unit) 63 = .ok (.invokevirtual 242, 3) := zdal_p dlB_T_unit_97 (i := 4) rfl
theorem d_T_unit_66 : decode (zb m_T_unit) 66 = .ok (.aload_n 0, 1) := zdal_p dlB_T_unit_97 (i := 5) rfl
theorem d_T_unit_67 : decode (zb m_T_unit) 67 = .ok (.getfield 28, 3) := zdal_p dlB_T_unit_97 (i := 6) rfl
theorem d_T_unit_70 : decode (zb m_T_unit) 70 = .ok (.getfield 169, 3) := zdal_p dlB_T_unit_97 (i := 7) rfl
theorem d_T_unit_73 : decode (zb m_T_unit) 73 = .ok (.bipush 39, 2) := zdal_p dlB_T_unit_97 (i := 8) rfl
theorem d_T_unit_75 : decode (zb m_T_unit) 75 = .ok (.iload_n 2, 1) := zdal_p dlB_T_unit_97 (i := 9) rfl
theorem d_T_unit_76 : decode (zb m_T_unit) 76 = .ok (.invokevirtual 179, 3) := zdal_p dlB_T_unit_97 (i := 10) rfl
theorem d_T_unit_79 : decode (zb m_T_unit) 79 = .ok (.l2i, 1) := zdal_p dlB_T_unit_97 (i := 11) rfl
theorem d_T_unit_80 : decode (zb m_T_unit) 80 = .ok (.ireturn, 1) := zdal_p dlB_T_unit_97 (i := 12) rfl
theorem dlB_Units_signsOf_98 : zdal (zb m_Units_signsOf) [(0, (.iconst 0, 1)), (1, (.istore_n 2, 1)), (2, (.iconst 0, 1)), (3, (.istore_n 3, 1)), (4, (.iload_n 3, 1)), (5, (.aload_n 0, 1)), (6, (.getfield 31, 3)), (9, (.if_icmp .ge 35, 3)), (12, (.iload_n 1, 1)), (13, (.aload_n 0, 1)), (14, (.getfield 31, 3)), (17, (.iconst 1, 1)), (18, (.isub, 1)), (19, (.iload_n 3, 1)), (20, (.isub, 1)), (21, (.invokestatic 69, 3)), (24, (.ifCond .eq 14, 3)), (27, (.iload_n 2, 1)), (28, (.aload_n 0, 1)), (29, (.getfield 14, 3)), (32, (.iload_n 3, 1)), (33, (.invokevirtual 57, 3)), (36, (.ixor, 1)), (37, (.istore_n 2, 1))] = true := zDs 0 (by decide +kernel)
theorem d_Units_signsOf_0 : decode (zb m_Units_signsOf) 0 = .ok (.iconst 0, 1) := zdal_p dlB_Units_signsOf_98 (i := 0) rfl
theorem d_Units_signsOf_1 : decode (zb m_Units_signsOf) 1 = .ok (.istore_n 2, 1) := zdal_p dlB_Units_signsOf_98 (i := 1) rfl
theorem d_Units_signsOf_2 : decode (zb m_Units_signsOf) 2 = .ok (.iconst 0, 1) := zdal_p dlB_Units_signsOf_98 (i := 2) rfl
theorem d_Units_signsOf_3 : decode (zb m_Units_signsOf) 3 = .ok (.istore_n 3, 1) := zdal_p dlB_Units_signsOf_98 (i := 3) rfl
theorem d_Units_signsOf_4 : decode (zb m_Units_signsOf) 4 = .ok (.iload_n 3, 1) := zdal_p dlB_Units_signsOf_98 (i := 4) rfl
theorem d_Units_signsOf_5 : decode (zb m_Units_signsOf) 5 = .ok (.aload_n 0, 1) := zdal_p dlB_Units_signsOf_98 (i := 5) rfl
theorem d_Units_signsOf_6 : decode (zb m_Units_signsOf) 6 = .ok (.getfield 31, 3) := zdal_p dlB_Units_signsOf_98 (i := 6) rfl
theorem d_Units_signsOf_9 : decode (zb m_Units_signsOf) 9 = .ok (.if_icmp .ge 35, 3) := zdal_p dlB_Units_signsOf_98 (i := 7) rfl
theorem d_Units_signsOf_12 : decode (zb m_Units_signsOf) 12 = .ok (.iload_n 1, 1) := zdal_p dlB_Units_signsOf_98 (i := 8) rfl
theorem d_Units_signsOf_13 : decode (zb m_Units_signsOf) 13 = .ok (.aload_n 0, 1) := zdal_p dlB_Units_signsOf_98 (i := 9) rfl
theorem d_Units_signsOf_14 : decode (zb m_Units_signsOf) 14 = .ok (.getfield 31, 3) := zdal_p dlB_Units_signsOf_98 (i := 10) rfl
theorem d_Units_signsOf_17 : decode (zb m_Units_signsOf) 17 = .ok (.iconst 1, 1) := zdal_p dlB_Units_signsOf_98 (i := 11) rfl
theorem d_Units_signsOf_18 : decode (zb m_Units_signsOf) 18 = .ok (.isub, 1) := zdal_p dlB_Units_signsOf_98 (i := 12) rfl
theorem d_Units_signsOf_19 : decode (zb m_Units_signsOf) 19 = .ok (.iload_n 3, 1) := zdal_p dlB_Units_signsOf_98 (i := 13) rfl
theorem d_Units_signsOf_20 : decode (zb m_Units_signsOf) 20 = .ok (.isub, 1) := zdal_p dlB_Units_signsOf_98 (i := 14) rfl
theorem d_Units_signsOf_21 : decode (zb m_Units_signsOf) 21 = .ok (.invokestatic 69, 3) := zdal_p dlB_Units_signsOf_98 (i := 15) rfl
theorem d_Units_signsOf_24 : decode (zb m_Units_signsOf) 24 = .ok (.ifCond .eq 14, 3) := zdal_p dlB_Units_signsOf_98 (i := 16) rfl
theorem d_Units_signsOf_27 : decode (zb m_Units_signsOf) 27 = .ok (.iload_n 2, 1) := zdal_p dlB_Units_signsOf_98 (i := 17) rfl
theorem d_Units_signsOf_28 : decode (zb m_Units_signsOf) 28 = .ok (.aload_n 0, 1) := zdal_p dlB_Units_signsOf_98 (i := 18) rfl
theorem d_Units_signsOf_29 : decode (zb m_Units_signsOf) 29 = .ok (.getfield 14, 3) := zdal_p dlB_Units_signsOf_98 (i := 19) rfl
theorem d_Units_signsOf_32 : decode (zb m_Units_signsOf) 32 = .ok (.iload_n 3, 1) := zdal_p dlB_Units_signsOf_98 (i := 20) rfl
theorem d_Units_signsOf_33 : decode (zb m_Units_signsOf) 33 = .ok (.invokevirtual 57, 3) := zdal_p dlB_Units_signsOf_98 (i := 21) rfl
theorem d_Units_signsOf_36 : decode (zb m_Units_signsOf) 36 = .ok (.ixor, 1) := zdal_p dlB_Units_signsOf_98 (i := 22) rfl
theorem d_Units_signsOf_37 : decode (zb m_Units_signsOf) 37 = .ok (.istore_n 2, 1) := zdal_p dlB_Units_signsOf_98 (i := 23) rfl
theorem dlB_Units_signsOf_99 : zdal (zb m_Units_signsOf) [(38, (.iinc 3 1, 3)), (41, (.goto (-37), 3)), (44, (.iconst 0, 1)), (45, (.istore_n 3, 1)), (46, (.iconst 0, 1)), (47, (.istore 4, 2)), (49, (.iload 4, 2)), (51, (.aload_n 0, 1)), (52, (.getfield 23, 3)), (55, (.getfield 35, 3)), (58, (.if_icmp .ge 27, 3)), (61, (.iload_n 2, 1)), (62, (.aload_n 0, 1)), (63, (.iload 4, 2)), (65, (.invokevirtual 80, 3)), (68, (.iand, 1)), (69, (.ifCond .eq 10, 3)), (72, (.iload_n 3, 1)), (73, (.iconst 1, 1)), (74, (.iload 4, 2)), (76, (.ishl, 1)), (77, (.ior, 1)), (78, (.istore_n 3, 1)), (79, (.iinc 4 1, 3))] = true := zDs 38 (by decide +kernel)
theorem d_Units_signsOf_38 : decode (zb m_Units_signsOf) 38 = .ok (.iinc 3 1, 3) := zdal_p dlB_Units_signsOf_99 (i := 0) rfl
theorem d_Units_signsOf_41 : decode (zb m_Units_signsOf) 41 = .ok (.goto (-37), 3) := zdal_p dlB_Units_signsOf_99 (i := 1) rfl
theorem d_Units_signsOf_44 : decode (zb m_Units_signsOf) 44 = .ok (.iconst 0, 1) := zdal_p dlB_Units_signsOf_99 (i := 2) rfl
theorem d_Units_signsOf_45 : decode (zb m_Units_signsOf) 45 = .ok (.istore_n 3, 1) := zdal_p dlB_Units_signsOf_99 (i := 3) rfl
theorem d_Units_signsOf_46 : decode (zb m_Units_signsOf) 46 = .ok (.iconst 0, 1) := zdal_p dlB_Units_signsOf_99 (i := 4) rfl
theorem d_Units_signsOf_47 : decode (zb m_Units_signsOf) 47 = .ok (.istore 4, 2) := zdal_p dlB_Units_signsOf_99 (i := 5) rfl
theorem d_Units_signsOf_49 : decode (zb m_Units_signsOf) 49 = .ok (.iload 4, 2) := zdal_p dlB_Units_signsOf_99 (i := 6) rfl
theorem d_Units_signsOf_51 : decode (zb m_Units_signsOf) 51 = .ok (.aload_n 0, 1) := zdal_p dlB_Units_signsOf_99 (i := 7) rfl
theorem d_Units_signsOf_52 : decode (zb m_Units_signsOf) 52 = .ok (.getfield 23, 3) := zdal_p dlB_Units_signsOf_99 (i := 8) rfl
theorem d_Units_signsOf_55 : decode (zb m_Units_signsOf) 55 = .ok (.getfield 35, 3) := zdal_p dlB_Units_signsOf_99 (i := 9) rfl
theorem d_Units_signsOf_58 : decode (zb m_Units_signsOf) 58 = .ok (.if_icmp .ge 27, 3) := zdal_p dlB_Units_signsOf_99 (i := 10) rfl
theorem d_Units_signsOf_61 : decode (zb m_Units_signsOf) 61 = .ok (.iload_n 2, 1) := zdal_p dlB_Units_signsOf_99 (i := 11) rfl
theorem d_Units_signsOf_62 : decode (zb m_Units_signsOf) 62 = .ok (.aload_n 0, 1) := zdal_p dlB_Units_signsOf_99 (i := 12) rfl
theorem d_Units_signsOf_63 : decode (zb m_Units_signsOf) 63 = .ok (.iload 4, 2) := zdal_p dlB_Units_signsOf_99 (i := 13) rfl
theorem d_Units_signsOf_65 : decode (zb m_Units_signsOf) 65 = .ok (.invokevirtual 80, 3) := zdal_p dlB_Units_signsOf_99 (i := 14) rfl
theorem d_Units_signsOf_68 : decode (zb m_Units_signsOf) 68 = .ok (.iand, 1) := zdal_p dlB_Units_signsOf_99 (i := 15) rfl
theorem d_Units_signsOf_69 : decode (zb m_Units_signsOf) 69 = .ok (.ifCond .eq 10, 3) := zdal_p dlB_Units_signsOf_99 (i := 16) rfl
theorem d_Units_signsOf_72 : decode (zb m_Units_signsOf) 72 = .ok (.iload_n 3, 1) := zdal_p dlB_Units_signsOf_99 (i := 17) rfl
theorem d_Units_signsOf_73 : decode (zb m_Units_signsOf) 73 = .ok (.iconst 1, 1) := zdal_p dlB_Units_signsOf_99 (i := 18) rfl
theorem d_Units_signsOf_74 : decode (zb m_Units_signsOf) 74 = .ok (.iload 4, 2) := zdal_p dlB_Units_signsOf_99 (i := 19) rfl
theorem d_Units_signsOf_76 : decode (zb m_Units_signsOf) 76 = .ok (.ishl, 1) := zdal_p dlB_Units_signsOf_99 (i := 20) rfl
theorem d_Units_signsOf_77 : decode (zb m_Units_signsOf) 77 = .ok (.ior, 1) := zdal_p dlB_Units_signsOf_99 (i := 21) rfl
theorem d_Units_signsOf_78 : decode (zb m_Units_signsOf) 78 = .ok (.istore_n 3, 1) := zdal_p dlB_Units_signsOf_99 (i := 22) rfl
theorem d_Units_signsOf_79 : decode (zb m_Units_signsOf) 79 = .ok (.iinc 4 1, 3) := zdal_p dlB_Units_signsOf_99 (i := 23) rfl
theorem dlB_Units_signsOf_100 : zdal (zb m_Units_signsOf) [(82, (.goto (-33), 3)), (85, (.iload_n 3, 1)), (86, (.ireturn, 1))] = true := zDs 82 (by decide +kernel)
theorem d_Units_signsOf_82 : decode (zb m_Units_signsOf) 82 = .ok (.goto (-33), 3) := zdal_p dlB_Units_signsOf_100 (i := 0) rfl
theorem d_Units_signsOf_85 : decode (zb m_Units_signsOf) 85 = .ok (.iload_n 3, 1) := zdal_p dlB_Units_signsOf_100 (i := 1) rfl
theorem d_Units_signsOf_86 : decode (zb m_Units_signsOf) 86 = .ok (.ireturn, 1) := zdal_p dlB_Units_signsOf_100 (i := 2) rfl
theorem dlB_Sums_putSigns_101 : zdal (zb m_Sums_putSigns) [(0, (.iconst 0, 1)), (1, (.istore_n 2, 1)), (2, (.iload_n 2, 1)), (3, (.aload_n 0, 1)), (4, (.getfield 23, 3)), (7, (.getfield 35, 3)), (10, (.if_icmp .ge 32, 3)), (13, (.aload_n 0, 1)), (14, (.getfield 20, 3)), (17, (.iload_n 2, 1)), (18, (.iload_n 1, 1)), (19, (.iload_n 2, 1)), (20, (.invokestatic 61, 3)), (23, (.ifCond .eq 9, 3)), (26, (.ldc2_w 65, 3)), (29, (.goto 4, 3)), (32, (.lconst 1, 1)), (33, (.invokevirtual 31, 3)), (36, (.iinc 2 1, 3)), (39, (.goto (-37), 3)), (42, (.aload_n 0, 1)), (43, (.bipush 39, 2)), (45, (.invokevirtual 58, 3)), (48, (.return_, 1))] = true := zDs 0 (by decide +kernel)
theorem d_Sums_putSigns_0 : decode (zb m_Sums_putSigns) 0 = .ok (.iconst 0, 1) := zdal_p dlB_Sums_putSigns_101 (i := 0) rfl
theorem d_Sums_putSigns_1 : decode (zb m_Sums_putSigns) 1 = .ok (.istore_n 2, 1) := zdal_p dlB_Sums_putSigns_101 (i := 1) rfl
theorem d_Sums_putSigns_2 : decode (zb m_Sums_putSigns) 2 = .ok (.iload_n 2, 1) := zdal_p dlB_Sums_putSigns_101 (i := 2) rfl
theorem d_Sums_putSigns_3 : decode (zb m_Sums_putSigns) 3 = .ok (.aload_n 0, 1) := zdal_p dlB_Sums_putSigns_101 (i := 3) rfl
theorem d_Sums_putSigns_4 : decode (zb m_Sums_putSigns) 4 = .ok (.getfield 23, 3) := zdal_p dlB_Sums_putSigns_101 (i := 4) rfl
theorem d_Sums_putSigns_7 : decode (zb m_Sums_putSigns) 7 = .ok (.getfield 35, 3) := zdal_p dlB_Sums_putSigns_101 (i := 5) rfl
theorem d_Sums_putSigns_10 : decode (zb m_Sums_putSigns) 10 = .ok (.if_icmp .ge 32, 3) := zdal_p dlB_Sums_putSigns_101 (i := 6) rfl
theorem d_Sums_putSigns_13 : decode (zb m_Sums_putSigns) 13 = .ok (.aload_n 0, 1) := zdal_p dlB_Sums_putSigns_101 (i := 7) rfl
theorem d_Sums_putSigns_14 : decode (zb m_Sums_putSigns) 14 = .ok (.getfield 20, 3) := zdal_p dlB_Sums_putSigns_101 (i := 8) rfl
theorem d_Sums_putSigns_17 : decode (zb m_Sums_putSigns) 17 = .ok (.iload_n 2, 1) := zdal_p dlB_Sums_putSigns_101 (i := 9) rfl
theorem d_Sums_putSigns_18 : decode (zb m_Sums_putSigns) 18 = .ok (.iload_n 1, 1) := zdal_p dlB_Sums_putSigns_101 (i := 10) rfl
theorem d_Sums_putSigns_19 : decode (zb m_Sums_putSigns) 19 = .ok (.iload_n 2, 1) := zdal_p dlB_Sums_putSigns_101 (i := 11) rfl
theorem d_Sums_putSigns_20 : decode (zb m_Sums_putSigns) 20 = .ok (.invokestatic 61, 3) := zdal_p dlB_Sums_putSigns_101 (i := 12) rfl
theorem d_Sums_putSigns_23 : decode (zb m_Sums_putSigns) 23 = .ok (.ifCond .eq 9, 3) := zdal_p dlB_Sums_putSigns_101 (i := 13) rfl
theorem d_Sums_putSigns_26 : decode (zb m_Sums_putSigns) 26 = .ok (.ldc2_w 65, 3) := zdal_p dlB_Sums_putSigns_101 (i := 14) rfl
theorem d_Sums_putSigns_29 : decode (zb m_Sums_putSigns) 29 = .ok (.goto 4, 3) := zdal_p dlB_Sums_putSigns_101 (i := 15) rfl
theorem d_Sums_putSigns_32 : decode (zb m_Sums_putSigns) 32 = .ok (.lconst 1, 1) := zdal_p dlB_Sums_putSigns_101 (i := 16) rfl
theorem d_Sums_putSigns_33 : decode (zb m_Sums_putSigns) 33 = .ok (.invokevirtual 31, 3) := zdal_p dlB_Sums_putSigns_101 (i := 17) rfl
theorem d_Sums_putSigns_36 : decode (zb m_Sums_putSigns) 36 = .ok (.iinc 2 1, 3) := zdal_p dlB_Sums_putSigns_101 (i := 18) rfl
theorem d_Sums_putSigns_39 : decode (zb m_Sums_putSigns) 39 = .ok (.goto (-37), 3) := zdal_p dlB_Sums_putSigns_101 (i := 19) rfl
theorem d_Sums_putSigns_42 : decode (zb m_Sums_putSigns) 42 = .ok (.aload_n 0, 1) := zdal_p dlB_Sums_putSigns_101 (i := 20) rfl
theorem d_Sums_putSigns_43 : decode (zb m_Sums_putSigns) 43 = .ok (.bipush 39, 2) := zdal_p dlB_Sums_putSigns_101 (i := 21) rfl
theorem d_Sums_putSigns_45 : decode (zb m_Sums_putSigns) 45 = .ok (.invokevirtual 58, 3) := zdal_p dlB_Sums_putSigns_101 (i := 22) rfl
theorem d_Sums_putSigns_48 : decode (zb m_Sums_putSigns) 48 = .ok (.return_, 1) := zdal_p dlB_Sums_putSigns_101 (i := 23) rfl
theorem dlB_T_named_102 : zdal (zb m_T_named) [(0, (.aload_n 0, 1)), (1, (.getfield 28, 3)), (4, (.iload_n 1, 1)), (5, (.invokevirtual 245, 3)), (8, (.ifCond .eq 34, 3)), (11, (.aload_n 0, 1)), (12, (.getfield 28, 3)), (15, (.getfield 85, 3)), (18, (.iload_n 2, 1)), (19, (.invokevirtual 143, 3)), (22, (.ifCond .eq 20, 3)), (25, (.aload_n 0, 1)), (26, (.getfield 28, 3)), (29, (.getfield 169, 3)), (32, (.iconst 1, 1)), (33, (.iload_n 1, 1)), (34, (.iadd, 1)), (35, (.iload_n 2, 1)), (36, (.invokevirtual 179, 3)), (39, (.goto 6, 3)), (42, (.ldc2_w 248, 3)), (45, (.lreturn, 1))] = true := zDs 0 (by decide +kernel)
theorem d_T_named_0 : decode (zb m_T_named) 0 = .ok (.aload_n 0, 1) := zdal_p dlB_T_named_102 (i := 0) rfl
theorem d_T_named_1 : decode (zb m_T_named) 1 = .ok (.getfield 28, 3) := zdal_p dlB_T_named_102 (i := 1) rfl
theorem d_T_named_4 : decode (zb m_T_named) 4 = .ok (.iload_n 1, 1) := zdal_p dlB_T_named_102 (i := 2) rfl
theorem d_T_named_5 : decode (zb m_T_named) 5 = .ok (.invokevirtual 245, 3) := zdal_p dlB_T_named_102 (i := 3) rfl
theorem d_T_named_8 : decode (zb m_T_named) 8 = .ok (.ifCond .eq 34, 3) := zdal_p dlB_T_named_102 (i := 4) rfl
theorem d_T_named_11 : decode (zb m_T_named) 11 = .ok (.aload_n 0, 1) := zdal_p dlB_T_named_102 (i := 5) rfl
theorem d_T_named_12 : decode (zb m_T_named) 12 = .ok (.getfield 28, 3) := zdal_p dlB_T_named_102 (i := 6) rfl
theorem d_T_named_15 : decode (zb m_T_named) 15 = .ok (.getfield 85, 3) := zdal_p dlB_T_named_102 (i := 7) rfl
theorem d_T_named_18 : decode (zb m_T_named) 18 = .ok (.iload_n 2, 1) := zdal_p dlB_T_named_102 (i := 8) rfl
theorem d_T_named_19 : decode (zb m_T_named) 19 = .ok (.invokevirtual 143, 3) := zdal_p dlB_T_named_102 (i := 9) rfl
theorem d_T_named_22 : decode (zb m_T_named) 22 = .ok (.ifCond .eq 20, 3) := zdal_p dlB_T_named_102 (i := 10) rfl
theorem d_T_named_25 : decode (zb m_T_named) 25 = .ok (.aload_n 0, 1) := zdal_p dlB_T_named_102 (i := 11) rfl
theorem d_T_named_26 : decode (zb m_T_named) 26 = .ok (.getfield 28, 3) := zdal_p dlB_T_named_102 (i := 12) rfl
theorem d_T_named_29 : decode (zb m_T_named) 29 = .ok (.getfield 169, 3) := zdal_p dlB_T_named_102 (i := 13) rfl
theorem d_T_named_32 : decode (zb m_T_named) 32 = .ok (.iconst 1, 1) := zdal_p dlB_T_named_102 (i := 14) rfl
theorem d_T_named_33 : decode (zb m_T_named) 33 = .ok (.iload_n 1, 1) := zdal_p dlB_T_named_102 (i := 15) rfl
theorem d_T_named_34 : decode (zb m_T_named) 34 = .ok (.iadd, 1) := zdal_p dlB_T_named_102 (i := 16) rfl
theorem d_T_named_35 : decode (zb m_T_named) 35 = .ok (.iload_n 2, 1) := zdal_p dlB_T_named_102 (i := 17) rfl
theorem d_T_named_36 : decode (zb m_T_named) 36 = .ok (.invokevirtual 179, 3) := zdal_p dlB_T_named_102 (i := 18) rfl
theorem d_T_named_39 : decode (zb m_T_named) 39 = .ok (.goto 6, 3) := zdal_p dlB_T_named_102 (i := 19) rfl
theorem d_T_named_42 : decode (zb m_T_named) 42 = .ok (.ldc2_w 248, 3) := zdal_p dlB_T_named_102 (i := 20) rfl
theorem d_T_named_45 : decode (zb m_T_named) 45 = .ok (.lreturn, 1) := zdal_p dlB_T_named_102 (i := 21) rfl
theorem dlB_Troupe_hasName_103 : zdal (zb m_Troupe_hasName) [(0, (.iload_n 1, 1)), (1, (.ifCond .lt 15, 3)), (4, (.iload_n 1, 1)), (5, (.aload_n 0, 1)), (6, (.getfield 64, 3)), (9, (.if_icmp .ge 7, 3)), (12, (.iconst 1, 1)), (13, (.goto 4, 3)), (16, (.iconst 0, 1)), (17, (.ireturn, 1))] = true := zDs 0 (by decide +kernel)
theorem d_Troupe_hasName_0 : decode (zb m_Troupe_hasName) 0 = .ok (.iload_n 1, 1) := zdal_p dlB_Troupe_hasName_103 (i := 0) rfl
theorem d_Troupe_hasName_1 : decode (zb m_Troupe_hasName) 1 = .ok (.ifCond .lt 15, 3) := zdal_p dlB_Troupe_hasName_103 (i := 1) rfl
theorem d_Troupe_hasName_4 : decode (zb m_Troupe_hasName) 4 = .ok (.iload_n 1, 1) := zdal_p dlB_Troupe_hasName_103 (i := 2) rfl
theorem d_Troupe_hasName_5 : decode (zb m_Troupe_hasName) 5 = .ok (.aload_n 0, 1) := zdal_p dlB_Troupe_hasName_103 (i := 3) rfl
theorem d_Troupe_hasName_6 : decode (zb m_Troupe_hasName) 6 = .ok (.getfield 64, 3) := zdal_p dlB_Troupe_hasName_103 (i := 4) rfl
theorem d_Troupe_hasName_9 : decode (zb m_Troupe_hasName) 9 = .ok (.if_icmp .ge 7, 3) := zdal_p dlB_Troupe_hasName_103 (i := 5) rfl
theorem d_Troupe_hasName_12 : decode (zb m_Troupe_hasName) 12 = .ok (.iconst 1, 1) := zdal_p dlB_Troupe_hasName_103 (i := 6) rfl
theorem d_Troupe_hasName_13 : decode (zb m_Troupe_hasName) 13 = .ok (.goto 4, 3) := zdal_p dlB_Troupe_hasName_103 (i := 7) rfl
theorem d_Troupe_hasName_16 : decode (zb m_Troupe_hasName) 16 = .ok (.iconst 0, 1) := zdal_p dlB_Troupe_hasName_103 (i := 8) rfl
theorem d_Troupe_hasName_17 : decode (zb m_Troupe_hasName) 17 = .ok (.ireturn, 1) := zdal_p dlB_Troupe_hasName_103 (i := 9) rfl
theorem dlB_T_has_104 : zdal (zb m_T_has) [(0, (.aload_n 0, 1)), (1, (.getfield 28, 3)), (4, (.getfield 85, 3)), (7, (.iload_n 1, 1)), (8, (.invokevirtual 143, 3)), (11, (.ifCond .eq 18, 3)), (14, (.aload_n 0, 1)), (15, (.getfield 28, 3)), (18, (.getfield 169, 3)), (21, (.iconst 0, 1)), (22, (.iload_n 1, 1)), (23, (.invokevirtual 179, 3)), (26, (.goto 6, 3)), (29, (.ldc2_w 248, 3)), (32, (.lreturn, 1))] = true := zDs 0 (by decide +kernel)
theorem d_T_has_0 : decode (zb m_T_has) 0 = .ok (.aload_n 0, 1) := zdal_p dlB_T_has_104 (i := 0) rfl
theorem d_T_has_1 : decode (zb m_T_has) 1 = .ok (.getfield 28, 3) := zdal_p dlB_T_has_104 (i := 1) rfl
theorem d_T_has_4 : decode (zb m_T_has) 4 = .ok (.getfield 85, 3) := zdal_p dlB_T_has_104 (i := 2) rfl
theorem d_T_has_7 : decode (zb m_T_has) 7 = .ok (.iload_n 1, 1) := zdal_p dlB_T_has_104 (i := 3) rfl
theorem d_T_has_8 : decode (zb m_T_has) 8 = .ok (.invokevirtual 143, 3) := zdal_p dlB_T_has_104 (i := 4) rfl
theorem d_T_has_11 : decode (zb m_T_has) 11 = .ok (.ifCond .eq 18, 3) := zdal_p dlB_T_has_104 (i := 5) rfl
theorem d_T_has_14 : decode (zb m_T_has) 14 = .ok (.aload_n 0, 1) := zdal_p dlB_T_has_104 (i := 6) rfl
theorem d_T_has_15 : decode (zb m_T_has) 15 = .ok (.getfield 28, 3) := zdal_p dlB_T_has_104 (i := 7) rfl
theorem d_T_has_18 : decode (zb m_T_has) 18 = .ok (.getfield 169, 3) := zdal_p dlB_T_has_104 (i := 8) rfl
theorem d_T_has_21 : decode (zb m_T_has) 21 = .ok (.iconst 0, 1) := zdal_p dlB_T_has_104 (i := 9) rfl
theorem d_T_has_22 : decode (zb m_T_has) 22 = .ok (.iload_n 1, 1) := zdal_p dlB_T_has_104 (i := 10) rfl
theorem d_T_has_23 : decode (zb m_T_has) 23 = .ok (.invokevirtual 179, 3) := zdal_p dlB_T_has_104 (i := 11) rfl
theorem d_T_has_26 : decode (zb m_T_has) 26 = .ok (.goto 6, 3) := zdal_p dlB_T_has_104 (i := 12) rfl
theorem d_T_has_29 : decode (zb m_T_has) 29 = .ok (.ldc2_w 248, 3) := zdal_p dlB_T_has_104 (i := 13) rfl
theorem d_T_has_32 : decode (zb m_T_has) 32 = .ok (.lreturn, 1) := zdal_p dlB_T_has_104 (i := 14) rfl
theorem dlB_T_marked_105 : zdal (zb m_T_marked) [(0, (.aload_n 0, 1)), (1, (.getfield 28, 3)), (4, (.getfield 85, 3)), (7, (.iload_n 1, 1)), (8, (.invokevirtual 143, 3)), (11, (.ifCond .eq 18, 3)), (14, (.aload_n 0, 1)), (15, (.getfield 28, 3)), (18, (.getfield 169, 3)), (21, (.iconst 0, 1)), (22, (.iload_n 1, 1)), (23, (.invokevirtual 250, 3)), (26, (.goto 6, 3)), (29, (.ldc2_w 248, 3)), (32, (.lreturn, 1))] = true := zDs 0 (by decide +kernel)
theorem d_T_marked_0 : decode (zb m_T_marked) 0 = .ok (.aload_n 0, 1) := zdal_p dlB_T_marked_105 (i := 0) rfl
theorem d_T_marked_1 : decode (zb m_T_marked) 1 = .ok (.getfield 28, 3) := zdal_p dlB_T_marked_105 (i := 1) rfl
theorem d_T_marked_4 : decode (zb m_T_marked) 4 = .ok (.getfield 85, 3) := zdal_p dlB_T_marked_105 (i := 2) rfl
theorem d_T_marked_7 : decode (zb m_T_marked) 7 = .ok (.iload_n 1, 1) := zdal_p dlB_T_marked_105 (i := 3) rfl
theorem d_T_marked_8 : decode (zb m_T_marked) 8 = .ok (.invokevirtual 143, 3) := zdal_p dlB_T_marked_105 (i := 4) rfl
theorem d_T_marked_11 : decode (zb m_T_marked) 11 = .ok (.ifCond .eq 18, 3) := zdal_p dlB_T_marked_105 (i := 5) rfl
theorem d_T_marked_14 : decode (zb m_T_marked) 14 = .ok (.aload_n 0, 1) := zdal_p dlB_T_marked_105 (i := 6) rfl
theorem d_T_marked_15 : decode (zb m_T_marked) 15 = .ok (.getfield 28, 3) := zdal_p dlB_T_marked_105 (i := 7) rfl
theorem d_T_marked_18 : decode (zb m_T_marked) 18 = .ok (.getfield 169, 3) := zdal_p dlB_T_marked_105 (i := 8) rfl
theorem d_T_marked_21 : decode (zb m_T_marked) 21 = .ok (.iconst 0, 1) := zdal_p dlB_T_marked_105 (i := 9) rfl
theorem d_T_marked_22 : decode (zb m_T_marked) 22 = .ok (.iload_n 1, 1) := zdal_p dlB_T_marked_105 (i := 10) rfl
theorem d_T_marked_23 : decode (zb m_T_marked) 23 = .ok (.invokevirtual 250, 3) := zdal_p dlB_T_marked_105 (i := 11) rfl
theorem d_T_marked_26 : decode (zb m_T_marked) 26 = .ok (.goto 6, 3) := zdal_p dlB_T_marked_105 (i := 12) rfl
theorem d_T_marked_29 : decode (zb m_T_marked) 29 = .ok (.ldc2_w 248, 3) := zdal_p dlB_T_marked_105 (i := 13) rfl
theorem d_T_marked_32 : decode (zb m_T_marked) 32 = .ok (.lreturn, 1) := zdal_p dlB_T_marked_105 (i := 14) rfl
theorem dlB_T_character_106 : zdal (zb m_T_character) [(0, (.aload_n 0, 1)), (1, (.getfield 28, 3)), (4, (.getfield 61, 3)), (7, (.iload_n 1, 1)), (8, (.invokevirtual 108, 3)), (11, (.ifCond .ne 7, 3)), (14, (.ldc2_w 248, 3)), (17, (.lreturn, 1)), (18, (.aload_n 0, 1)), (19, (.getfield 28, 3)), (22, (.getfield 169, 3)), (25, (.iconst 0, 1)), (26, (.aload_n 0, 1)), (27, (.getfield 28, 3)), (30, (.getfield 85, 3)), (33, (.iconst 1, 1)), (34, (.iload_n 1, 1)), (35, (.ishl, 1)), (36, (.invokevirtual 140, 3)), (39, (.invokevirtual 250, 3)), (42, (.lreturn, 1))] = true := zDs 0 (by decide +kernel)
theorem d_T_character_0 : decode (zb m_T_character) 0 = .ok (.aload_n 0, 1) := zdal_p dlB_T_character_106 (i := 0) rfl
theorem d_T_character_1 : decode (zb m_T_character) 1 = .ok (.getfield 28, 3) := zdal_p dlB_T_character_106 (i := 1) rfl
theorem d_T_character_4 : decode (zb m_T_character) 4 = .ok (.getfield 61, 3) := zdal_p dlB_T_character_106 (i := 2) rfl
theorem d_T_character_7 : decode (zb m_T_character) 7 = .ok (.iload_n 1, 1) := zdal_p dlB_T_character_106 (i := 3) rfl
theorem d_T_character_8 : decode (zb m_T_character) 8 = .ok (.invokevirtual 108, 3) := zdal_p dlB_T_character_106 (i := 4) rfl
theorem d_T_character_11 : decode (zb m_T_character) 11 = .ok (.ifCond .ne 7, 3) := zdal_p dlB_T_character_106 (i := 5) rfl
theorem d_T_character_14 : decode (zb m_T_character) 14 = .ok (.ldc2_w 248, 3) := zdal_p dlB_T_character_106 (i := 6) rfl
theorem d_T_character_17 : decode (zb m_T_character) 17 = .ok (.lreturn, 1) := zdal_p dlB_T_character_106 (i := 7) rfl
theorem d_T_character_18 : decode (zb m_T_character) 18 = .ok (.aload_n 0, 1) := zdal_p dlB_T_character_106 (i := 8) rfl
theorem d_T_character_19 : decode (zb m_T_character) 19 = .ok (.getfield 28, 3) := zdal_p dlB_T_character_106 (i := 9) rfl
theorem d_T_character_22 : decode (zb m_T_character) 22 = .ok (.getfield 169, 3) := zdal_p dlB_T_character_106 (i := 10) rfl
theorem d_T_character_25 : decode (zb m_T_character) 25 = .ok (.iconst 0, 1) := zdal_p dlB_T_character_106 (i := 11) rfl
theorem d_T_character_26 : decode (zb m_T_character) 26 = .ok (.aload_n 0, 1) := zdal_p dlB_T_character_106 (i := 12) rfl
theorem d_T_character_27 : decode (zb m_T_character) 27 = .ok (.getfield 28, 3) := zdal_p dlB_T_character_106 (i := 13) rfl
theorem d_T_character_30 : decode (zb m_T_character) 30 = .ok (.getfield 85, 3) := zdal_p dlB_T_character_106 (i := 14) rfl
theorem d_T_character_33 : decode (zb m_T_character) 33 = .ok (.iconst 1, 1) := zdal_p dlB_T_character_106 (i := 15) rfl
theorem d_T_character_34 : decode (zb m_T_character) 34 = .ok (.iload_n 1, 1) := zdal_p dlB_T_character_106 (i := 16) rfl
theorem d_T_character_35 : decode (zb m_T_character) 35 = .ok (.ishl, 1) := zdal_p dlB_T_character_106 (i := 17) rfl
theorem d_T_character_36 : decode (zb m_T_character) 36 = .ok (.invokevirtual 140, 3) := zdal_p dlB_T_character_106 (i := 18) rfl
theorem d_T_character_39 : decode (zb m_T_character) 39 = .ok (.invokevirtual 250, 3) := zdal_p dlB_T_character_106 (i := 19) rfl
theorem d_T_character_42 : decode (zb m_T_character) 42 = .ok (.lreturn, 1) := zdal_p dlB_T_character_106 (i := 20) rfl
theorem dlB_T_parts_107 : zdal (zb m_T_parts) [(0, (.aload_n 0, 1)), (1, (.getfield 28, 3)), (4, (.getfield 169, 3)), (7, (.iconst 0, 1)), (8, (.invokevirtual 253, 3)), (11, (.ireturn, 1))] = true := zDs 0 (by decide +kernel)
theorem d_T_parts_0 : decode (zb m_T_parts) 0 = .ok (.aload_n 0, 1) := zdal_p dlB_T_parts_107 (i := 0) rfl
theorem d_T_parts_1 : decode (zb m_T_parts) 1 = .ok (.getfield 28, 3) := zdal_p dlB_T_parts_107 (i := 1) rfl
theorem d_T_parts_4 : decode (zb m_T_parts) 4 = .ok (.getfield 169, 3) := zdal_p dlB_T_parts_107 (i := 2) rfl
theorem d_T_parts_7 : decode (zb m_T_parts) 7 = .ok (.iconst 0, 1) := zdal_p dlB_T_parts_107 (i := 3) rfl
theorem d_T_parts_8 : decode (zb m_T_parts) 8 = .ok (.invokevirtual 253, 3) := zdal_p dlB_T_parts_107 (i := 4) rfl
theorem d_T_parts_11 : decode (zb m_T_parts) 11 = .ok (.ireturn, 1) := zdal_p dlB_T_parts_107 (i := 5) rfl
theorem dlB_Sums_partsOf_108 : zdal (zb m_Sums_partsOf) [(0, (.iconst 0, 1)), (1, (.istore_n 2, 1)), (2, (.iconst 0, 1)), (3, (.istore_n 3, 1)), (4, (.iload_n 3, 1)), (5, (.aload_n 0, 1)), (6, (.getfield 23, 3)), (9, (.getfield 35, 3)), (12, (.if_icmp .ge 23, 3)), (15, (.aload_n 0, 1)), (16, (.iload_n 1, 1)), (17, (.iload_n 3, 1)), (18, (.invokevirtual 67, 3)), (21, (.lconst 0, 1)), (22, (.lcmp, 1)), (23, (.ifCond .eq 6, 3)), (26, (.iinc 2 1, 3)), (29, (.iinc 3 1, 3)), (32, (.goto (-28), 3)), (35, (.iload_n 2, 1)), (36, (.ireturn, 1))] = true := zDs 0 (by decide +kernel)
theorem d_Sums_partsOf_0 : decode (zb m_Sums_partsOf) 0 = .ok (.iconst 0, 1) := zdal_p dlB_Sums_partsOf_108 (i := 0) rfl
theorem d_Sums_partsOf_1 : decode (zb m_Sums_partsOf) 1 = .ok (.istore_n 2, 1) := zdal_p dlB_Sums_partsOf_108 (i := 1) rfl
theorem d_Sums_partsOf_2 : decode (zb m_Sums_partsOf) 2 = .ok (.iconst 0, 1) := zdal_p dlB_Sums_partsOf_108 (i := 2) rfl
theorem d_Sums_partsOf_3 : decode (zb m_Sums_partsOf) 3 = .ok (.istore_n 3, 1) := zdal_p dlB_Sums_partsOf_108 (i := 3) rfl
theorem d_Sums_partsOf_4 : decode (zb m_Sums_partsOf) 4 = .ok (.iload_n 3, 1) := zdal_p dlB_Sums_partsOf_108 (i := 4) rfl
theorem d_Sums_partsOf_5 : decode (zb m_Sums_partsOf) 5 = .ok (.aload_n 0, 1) := zdal_p dlB_Sums_partsOf_108 (i := 5) rfl
theorem d_Sums_partsOf_6 : decode (zb m_Sums_partsOf) 6 = .ok (.getfield 23, 3) := zdal_p dlB_Sums_partsOf_108 (i := 6) rfl
theorem d_Sums_partsOf_9 : decode (zb m_Sums_partsOf) 9 = .ok (.getfield 35, 3) := zdal_p dlB_Sums_partsOf_108 (i := 7) rfl
theorem d_Sums_partsOf_12 : decode (zb m_Sums_partsOf) 12 = .ok (.if_icmp .ge 23, 3) := zdal_p dlB_Sums_partsOf_108 (i := 8) rfl
theorem d_Sums_partsOf_15 : decode (zb m_Sums_partsOf) 15 = .ok (.aload_n 0, 1) := zdal_p dlB_Sums_partsOf_108 (i := 9) rfl
theorem d_Sums_partsOf_16 : decode (zb m_Sums_partsOf) 16 = .ok (.iload_n 1, 1) := zdal_p dlB_Sums_partsOf_108 (i := 10) rfl
theorem d_Sums_partsOf_17 : decode (zb m_Sums_partsOf) 17 = .ok (.iload_n 3, 1) := zdal_p dlB_Sums_partsOf_108 (i := 11) rfl
theorem d_Sums_partsOf_18 : decode (zb m_Sums_partsOf) 18 = .ok (.invokevirtual 67, 3) := zdal_p dlB_Sums_partsOf_108 (i := 12) rfl
theorem d_Sums_partsOf_21 : decode (zb m_Sums_partsOf) 21 = .ok (.lconst 0, 1) := zdal_p dlB_Sums_partsOf_108 (i := 13) rfl
theorem d_Sums_partsOf_22 : decode (zb m_Sums_partsOf) 22 = .ok (.lcmp, 1) := zdal_p dlB_Sums_partsOf_108 (i := 14) rfl
theorem d_Sums_partsOf_23 : decode (zb m_Sums_partsOf) 23 = .ok (.ifCond .eq 6, 3) := zdal_p dlB_Sums_partsOf_108 (i := 15) rfl
theorem d_Sums_partsOf_26 : decode (zb m_Sums_partsOf) 26 = .ok (.iinc 2 1, 3) := zdal_p dlB_Sums_partsOf_108 (i := 16) rfl
theorem d_Sums_partsOf_29 : decode (zb m_Sums_partsOf) 29 = .ok (.iinc 3 1, 3) := zdal_p dlB_Sums_partsOf_108 (i := 17) rfl
theorem d_Sums_partsOf_32 : decode (zb m_Sums_partsOf) 32 = .ok (.goto (-28), 3) := zdal_p dlB_Sums_partsOf_108 (i := 18) rfl
theorem d_Sums_partsOf_35 : decode (zb m_Sums_partsOf) 35 = .ok (.iload_n 2, 1) := zdal_p dlB_Sums_partsOf_108 (i := 19) rfl
theorem d_Sums_partsOf_36 : decode (zb m_Sums_partsOf) 36 = .ok (.ireturn, 1) := zdal_p dlB_Sums_partsOf_108 (i := 20) rfl
theorem dlB_T_congruence_109 : zdal (zb m_T_congruence) [(0, (.aload_n 0, 1)), (1, (.getfield 28, 3)), (4, (.getfield 85, 3)), (7, (.iload_n 1, 1)), (8, (.invokevirtual 143, 3)), (11, (.ifCond .ne 7, 3)), (14, (.ldc2_w 248, 3)), (17, (.lreturn, 1)), (18, (.aload_n 0, 1)), (19, (.getfield 28, 3)), (22, (.getfield 169, 3)), (25, (.iconst 0, 1)), (26, (.invokevirtual 256, 3)), (29, (.aload_n 0, 1)), (30, (.getfield 28, 3)), (33, (.getfield 85, 3)), (36, (.iload_n 1, 1)), (37, (.invokevirtual 259, 3)), (40, (.istore_n 2, 1)), (41, (.aload_n 0, 1)), (42, (.getfield 28, 3)), (45, (.getfield 85, 3)), (48, (.iload_n 1, 1)), (49, (.aload_n 0, 1))] = true := zDs 0 (by decide +kernel)
theorem d_T_congruence_0 : decode (zb m_T_congruence) 0 = .ok (.aload_n 0, 1) := zdal_p dlB_T_congruence_109 (i := 0) rfl
theorem d_T_congruence_1 : decode (zb m_T_congruence) 1 = .ok (.getfield 28, 3) := zdal_p dlB_T_congruence_109 (i := 1) rfl
theorem d_T_congruence_4 : decode (zb m_T_congruence) 4 = .ok (.getfield 85, 3) := zdal_p dlB_T_congruence_109 (i := 2) rfl
theorem d_T_congruence_7 : decode (zb m_T_congruence) 7 = .ok (.iload_n 1, 1) := zdal_p dlB_T_congruence_109 (i := 3) rfl
theorem d_T_congruence_8 : decode (zb m_T_congruence) 8 = .ok (.invokevirtual 143, 3) := zdal_p dlB_T_congruence_109 (i := 4) rfl
theorem d_T_congruence_11 : decode (zb m_T_congruence) 11 = .ok (.ifCond .ne 7, 3) := zdal_p dlB_T_congruence_109 (i := 5) rfl
theorem d_T_congruence_14 : decode (zb m_T_congruence) 14 = .ok (.ldc2_w 248, 3) := zdal_p dlB_T_congruence_109 (i := 6) rfl
theorem d_T_congruence_17 : decode (zb m_T_congruence) 17 = .ok (.lreturn, 1) := zdal_p dlB_T_congruence_109 (i := 7) rfl
theorem d_T_congruence_18 : decode (zb m_T_congruence) 18 = .ok (.aload_n 0, 1) := zdal_p dlB_T_congruence_109 (i := 8) rfl
theorem d_T_congruence_19 : decode (zb m_T_congruence) 19 = .ok (.getfield 28, 3) := zdal_p dlB_T_congruence_109 (i := 9) rfl
theorem d_T_congruence_22 : decode (zb m_T_congruence) 22 = .ok (.getfield 169, 3) := zdal_p dlB_T_congruence_109 (i := 10) rfl
theorem d_T_congruence_25 : decode (zb m_T_congruence) 25 = .ok (.iconst 0, 1) := zdal_p dlB_T_congruence_109 (i := 11) rfl
theorem d_T_congruence_26 : decode (zb m_T_congruence) 26 = .ok (.invokevirtual 256, 3) := zdal_p dlB_T_congruence_109 (i := 12) rfl
theorem d_T_congruence_29 : decode (zb m_T_congruence) 29 = .ok (.aload_n 0, 1) := zdal_p dlB_T_congruence_109 (i := 13) rfl
theorem d_T_congruence_30 : decode (zb m_T_congruence) 30 = .ok (.getfield 28, 3) := zdal_p dlB_T_congruence_109 (i := 14) rfl
theorem d_T_congruence_33 : decode (zb m_T_congruence) 33 = .ok (.getfield 85, 3) := zdal_p dlB_T_congruence_109 (i := 15) rfl
theorem d_T_congruence_36 : decode (zb m_T_congruence) 36 = .ok (.iload_n 1, 1) := zdal_p dlB_T_congruence_109 (i := 16) rfl
theorem d_T_congruence_37 : decode (zb m_T_congruence) 37 = .ok (.invokevirtual 259, 3) := zdal_p dlB_T_congruence_109 (i := 17) rfl
theorem d_T_congruence_40 : decode (zb m_T_congruence) 40 = .ok (.istore_n 2, 1) := zdal_p dlB_T_congruence_109 (i := 18) rfl
theorem d_T_congruence_41 : decode (zb m_T_congruence) 41 = .ok (.aload_n 0, 1) := zdal_p dlB_T_congruence_109 (i := 19) rfl
theorem d_T_congruence_42 : decode (zb m_T_congruence) 42 = .ok (.getfield 28, 3) := zdal_p dlB_T_congruence_109 (i := 20) rfl
theorem d_T_congruence_45 : decode (zb m_T_congruence) 45 = .ok (.getfield 85, 3) := zdal_p dlB_T_congruence_109 (i := 21) rfl
theorem d_T_congruence_48 : decode (zb m_T_congruence) 48 = .ok (.iload_n 1, 1) := zdal_p dlB_T_congruence_109 (i := 22) rfl
theorem d_T_congruence_49 : decode (zb m_T_congruence) 49 = .ok (.aload_n 0, 1) := zdal_p dlB_T_congruence_109 (i := 23) rfl
theorem dlB_T_congruence_110 : zdal (zb m_T_congruence) [(50, (.getfield 28, 3)), (53, (.getfield 169, 3)), (56, (.getfield 262, 3)), (59, (.invokevirtual 266, 3)), (62, (.lstore_n 3, 1)), (63, (.iload_n 2, 1)), (64, (.ifCond .le 10, 3)), (67, (.lload_n 3, 1)), (68, (.iload_n 2, 1)), (69, (.i2l, 1)), (70, (.ldiv, 1)), (71, (.goto 6, 3)), (74, (.ldc2_w 248, 3)), (77, (.lreturn, 1))] = true := zDs 50 (by decide +kernel)
theorem d_T_congruence_50 : decode (zb m_T_congruence) 50 = .ok (.getfield 28, 3) := zdal_p dlB_T_congruence_110 (i := 0) rfl
theorem d_T_congruence_53 : decode (zb m_T_congruence) 53 = .ok (.getfield 169, 3) := zdal_p dlB_T_congruence_110 (i := 1) rfl
theorem d_T_congruence_56 : decode (zb m_T_congruence) 56 = .ok (.getfield 262, 3) := zdal_p dlB_T_congruence_110 (i := 2) rfl
theorem d_T_congruence_59 : decode (zb m_T_congruence) 59 = .ok (.invokevirtual 266, 3) := zdal_p dlB_T_congruence_110 (i := 3) rfl
theorem d_T_congruence_62 : decode (zb m_T_congruence) 62 = .ok (.lstore_n 3, 1) := zdal_p dlB_T_congruence_110 (i := 4) rfl
theorem d_T_congruence_63 : decode (zb m_T_congruence) 63 = .ok (.iload_n 2, 1) := zdal_p dlB_T_congruence_110 (i := 5) rfl
theorem d_T_congruence_64 : decode (zb m_T_congruence) 64 = .ok (.ifCond .le 10, 3) := zdal_p dlB_T_congruence_110 (i := 6) rfl
theorem d_T_congruence_67 : decode (zb m_T_congruence) 67 = .ok (.lload_n 3, 1) := zdal_p dlB_T_congruence_110 (i := 7) rfl
theorem d_T_congruence_68 : decode (zb m_T_congruence) 68 = .ok (.iload_n 2, 1) := zdal_p dlB_T_congruence_110 (i := 8) rfl
theorem d_T_congruence_69 : decode (zb m_T_congruence) 69 = .ok (.i2l, 1) := zdal_p dlB_T_congruence_110 (i := 9) rfl
theorem d_T_congruence_70 : decode (zb m_T_congruence) 70 = .ok (.ldiv, 1) := zdal_p dlB_T_congruence_110 (i := 10) rfl
theorem d_T_congruence_71 : decode (zb m_T_congruence) 71 = .ok (.goto 6, 3) := zdal_p dlB_T_congruence_110 (i := 11) rfl
theorem d_T_congruence_74 : decode (zb m_T_congruence) 74 = .ok (.ldc2_w 248, 3) := zdal_p dlB_T_congruence_110 (i := 12) rfl
theorem d_T_congruence_77 : decode (zb m_T_congruence) 77 = .ok (.lreturn, 1) := zdal_p dlB_T_congruence_110 (i := 13) rfl
theorem dlB_Sums_putMarks_111 : zdal (zb m_Sums_putMarks) [(0, (.iconst 0, 1)), (1, (.istore_n 2, 1)), (2, (.iload_n 2, 1)), (3, (.aload_n 0, 1)), (4, (.getfield 23, 3)), (7, (.getfield 35, 3)), (10, (.if_icmp .ge 23, 3)), (13, (.aload_n 0, 1)), (14, (.getfield 20, 3)), (17, (.iload_n 2, 1)), (18, (.aload_n 0, 1)), (19, (.iload_n 1, 1)), (20, (.iload_n 2, 1)), (21, (.invokevirtual 50, 3)), (24, (.invokevirtual 31, 3)), (27, (.iinc 2 1, 3)), (30, (.goto (-28), 3)), (33, (.return_, 1))] = true := zDs 0 (by decide +kernel)
theorem d_Sums_putMarks_0 : decode (zb m_Sums_putMarks) 0 = .ok (.iconst 0, 1) := zdal_p dlB_Sums_putMarks_111 (i := 0) rfl
theorem d_Sums_putMarks_1 : decode (zb m_Sums_putMarks) 1 = .ok (.istore_n 2, 1) := zdal_p dlB_Sums_putMarks_111 (i := 1) rfl
theorem d_Sums_putMarks_2 : decode (zb m_Sums_putMarks) 2 = .ok (.iload_n 2, 1) := zdal_p dlB_Sums_putMarks_111 (i := 2) rfl
theorem d_Sums_putMarks_3 : decode (zb m_Sums_putMarks) 3 = .ok (.aload_n 0, 1) := zdal_p dlB_Sums_putMarks_111 (i := 3) rfl
theorem d_Sums_putMarks_4 : decode (zb m_Sums_putMarks) 4 = .ok (.getfield 23, 3) := zdal_p dlB_Sums_putMarks_111 (i := 4) rfl
theorem d_Sums_putMarks_7 : decode (zb m_Sums_putMarks) 7 = .ok (.getfield 35, 3) := zdal_p dlB_Sums_putMarks_111 (i := 5) rfl
theorem d_Sums_putMarks_10 : decode (zb m_Sums_putMarks) 10 = .ok (.if_icmp .ge 23, 3) := zdal_p dlB_Sums_putMarks_111 (i := 6) rfl
theorem d_Sums_putMarks_13 : decode (zb m_Sums_putMarks) 13 = .ok (.aload_n 0, 1) := zdal_p dlB_Sums_putMarks_111 (i := 7) rfl
theorem d_Sums_putMarks_14 : decode (zb m_Sums_putMarks) 14 = .ok (.getfield 20, 3) := zdal_p dlB_Sums_putMarks_111 (i := 8) rfl
theorem d_Sums_putMarks_17 : decode (zb m_Sums_putMarks) 17 = .ok (.iload_n 2, 1) := zdal_p dlB_Sums_putMarks_111 (i := 9) rfl
theorem d_Sums_putMarks_18 : decode (zb m_Sums_putMarks) 18 = .ok (.aload_n 0, 1) := zdal_p dlB_Sums_putMarks_111 (i := 10) rfl
theorem d_Sums_putMarks_19 : decode (zb m_Sums_putMarks) 19 = .ok (.iload_n 1, 1) := zdal_p dlB_Sums_putMarks_111 (i := 11) rfl
theorem d_Sums_putMarks_20 : decode (zb m_Sums_putMarks) 20 = .ok (.iload_n 2, 1) := zdal_p dlB_Sums_putMarks_111 (i := 12) rfl
theorem d_Sums_putMarks_21 : decode (zb m_Sums_putMarks) 21 = .ok (.invokevirtual 50, 3) := zdal_p dlB_Sums_putMarks_111 (i := 13) rfl
theorem d_Sums_putMarks_24 : decode (zb m_Sums_putMarks) 24 = .ok (.invokevirtual 31, 3) := zdal_p dlB_Sums_putMarks_111 (i := 14) rfl
theorem d_Sums_putMarks_27 : decode (zb m_Sums_putMarks) 27 = .ok (.iinc 2 1, 3) := zdal_p dlB_Sums_putMarks_111 (i := 15) rfl
theorem d_Sums_putMarks_30 : decode (zb m_Sums_putMarks) 30 = .ok (.goto (-28), 3) := zdal_p dlB_Sums_putMarks_111 (i := 16) rfl
theorem d_Sums_putMarks_33 : decode (zb m_Sums_putMarks) 33 = .ok (.return_, 1) := zdal_p dlB_Sums_putMarks_111 (i := 17) rfl
theorem dlB_Sorts_normSize_112 : zdal (zb m_Sorts_normSize) [(0, (.aload_n 0, 1)), (1, (.getfield 32, 3)), (4, (.aload_n 0, 1)), (5, (.getfield 26, 3)), (8, (.iload_n 1, 1)), (9, (.invokevirtual 49, 3)), (12, (.invokevirtual 102, 3)), (15, (.invokestatic 78, 3)), (18, (.ireturn, 1))] = true := zDs 0 (by decide +kernel)
theorem d_Sorts_normSize_0 : decode (zb m_Sorts_normSize) 0 = .ok (.aload_n 0, 1) := zdal_p dlB_Sorts_normSize_112 (i := 0) rfl
theorem d_Sorts_normSize_1 : decode (zb m_Sorts_normSize) 1 = .ok (.getfield 32, 3) := zdal_p dlB_Sorts_normSize_112 (i := 1) rfl
theorem d_Sorts_normSize_4 : decode (zb m_Sorts_normSize) 4 = .ok (.aload_n 0, 1) := zdal_p dlB_Sorts_normSize_112 (i := 2) rfl
theorem d_Sorts_normSize_5 : decode (zb m_Sorts_normSize) 5 = .ok (.getfield 26, 3) := zdal_p dlB_Sorts_normSize_112 (i := 3) rfl
theorem d_Sorts_normSize_8 : decode (zb m_Sorts_normSize) 8 = .ok (.iload_n 1, 1) := zdal_p dlB_Sorts_normSize_112 (i := 4) rfl
theorem d_Sorts_normSize_9 : decode (zb m_Sorts_normSize) 9 = .ok (.invokevirtual 49, 3) := zdal_p dlB_Sorts_normSize_112 (i := 5) rfl
theorem d_Sorts_normSize_12 : decode (zb m_Sorts_normSize) 12 = .ok (.invokevirtual 102, 3) := zdal_p dlB_Sorts_normSize_112 (i := 6) rfl
theorem d_Sorts_normSize_15 : decode (zb m_Sorts_normSize) 15 = .ok (.invokestatic 78, 3) := zdal_p dlB_Sorts_normSize_112 (i := 7) rfl
theorem d_Sorts_normSize_18 : decode (zb m_Sorts_normSize) 18 = .ok (.ireturn, 1) := zdal_p dlB_Sorts_normSize_112 (i := 8) rfl
theorem dlB_Sorts_sumOverNorm_113 : zdal (zb m_Sorts_sumOverNorm) [(0, (.aload_n 0, 1)), (1, (.getfield 26, 3)), (4, (.iload_n 1, 1)), (5, (.invokevirtual 49, 3)), (8, (.istore_n 3, 1)), (9, (.aload_n 0, 1)), (10, (.getfield 32, 3)), (13, (.iload_n 3, 1)), (14, (.invokevirtual 102, 3)), (17, (.istore 4, 2)), (19, (.lconst 0, 1)), (20, (.lstore 5, 2)), (22, (.iconst 0, 1)), (23, (.istore 7, 2)), (25, (.iload 7, 2)), (27, (.aload_n 0, 1)), (28, (.getfield 32, 3)), (31, (.getfield 44, 3)), (34, (.if_icmp .ge 38, 3)), (37, (.iload 4, 2)), (39, (.iload 7, 2)), (41, (.invokestatic 53, 3)), (44, (.ifCond .eq 22, 3)), (47, (.lload 5, 2))] = true := zDs 0 (by decide +kernel)
theorem d_Sorts_sumOverNorm_0 : decode (zb m_Sorts_sumOverNorm) 0 = .ok (.aload_n 0, 1) := zdal_p dlB_Sorts_sumOverNorm_113 (i := 0) rfl
theorem d_Sorts_sumOverNorm_1 : decode (zb m_Sorts_sumOverNorm) 1 = .ok (.getfield 26, 3) := zdal_p dlB_Sorts_sumOverNorm_113 (i := 1) rfl
theorem d_Sorts_sumOverNorm_4 : decode (zb m_Sorts_sumOverNorm) 4 = .ok (.iload_n 1, 1) := zdal_p dlB_Sorts_sumOverNorm_113 (i := 2) rfl
theorem d_Sorts_sumOverNorm_5 : decode (zb m_Sorts_sumOverNorm) 5 = .ok (.invokevirtual 49, 3) := zdal_p dlB_Sorts_sumOverNorm_113 (i := 3) rfl
theorem d_Sorts_sumOverNorm_8 : decode (zb m_Sorts_sumOverNorm) 8 = .ok (.istore_n 3, 1) := zdal_p dlB_Sorts_sumOverNorm_113 (i := 4) rfl
theorem d_Sorts_sumOverNorm_9 : decode (zb m_Sorts_sumOverNorm) 9 = .ok (.aload_n 0, 1) := zdal_p dlB_Sorts_sumOverNorm_113 (i := 5) rfl
theorem d_Sorts_sumOverNorm_10 : decode (zb m_Sorts_sumOverNorm) 10 = .ok (.getfield 32, 3) := zdal_p dlB_Sorts_sumOverNorm_113 (i := 6) rfl
theorem d_Sorts_sumOverNorm_13 : decode (zb m_Sorts_sumOverNorm) 13 = .ok (.iload_n 3, 1) := zdal_p dlB_Sorts_sumOverNorm_113 (i := 7) rfl
theorem d_Sorts_sumOverNorm_14 : decode (zb m_Sorts_sumOverNorm) 14 = .ok (.invokevirtual 102, 3) := zdal_p dlB_Sorts_sumOverNorm_113 (i := 8) rfl
theorem d_Sorts_sumOverNorm_17 : decode (zb m_Sorts_sumOverNorm) 17 = .ok (.istore 4, 2) := zdal_p dlB_Sorts_sumOverNorm_113 (i := 9) rfl
theorem d_Sorts_sumOverNorm_19 : decode (zb m_Sorts_sumOverNorm) 19 = .ok (.lconst 0, 1) := zdal_p dlB_Sorts_sumOverNorm_113 (i := 10) rfl
theorem d_Sorts_sumOverNorm_20 : decode (zb m_Sorts_sumOverNorm) 20 = .ok (.lstore 5, 2) := zdal_p dlB_Sorts_sumOverNorm_113 (i := 11) rfl
theorem d_Sorts_sumOverNorm_22 : decode (zb m_Sorts_sumOverNorm) 22 = .ok (.iconst 0, 1) := zdal_p dlB_Sorts_sumOverNorm_113 (i := 12) rfl
theorem d_Sorts_sumOverNorm_23 : decode (zb m_Sorts_sumOverNorm) 23 = .ok (.istore 7, 2) := zdal_p dlB_Sorts_sumOverNorm_113 (i := 13) rfl
theorem d_Sorts_sumOverNorm_25 : decode (zb m_Sorts_sumOverNorm) 25 = .ok (.iload 7, 2) := zdal_p dlB_Sorts_sumOverNorm_113 (i := 14) rfl
theorem d_Sorts_sumOverNorm_27 : decode (zb m_Sorts_sumOverNorm) 27 = .ok (.aload_n 0, 1) := zdal_p dlB_Sorts_sumOverNorm_113 (i := 15) rfl
theorem d_Sorts_sumOverNorm_28 : decode (zb m_Sorts_sumOverNorm) 28 = .ok (.getfield 32, 3) := zdal_p dlB_Sorts_sumOverNorm_113 (i := 16) rfl
theorem d_Sorts_sumOverNorm_31 : decode (zb m_Sorts_sumOverNorm) 31 = .ok (.getfield 44, 3) := zdal_p dlB_Sorts_sumOverNorm_113 (i := 17) rfl
theorem d_Sorts_sumOverNorm_34 : decode (zb m_Sorts_sumOverNorm) 34 = .ok (.if_icmp .ge 38, 3) := zdal_p dlB_Sorts_sumOverNorm_113 (i := 18) rfl
theorem d_Sorts_sumOverNorm_37 : decode (zb m_Sorts_sumOverNorm) 37 = .ok (.iload 4, 2) := zdal_p dlB_Sorts_sumOverNorm_113 (i := 19) rfl
theorem d_Sorts_sumOverNorm_39 : decode (zb m_Sorts_sumOverNorm) 39 = .ok (.iload 7, 2) := zdal_p dlB_Sorts_sumOverNorm_113 (i := 20) rfl
theorem d_Sorts_sumOverNorm_41 : decode (zb m_Sorts_sumOverNorm) 41 = .ok (.invokestatic 53, 3) := zdal_p dlB_Sorts_sumOverNorm_113 (i := 21) rfl
theorem d_Sorts_sumOverNorm_44 : decode (zb m_Sorts_sumOverNorm) 44 = .ok (.ifCond .eq 22, 3) := zdal_p dlB_Sorts_sumOverNorm_113 (i := 22) rfl
theorem d_Sorts_sumOverNorm_47 : decode (zb m_Sorts_sumOverNorm) 47 = .ok (.lload 5, 2) := zdal_p dlB_Sorts_sumOverNorm_113 (i := 23) rfl
theorem dlB_Sorts_sumOverNorm_114 : zdal (zb m_Sorts_sumOverNorm) [(49, (.aload_n 2, 1)), (50, (.aload_n 0, 1)), (51, (.iload_n 3, 1)), (52, (.iconst 1, 1)), (53, (.iload 7, 2)), (55, (.ishl, 1)), (56, (.ior, 1)), (57, (.invokevirtual 112, 3)), (60, (.invokevirtual 115, 3)), (63, (.ladd, 1)), (64, (.lstore 5, 2)), (66, (.iinc 7 1, 3)), (69, (.goto (-44), 3)), (72, (.lload 5, 2)), (74, (.lreturn, 1))] = true := zDs 49 (by decide +kernel)
theorem d_Sorts_sumOverNorm_49 : decode (zb m_Sorts_sumOverNorm) 49 = .ok (.aload_n 2, 1) := zdal_p dlB_Sorts_sumOverNorm_114 (i := 0) rfl
theorem d_Sorts_sumOverNorm_50 : decode (zb m_Sorts_sumOverNorm) 50 = .ok (.aload_n 0, 1) := zdal_p dlB_Sorts_sumOverNorm_114 (i := 1) rfl
theorem d_Sorts_sumOverNorm_51 : decode (zb m_Sorts_sumOverNorm) 51 = .ok (.iload_n 3, 1) := zdal_p dlB_Sorts_sumOverNorm_114 (i := 2) rfl
theorem d_Sorts_sumOverNorm_52 : decode (zb m_Sorts_sumOverNorm) 52 = .ok (.iconst 1, 1) := zdal_p dlB_Sorts_sumOverNorm_114 (i := 3) rfl
theorem d_Sorts_sumOverNorm_53 : decode (zb m_Sorts_sumOverNorm) 53 = .ok (.iload 7, 2) := zdal_p dlB_Sorts_sumOverNorm_114 (i := 4) rfl
theorem d_Sorts_sumOverNorm_55 : decode (zb m_Sorts_sumOverNorm) 55 = .ok (.ishl, 1) := zdal_p dlB_Sorts_sumOverNorm_114 (i := 5) rfl
theorem d_Sorts_sumOverNorm_56 : decode (zb m_Sorts_sumOverNorm) 56 = .ok (.ior, 1) := zdal_p dlB_Sorts_sumOverNorm_114 (i := 6) rfl
theorem d_Sorts_sumOverNorm_57 : decode (zb m_Sorts_sumOverNorm) 57 = .ok (.invokevirtual 112, 3) := zdal_p dlB_Sorts_sumOverNorm_114 (i := 7) rfl
theorem d_Sorts_sumOverNorm_60 : decode (zb m_Sorts_sumOverNorm) 60 = .ok (.invokevirtual 115, 3) := zdal_p dlB_Sorts_sumOverNorm_114 (i := 8) rfl
theorem d_Sorts_sumOverNorm_63 : decode (zb m_Sorts_sumOverNorm) 63 = .ok (.ladd, 1) := zdal_p dlB_Sorts_sumOverNorm_114 (i := 9) rfl
theorem d_Sorts_sumOverNorm_64 : decode (zb m_Sorts_sumOverNorm) 64 = .ok (.lstore 5, 2) := zdal_p dlB_Sorts_sumOverNorm_114 (i := 10) rfl
theorem d_Sorts_sumOverNorm_66 : decode (zb m_Sorts_sumOverNorm) 66 = .ok (.iinc 7 1, 3) := zdal_p dlB_Sorts_sumOverNorm_114 (i := 11) rfl
theorem d_Sorts_sumOverNorm_69 : decode (zb m_Sorts_sumOverNorm) 69 = .ok (.goto (-44), 3) := zdal_p dlB_Sorts_sumOverNorm_114 (i := 12) rfl
theorem d_Sorts_sumOverNorm_72 : decode (zb m_Sorts_sumOverNorm) 72 = .ok (.lload 5, 2) := zdal_p dlB_Sorts_sumOverNorm_114 (i := 13) rfl
theorem d_Sorts_sumOverNorm_74 : decode (zb m_Sorts_sumOverNorm) 74 = .ok (.lreturn, 1) := zdal_p dlB_Sorts_sumOverNorm_114 (i := 14) rfl
theorem dlB_T_is_115 : zdal (zb m_T_is) [(0, (.aload_n 0, 1)), (1, (.getfield 28, 3)), (4, (.getfield 169, 3)), (7, (.astore_n 2, 1)), (8, (.aload_n 2, 1)), (9, (.iconst 0, 1)), (10, (.invokevirtual 256, 3)), (13, (.iload_n 1, 1)), (14, (.tableswitch 87 0 3 #[30, 44, 59, 74], 30)), (44, (.aload_n 2, 1)), (45, (.iconst 0, 1)), (46, (.invokevirtual 270, 3)), (49, (.ifCond .eq 7, 3)), (52, (.iconst 1, 1)), (53, (.goto 4, 3)), (56, (.iconst 0, 1)), (57, (.ireturn, 1)), (58, (.aload_n 2, 1)), (59, (.iconst 0, 1)), (60, (.iconst 1, 1)), (61, (.invokevirtual 273, 3)), (64, (.ifCond .eq 7, 3)), (67, (.iconst 1, 1)), (68, (.goto 4, 3))] = true := zDs 0 (by decide +kernel)
theorem d_T_is_0 : decode (zb m_T_is) 0 = .ok (.aload_n 0, 1) := zdal_p dlB_T_is_115 (i := 0) rfl
theorem d_T_is_1 : decode (zb m_T_is) 1 = .ok (.getfield 28, 3) := zdal_p dlB_T_is_115 (i := 1) rfl
theorem d_T_is_4 : decode (zb m_T_is) 4 = .ok (.getfield 169, 3) := zdal_p dlB_T_is_115 (i := 2) rfl
theorem d_T_is_7 : decode (zb m_T_is) 7 = .ok (.astore_n 2, 1) := zdal_p dlB_T_is_115 (i := 3) rfl
theorem d_T_is_8 : decode (zb m_T_is) 8 = .ok (.aload_n 2, 1) := zdal_p dlB_T_is_115 (i := 4) rfl
theorem d_T_is_9 : decode (zb m_T_is) 9 = .ok (.iconst 0, 1) := zdal_p dlB_T_is_115 (i := 5) rfl
theorem d_T_is_10 : decode (zb m_T_is) 10 = .ok (.invokevirtual 256, 3) := zdal_p dlB_T_is_115 (i := 6) rfl
theorem d_T_is_13 : decode (zb m_T_is) 13 = .ok (.iload_n 1, 1) := zdal_p dlB_T_is_115 (i := 7) rfl
theorem d_T_is_14 : decode (zb m_T_is) 14 = .ok (.tableswitch 87 0 3 #[30, 44, 59, 74], 30) := zdal_p dlB_T_is_115 (i := 8) rfl
theorem d_T_is_44 : decode (zb m_T_is) 44 = .ok (.aload_n 2, 1) := zdal_p dlB_T_is_115 (i := 9) rfl
theorem d_T_is_45 : decode (zb m_T_is) 45 = .ok (.iconst 0, 1) := zdal_p dlB_T_is_115 (i := 10) rfl
theorem d_T_is_46 : decode (zb m_T_is) 46 = .ok (.invokevirtual 270, 3) := zdal_p dlB_T_is_115 (i := 11) rfl
theorem d_T_is_49 : decode (zb m_T_is) 49 = .ok (.ifCond .eq 7, 3) := zdal_p dlB_T_is_115 (i := 12) rfl
theorem d_T_is_52 : decode (zb m_T_is) 52 = .ok (.iconst 1, 1) := zdal_p dlB_T_is_115 (i := 13) rfl
theorem d_T_is_53 : decode (zb m_T_is) 53 = .ok (.goto 4, 3) := zdal_p dlB_T_is_115 (i := 14) rfl
theorem d_T_is_56 : decode (zb m_T_is) 56 = .ok (.iconst 0, 1) := zdal_p dlB_T_is_115 (i := 15) rfl
theorem d_T_is_57 : decode (zb m_T_is) 57 = .ok (.ireturn, 1) := zdal_p dlB_T_is_115 (i := 16) rfl
theorem d_T_is_58 : decode (zb m_T_is) 58 = .ok (.aload_n 2, 1) := zdal_p dlB_T_is_115 (i := 17) rfl
theorem d_T_is_59 : decode (zb m_T_is) 59 = .ok (.iconst 0, 1) := zdal_p dlB_T_is_115 (i := 18) rfl
theorem d_T_is_60 : decode (zb m_T_is) 60 = .ok (.iconst 1, 1) := zdal_p dlB_T_is_115 (i := 19) rfl
theorem d_T_is_61 : decode (zb m_T_is) 61 = .ok (.invokevirtual 273, 3) := zdal_p dlB_T_is_115 (i := 20) rfl
theorem d_T_is_64 : decode (zb m_T_is) 64 = .ok (.ifCond .eq 7, 3) := zdal_p dlB_T_is_115 (i := 21) rfl
theorem d_T_is_67 : decode (zb m_T_is) 67 = .ok (.iconst 1, 1) := zdal_p dlB_T_is_115 (i := 22) rfl
theorem d_T_is_68 : decode (zb m_T_is) 68 = .ok (.goto 4, 3) := zdal_p dlB_T_is_115 (i := 23) rfl
theorem dlB_T_is_116 : zdal (zb m_T_is) [(71, (.iconst 0, 1)), (72, (.ireturn, 1)), (73, (.aload_n 2, 1)), (74, (.iconst (-1), 1)), (75, (.iconst 1, 1)), (76, (.invokevirtual 273, 3)), (79, (.ifCond .eq 7, 3)), (82, (.iconst 1, 1)), (83, (.goto 4, 3)), (86, (.iconst 0, 1)), (87, (.ireturn, 1)), (88, (.aload_n 2, 1)), (89, (.invokevirtual 277, 3)), (92, (.ifCond .eq 7, 3)), (95, (.iconst 1, 1)), (96, (.goto 4, 3)), (99, (.iconst 0, 1)), (100, (.ireturn, 1)), (101, (.iconst (-1), 1)), (102, (.ireturn, 1))] = true := zDs 71 (by decide +kernel)
theorem d_T_is_71 : decode (zb m_T_is) 71 = .ok (.iconst 0, 1) := zdal_p dlB_T_is_116 (i := 0) rfl
theorem d_T_is_72 : decode (zb m_T_is) 72 = .ok (.ireturn, 1) := zdal_p dlB_T_is_116 (i := 1) rfl
theorem d_T_is_73 : decode (zb m_T_is) 73 = .ok (.aload_n 2, 1) := zdal_p dlB_T_is_116 (i := 2) rfl
theorem d_T_is_74 : decode (zb m_T_is) 74 = .ok (.iconst (-1), 1) := zdal_p dlB_T_is_116 (i := 3) rfl
theorem d_T_is_75 : decode (zb m_T_is) 75 = .ok (.iconst 1, 1) := zdal_p dlB_T_is_116 (i := 4) rfl
theorem d_T_is_76 : decode (zb m_T_is) 76 = .ok (.invokevirtual 273, 3) := zdal_p dlB_T_is_116 (i := 5) rfl
theorem d_T_is_79 : decode (zb m_T_is) 79 = .ok (.ifCond .eq 7, 3) := zdal_p dlB_T_is_116 (i := 6) rfl
theorem d_T_is_82 : decode (zb m_T_is) 82 = .ok (.iconst 1, 1) := zdal_p dlB_T_is_116 (i := 7) rfl
theorem d_T_is_83 : decode (zb m_T_is) 83 = .ok (.goto 4, 3) := zdal_p dlB_T_is_116 (i := 8) rfl
theorem d_T_is_86 : decode (zb m_T_is) 86 = .ok (.iconst 0, 1) := zdal_p dlB_T_is_116 (i := 9) rfl
theorem d_T_is_87 : decode (zb m_T_is) 87 = .ok (.ireturn, 1) := zdal_p dlB_T_is_116 (i := 10) rfl
theorem d_T_is_88 : decode (zb m_T_is) 88 = .ok (.aload_n 2, 1) := zdal_p dlB_T_is_116 (i := 11) rfl
theorem d_T_is_89 : decode (zb m_T_is) 89 = .ok (.invokevirtual 277, 3) := zdal_p dlB_T_is_116 (i := 12) rfl
theorem d_T_is_92 : decode (zb m_T_is) 92 = .ok (.ifCond .eq 7, 3) := zdal_p dlB_T_is_116 (i := 13) rfl
theorem d_T_is_95 : decode (zb m_T_is) 95 = .ok (.iconst 1, 1) := zdal_p dlB_T_is_116 (i := 14) rfl
theorem d_T_is_96 : decode (zb m_T_is) 96 = .ok (.goto 4, 3) := zdal_p dlB_T_is_116 (i := 15) rfl
theorem d_T_is_99 : decode (zb m_T_is) 99 = .ok (.iconst 0, 1) := zdal_p dlB_T_is_116 (i := 16) rfl
theorem d_T_is_100 : decode (zb m_T_is) 100 = .ok (.ireturn, 1) := zdal_p dlB_T_is_116 (i := 17) rfl
theorem d_T_is_101 : decode (zb m_T_is) 101 = .ok (.iconst (-1), 1) := zdal_p dlB_T_is_116 (i := 18) rfl
theorem d_T_is_102 : decode (zb m_T_is) 102 = .ok (.ireturn, 1) := zdal_p dlB_T_is_116 (i := 19) rfl
theorem dlB_Sums_hasNoneBelow_117 : zdal (zb m_Sums_hasNoneBelow) [(0, (.iconst 0, 1)), (1, (.istore_n 2, 1)), (2, (.iload_n 2, 1)), (3, (.aload_n 0, 1)), (4, (.getfield 23, 3)), (7, (.getfield 35, 3)), (10, (.if_icmp .ge 22, 3)), (13, (.aload_n 0, 1)), (14, (.iload_n 1, 1)), (15, (.iload_n 2, 1)), (16, (.invokevirtual 67, 3)), (19, (.lconst 0, 1)), (20, (.lcmp, 1)), (21, (.ifCond .ge 5, 3)), (24, (.iconst 0, 1)), (25, (.ireturn, 1)), (26, (.iinc 2 1, 3)), (29, (.goto (-27), 3)), (32, (.iconst 1, 1)), (33, (.ireturn, 1))] = true := zDs 0 (by decide +kernel)
theorem d_Sums_hasNoneBelow_0 : decode (zb m_Sums_hasNoneBelow) 0 = .ok (.iconst 0, 1) := zdal_p dlB_Sums_hasNoneBelow_117 (i := 0) rfl
theorem d_Sums_hasNoneBelow_1 : decode (zb m_Sums_hasNoneBelow) 1 = .ok (.istore_n 2, 1) := zdal_p dlB_Sums_hasNoneBelow_117 (i := 1) rfl
theorem d_Sums_hasNoneBelow_2 : decode (zb m_Sums_hasNoneBelow) 2 = .ok (.iload_n 2, 1) := zdal_p dlB_Sums_hasNoneBelow_117 (i := 2) rfl
theorem d_Sums_hasNoneBelow_3 : decode (zb m_Sums_hasNoneBelow) 3 = .ok (.aload_n 0, 1) := zdal_p dlB_Sums_hasNoneBelow_117 (i := 3) rfl
theorem d_Sums_hasNoneBelow_4 : decode (zb m_Sums_hasNoneBelow) 4 = .ok (.getfield 23, 3) := zdal_p dlB_Sums_hasNoneBelow_117 (i := 4) rfl
theorem d_Sums_hasNoneBelow_7 : decode (zb m_Sums_hasNoneBelow) 7 = .ok (.getfield 35, 3) := zdal_p dlB_Sums_hasNoneBelow_117 (i := 5) rfl
theorem d_Sums_hasNoneBelow_10 : decode (zb m_Sums_hasNoneBelow) 10 = .ok (.if_icmp .ge 22, 3) := zdal_p dlB_Sums_hasNoneBelow_117 (i := 6) rfl
theorem d_Sums_hasNoneBelow_13 : decode (zb m_Sums_hasNoneBelow) 13 = .ok (.aload_n 0, 1) := zdal_p dlB_Sums_hasNoneBelow_117 (i := 7) rfl
theorem d_Sums_hasNoneBelow_14 : decode (zb m_Sums_hasNoneBelow) 14 = .ok (.iload_n 1, 1) := zdal_p dlB_Sums_hasNoneBelow_117 (i := 8) rfl
theorem d_Sums_hasNoneBelow_15 : decode (zb m_Sums_hasNoneBelow) 15 = .ok (.iload_n 2, 1) := zdal_p dlB_Sums_hasNoneBelow_117 (i := 9) rfl
theorem d_Sums_hasNoneBelow_16 : decode (zb m_Sums_hasNoneBelow) 16 = .ok (.invokevirtual 67, 3) := zdal_p dlB_Sums_hasNoneBelow_117 (i := 10) rfl
theorem d_Sums_hasNoneBelow_19 : decode (zb m_Sums_hasNoneBelow) 19 = .ok (.lconst 0, 1) := zdal_p dlB_Sums_hasNoneBelow_117 (i := 11) rfl
theorem d_Sums_hasNoneBelow_20 : decode (zb m_Sums_hasNoneBelow) 20 = .ok (.lcmp, 1) := zdal_p dlB_Sums_hasNoneBelow_117 (i := 12) rfl
theorem d_Sums_hasNoneBelow_21 : decode (zb m_Sums_hasNoneBelow) 21 = .ok (.ifCond .ge 5, 3) := zdal_p dlB_Sums_hasNoneBelow_117 (i := 13) rfl
theorem d_Sums_hasNoneBelow_24 : decode (zb m_Sums_hasNoneBelow) 24 = .ok (.iconst 0, 1) := zdal_p dlB_Sums_hasNoneBelow_117 (i := 14) rfl
theorem d_Sums_hasNoneBelow_25 : decode (zb m_Sums_hasNoneBelow) 25 = .ok (.ireturn, 1) := zdal_p dlB_Sums_hasNoneBelow_117 (i := 15) rfl
theorem d_Sums_hasNoneBelow_26 : decode (zb m_Sums_hasNoneBelow) 26 = .ok (.iinc 2 1, 3) := zdal_p dlB_Sums_hasNoneBelow_117 (i := 16) rfl
theorem d_Sums_hasNoneBelow_29 : decode (zb m_Sums_hasNoneBelow) 29 = .ok (.goto (-27), 3) := zdal_p dlB_Sums_hasNoneBelow_117 (i := 17) rfl
theorem d_Sums_hasNoneBelow_32 : decode (zb m_Sums_hasNoneBelow) 32 = .ok (.iconst 1, 1) := zdal_p dlB_Sums_hasNoneBelow_117 (i := 18) rfl
theorem d_Sums_hasNoneBelow_33 : decode (zb m_Sums_hasNoneBelow) 33 = .ok (.ireturn, 1) := zdal_p dlB_Sums_hasNoneBelow_117 (i := 19) rfl
theorem dlB_Sums_marksAre_118 : zdal (zb m_Sums_marksAre) [(0, (.iconst 0, 1)), (1, (.istore_n 3, 1)), (2, (.iload_n 3, 1)), (3, (.aload_n 0, 1)), (4, (.getfield 23, 3)), (7, (.getfield 35, 3)), (10, (.if_icmp .ge 39, 3)), (13, (.aload_n 0, 1)), (14, (.getfield 20, 3)), (17, (.iload_n 3, 1)), (18, (.invokevirtual 27, 3)), (21, (.iload_n 1, 1)), (22, (.i2l, 1)), (23, (.lcmp, 1)), (24, (.ifCond .eq 19, 3)), (27, (.aload_n 0, 1)), (28, (.getfield 20, 3)), (31, (.iload_n 3, 1)), (32, (.invokevirtual 27, 3)), (35, (.iload_n 2, 1)), (36, (.i2l, 1)), (37, (.lcmp, 1)), (38, (.ifCond .eq 5, 3)), (41, (.iconst 0, 1))] = true := zDs 0 (by decide +kernel)
theorem d_Sums_marksAre_0 : decode (zb m_Sums_marksAre) 0 = .ok (.iconst 0, 1) := zdal_p dlB_Sums_marksAre_118 (i := 0) rfl
theorem d_Sums_marksAre_1 : decode (zb m_Sums_marksAre) 1 = .ok (.istore_n 3, 1) := zdal_p dlB_Sums_marksAre_118 (i := 1) rfl
theorem d_Sums_marksAre_2 : decode (zb m_Sums_marksAre) 2 = .ok (.iload_n 3, 1) := zdal_p dlB_Sums_marksAre_118 (i := 2) rfl
theorem d_Sums_marksAre_3 : decode (zb m_Sums_marksAre) 3 = .ok (.aload_n 0, 1) := zdal_p dlB_Sums_marksAre_118 (i := 3) rfl
theorem d_Sums_marksAre_4 : decode (zb m_Sums_marksAre) 4 = .ok (.getfield 23, 3) := zdal_p dlB_Sums_marksAre_118 (i := 4) rfl
theorem d_Sums_marksAre_7 : decode (zb m_Sums_marksAre) 7 = .ok (.getfield 35, 3) := zdal_p dlB_Sums_marksAre_118 (i := 5) rfl
theorem d_Sums_marksAre_10 : decode (zb m_Sums_marksAre) 10 = .ok (.if_icmp .ge 39, 3) := zdal_p dlB_Sums_marksAre_118 (i := 6) rfl
theorem d_Sums_marksAre_13 : decode (zb m_Sums_marksAre) 13 = .ok (.aload_n 0, 1) := zdal_p dlB_Sums_marksAre_118 (i := 7) rfl
theorem d_Sums_marksAre_14 : decode (zb m_Sums_marksAre) 14 = .ok (.getfield 20, 3) := zdal_p dlB_Sums_marksAre_118 (i := 8) rfl
theorem d_Sums_marksAre_17 : decode (zb m_Sums_marksAre) 17 = .ok (.iload_n 3, 1) := zdal_p dlB_Sums_marksAre_118 (i := 9) rfl
theorem d_Sums_marksAre_18 : decode (zb m_Sums_marksAre) 18 = .ok (.invokevirtual 27, 3) := zdal_p dlB_Sums_marksAre_118 (i := 10) rfl
theorem d_Sums_marksAre_21 : decode (zb m_Sums_marksAre) 21 = .ok (.iload_n 1, 1) := zdal_p dlB_Sums_marksAre_118 (i := 11) rfl
theorem d_Sums_marksAre_22 : decode (zb m_Sums_marksAre) 22 = .ok (.i2l, 1) := zdal_p dlB_Sums_marksAre_118 (i := 12) rfl
theorem d_Sums_marksAre_23 : decode (zb m_Sums_marksAre) 23 = .ok (.lcmp, 1) := zdal_p dlB_Sums_marksAre_118 (i := 13) rfl
theorem d_Sums_marksAre_24 : decode (zb m_Sums_marksAre) 24 = .ok (.ifCond .eq 19, 3) := zdal_p dlB_Sums_marksAre_118 (i := 14) rfl
theorem d_Sums_marksAre_27 : decode (zb m_Sums_marksAre) 27 = .ok (.aload_n 0, 1) := zdal_p dlB_Sums_marksAre_118 (i := 15) rfl
theorem d_Sums_marksAre_28 : decode (zb m_Sums_marksAre) 28 = .ok (.getfield 20, 3) := zdal_p dlB_Sums_marksAre_118 (i := 16) rfl
theorem d_Sums_marksAre_31 : decode (zb m_Sums_marksAre) 31 = .ok (.iload_n 3, 1) := zdal_p dlB_Sums_marksAre_118 (i := 17) rfl
theorem d_Sums_marksAre_32 : decode (zb m_Sums_marksAre) 32 = .ok (.invokevirtual 27, 3) := zdal_p dlB_Sums_marksAre_118 (i := 18) rfl
theorem d_Sums_marksAre_35 : decode (zb m_Sums_marksAre) 35 = .ok (.iload_n 2, 1) := zdal_p dlB_Sums_marksAre_118 (i := 19) rfl
theorem d_Sums_marksAre_36 : decode (zb m_Sums_marksAre) 36 = .ok (.i2l, 1) := zdal_p dlB_Sums_marksAre_118 (i := 20) rfl
theorem d_Sums_marksAre_37 : decode (zb m_Sums_marksAre) 37 = .ok (.lcmp, 1) := zdal_p dlB_Sums_marksAre_118 (i := 21) rfl
theorem d_Sums_marksAre_38 : decode (zb m_Sums_marksAre) 38 = .ok (.ifCond .eq 5, 3) := zdal_p dlB_Sums_marksAre_118 (i := 22) rfl
theorem d_Sums_marksAre_41 : decode (zb m_Sums_marksAre) 41 = .ok (.iconst 0, 1) := zdal_p dlB_Sums_marksAre_118 (i := 23) rfl
theorem dlB_Sums_marksAre_119 : zdal (zb m_Sums_marksAre) [(42, (.ireturn, 1)), (43, (.iinc 3 1, 3)), (46, (.goto (-44), 3)), (49, (.iconst 1, 1)), (50, (.ireturn, 1))] = true := zDs 42 (by decide +kernel)
theorem d_Sums_marksAre_42 : decode (zb m_Sums_marksAre) 42 = .ok (.ireturn, 1) := zdal_p dlB_Sums_marksAre_119 (i := 0) rfl
theorem d_Sums_marksAre_43 : decode (zb m_Sums_marksAre) 43 = .ok (.iinc 3 1, 3) := zdal_p dlB_Sums_marksAre_119 (i := 1) rfl
theorem d_Sums_marksAre_46 : decode (zb m_Sums_marksAre) 46 = .ok (.goto (-44), 3) := zdal_p dlB_Sums_marksAre_119 (i := 2) rfl
theorem d_Sums_marksAre_49 : decode (zb m_Sums_marksAre) 49 = .ok (.iconst 1, 1) := zdal_p dlB_Sums_marksAre_119 (i := 3) rfl
theorem d_Sums_marksAre_50 : decode (zb m_Sums_marksAre) 50 = .ok (.ireturn, 1) := zdal_p dlB_Sums_marksAre_119 (i := 4) rfl
theorem dlB_Sums_hasMarkNought_120 : zdal (zb m_Sums_hasMarkNought) [(0, (.iconst 0, 1)), (1, (.istore_n 1, 1)), (2, (.iload_n 1, 1)), (3, (.aload_n 0, 1)), (4, (.getfield 23, 3)), (7, (.getfield 35, 3)), (10, (.if_icmp .ge 24, 3)), (13, (.aload_n 0, 1)), (14, (.getfield 20, 3)), (17, (.iload_n 1, 1)), (18, (.invokevirtual 27, 3)), (21, (.lconst 0, 1)), (22, (.lcmp, 1)), (23, (.ifCond .ne 5, 3)), (26, (.iconst 1, 1)), (27, (.ireturn, 1)), (28, (.iinc 1 1, 3)), (31, (.goto (-29), 3)), (34, (.iconst 0, 1)), (35, (.ireturn, 1))] = true := zDs 0 (by decide +kernel)
theorem d_Sums_hasMarkNought_0 : decode (zb m_Sums_hasMarkNought) 0 = .ok (.iconst 0, 1) := zdal_p dlB_Sums_hasMarkNought_120 (i := 0) rfl
theorem d_Sums_hasMarkNought_1 : decode (zb m_Sums_hasMarkNought) 1 = .ok (.istore_n 1, 1) := zdal_p dlB_Sums_hasMarkNought_120 (i := 1) rfl
theorem d_Sums_hasMarkNought_2 : decode (zb m_Sums_hasMarkNought) 2 = .ok (.iload_n 1, 1) := zdal_p dlB_Sums_hasMarkNought_120 (i := 2) rfl
theorem d_Sums_hasMarkNought_3 : decode (zb m_Sums_hasMarkNought) 3 = .ok (.aload_n 0, 1) := zdal_p dlB_Sums_hasMarkNought_120 (i := 3) rfl
theorem d_Sums_hasMarkNought_4 : decode (zb m_Sums_hasMarkNought) 4 = .ok (.getfield 23, 3) := zdal_p dlB_Sums_hasMarkNought_120 (i := 4) rfl
theorem d_Sums_hasMarkNought_7 : decode (zb m_Sums_hasMarkNought) 7 = .ok (.getfield 35, 3) := zdal_p dlB_Sums_hasMarkNought_120 (i := 5) rfl
theorem d_Sums_hasMarkNought_10 : decode (zb m_Sums_hasMarkNought) 10 = .ok (.if_icmp .ge 24, 3) := zdal_p dlB_Sums_hasMarkNought_120 (i := 6) rfl
theorem d_Sums_hasMarkNought_13 : decode (zb m_Sums_hasMarkNought) 13 = .ok (.aload_n 0, 1) := zdal_p dlB_Sums_hasMarkNought_120 (i := 7) rfl
theorem d_Sums_hasMarkNought_14 : decode (zb m_Sums_hasMarkNought) 14 = .ok (.getfield 20, 3) := zdal_p dlB_Sums_hasMarkNought_120 (i := 8) rfl
theorem d_Sums_hasMarkNought_17 : decode (zb m_Sums_hasMarkNought) 17 = .ok (.iload_n 1, 1) := zdal_p dlB_Sums_hasMarkNought_120 (i := 9) rfl
theorem d_Sums_hasMarkNought_18 : decode (zb m_Sums_hasMarkNought) 18 = .ok (.invokevirtual 27, 3) := zdal_p dlB_Sums_hasMarkNought_120 (i := 10) rfl
theorem d_Sums_hasMarkNought_21 : decode (zb m_Sums_hasMarkNought) 21 = .ok (.lconst 0, 1) := zdal_p dlB_Sums_hasMarkNought_120 (i := 11) rfl
theorem d_Sums_hasMarkNought_22 : decode (zb m_Sums_hasMarkNought) 22 = .ok (.lcmp, 1) := zdal_p dlB_Sums_hasMarkNought_120 (i := 12) rfl
theorem d_Sums_hasMarkNought_23 : decode (zb m_Sums_hasMarkNought) 23 = .ok (.ifCond .ne 5, 3) := zdal_p dlB_Sums_hasMarkNought_120 (i := 13) rfl
theorem d_Sums_hasMarkNought_26 : decode (zb m_Sums_hasMarkNought) 26 = .ok (.iconst 1, 1) := zdal_p dlB_Sums_hasMarkNought_120 (i := 14) rfl
theorem d_Sums_hasMarkNought_27 : decode (zb m_Sums_hasMarkNought) 27 = .ok (.ireturn, 1) := zdal_p dlB_Sums_hasMarkNought_120 (i := 15) rfl
theorem d_Sums_hasMarkNought_28 : decode (zb m_Sums_hasMarkNought) 28 = .ok (.iinc 1 1, 3) := zdal_p dlB_Sums_hasMarkNought_120 (i := 16) rfl
theorem d_Sums_hasMarkNought_31 : decode (zb m_Sums_hasMarkNought) 31 = .ok (.goto (-29), 3) := zdal_p dlB_Sums_hasMarkNought_120 (i := 17) rfl
theorem d_Sums_hasMarkNought_34 : decode (zb m_Sums_hasMarkNought) 34 = .ok (.iconst 0, 1) := zdal_p dlB_Sums_hasMarkNought_120 (i := 18) rfl
theorem d_Sums_hasMarkNought_35 : decode (zb m_Sums_hasMarkNought) 35 = .ok (.ireturn, 1) := zdal_p dlB_Sums_hasMarkNought_120 (i := 19) rfl
theorem dlB_T_makes_121 : zdal (zb m_T_makes) [(0, (.aload_n 0, 1)), (1, (.getfield 21, 3)), (4, (.invokevirtual 49, 3)), (7, (.aload_n 0, 1)), (8, (.getfield 21, 3)), (11, (.aload_n 0, 1)), (12, (.getfield 28, 3)), (15, (.invokevirtual 281, 3)), (18, (.istore_n 1, 1)), (19, (.aload_n 0, 1)), (20, (.getfield 10, 3)), (23, (.iconst 0, 1)), (24, (.putfield 42, 3)), (27, (.iload_n 1, 1)), (28, (.ifCond .ne 5, 3)), (31, (.iconst (-1), 1)), (32, (.ireturn, 1)), (33, (.aload_n 0, 1)), (34, (.getfield 28, 3)), (37, (.bipush 21, 2)), (39, (.invokevirtual 284, 3)), (42, (.aload_n 0, 1)), (43, (.getfield 28, 3)), (46, (.getfield 169, 3))] = true := zDs 0 (by decide +kernel)
theorem d_T_makes_0 : decode (zb m_T_makes) 0 = .ok (.aload_n 0, 1) := zdal_p dlB_T_makes_121 (i := 0) rfl
theorem d_T_makes_1 : decode (zb m_T_makes) 1 = .ok (.getfield 21, 3) := zdal_p dlB_T_makes_121 (i := 1) rfl
theorem d_T_makes_4 : decode (zb m_T_makes) 4 = .ok (.invokevirtual 49, 3) := zdal_p dlB_T_makes_121 (i := 2) rfl
theorem d_T_makes_7 : decode (zb m_T_makes) 7 = .ok (.aload_n 0, 1) := zdal_p dlB_T_makes_121 (i := 3) rfl
theorem d_T_makes_8 : decode (zb m_T_makes) 8 = .ok (.getfield 21, 3) := zdal_p dlB_T_makes_121 (i := 4) rfl
theorem d_T_makes_11 : decode (zb m_T_makes) 11 = .ok (.aload_n 0, 1) := zdal_p dlB_T_makes_121 (i := 5) rfl
theorem d_T_makes_12 : decode (zb m_T_makes) 12 = .ok (.getfield 28, 3) := zdal_p dlB_T_makes_121 (i := 6) rfl
theorem d_T_makes_15 : decode (zb m_T_makes) 15 = .ok (.invokevirtual 281, 3) := zdal_p dlB_T_makes_121 (i := 7) rfl
theorem d_T_makes_18 : decode (zb m_T_makes) 18 = .ok (.istore_n 1, 1) := zdal_p dlB_T_makes_121 (i := 8) rfl
theorem d_T_makes_19 : decode (zb m_T_makes) 19 = .ok (.aload_n 0, 1) := zdal_p dlB_T_makes_121 (i := 9) rfl
theorem d_T_makes_20 : decode (zb m_T_makes) 20 = .ok (.getfield 10, 3) := zdal_p dlB_T_makes_121 (i := 10) rfl
theorem d_T_makes_23 : decode (zb m_T_makes) 23 = .ok (.iconst 0, 1) := zdal_p dlB_T_makes_121 (i := 11) rfl
theorem d_T_makes_24 : decode (zb m_T_makes) 24 = .ok (.putfield 42, 3) := zdal_p dlB_T_makes_121 (i := 12) rfl
theorem d_T_makes_27 : decode (zb m_T_makes) 27 = .ok (.iload_n 1, 1) := zdal_p dlB_T_makes_121 (i := 13) rfl
theorem d_T_makes_28 : decode (zb m_T_makes) 28 = .ok (.ifCond .ne 5, 3) := zdal_p dlB_T_makes_121 (i := 14) rfl
theorem d_T_makes_31 : decode (zb m_T_makes) 31 = .ok (.iconst (-1), 1) := zdal_p dlB_T_makes_121 (i := 15) rfl
theorem d_T_makes_32 : decode (zb m_T_makes) 32 = .ok (.ireturn, 1) := zdal_p dlB_T_makes_121 (i := 16) rfl
theorem d_T_makes_33 : decode (zb m_T_makes) 33 = .ok (.aload_n 0, 1) := zdal_p dlB_T_makes_121 (i := 17) rfl
theorem d_T_makes_34 : decode (zb m_T_makes) 34 = .ok (.getfield 28, 3) := zdal_p dlB_T_makes_121 (i := 18) rfl
theorem d_T_makes_37 : decode (zb m_T_makes) 37 = .ok (.bipush 21, 2) := zdal_p dlB_T_makes_121 (i := 19) rfl
theorem d_T_makes_39 : decode (zb m_T_makes) 39 = .ok (.invokevirtual 284, 3) := zdal_p dlB_T_makes_121 (i := 20) rfl
theorem d_T_makes_42 : decode (zb m_T_makes) 42 = .ok (.aload_n 0, 1) := zdal_p dlB_T_makes_121 (i := 21) rfl
theorem d_T_makes_43 : decode (zb m_T_makes) 43 = .ok (.getfield 28, 3) := zdal_p dlB_T_makes_121 (i := 22) rfl
theorem d_T_makes_46 : decode (zb m_T_makes) 46 = .ok (.getfield 169, 3) := zdal_p dlB_T_makes_121 (i := 23) rfl
theorem dlB_T_makes_122 : zdal (zb m_T_makes) [(49, (.iconst 0, 1)), (50, (.invokevirtual 253, 3)), (53, (.ireturn, 1))] = true := zDs 49 (by decide +kernel)
theorem d_T_makes_49 : decode (zb m_T_makes) 49 = .ok (.iconst 0, 1) := zdal_p dlB_T_makes_122 (i := 0) rfl
theorem d_T_makes_50 : decode (zb m_T_makes) 50 = .ok (.invokevirtual 253, 3) := zdal_p dlB_T_makes_122 (i := 1) rfl
theorem d_T_makes_53 : decode (zb m_T_makes) 53 = .ok (.ireturn, 1) := zdal_p dlB_T_makes_122 (i := 2) rfl
theorem dlB_Reader_readWhole_123 : zdal (zb m_Reader_readWhole) [(0, (.aload_n 0, 1)), (1, (.aload_n 1, 1)), (2, (.invokevirtual 107, 3)), (5, (.ifCond .ne 5, 3)), (8, (.iconst 0, 1)), (9, (.ireturn, 1)), (10, (.aload_n 0, 1)), (11, (.getfield 15, 3)), (14, (.getfield 27, 3)), (17, (.ifCond .eq 9, 3)), (20, (.aload_n 0, 1)), (21, (.iconst 2, 1)), (22, (.invokevirtual 41, 3)), (25, (.ireturn, 1)), (26, (.aload_n 1, 1)), (27, (.getfield 111, 3)), (30, (.getfield 115, 3)), (33, (.ifCond .eq 13, 3)), (36, (.aload_n 0, 1)), (37, (.bipush 6, 2)), (39, (.iconst 0, 1)), (40, (.invokevirtual 33, 3)), (43, (.ifCond .eq 7, 3)), (46, (.iconst 1, 1))] = true := zDs 0 (by decide +kernel)
theorem d_Reader_readWhole_0 : decode (zb m_Reader_readWhole) 0 = .ok (.aload_n 0, 1) := zdal_p dlB_Reader_readWhole_123 (i := 0) rfl
theorem d_Reader_readWhole_1 : decode (zb m_Reader_readWhole) 1 = .ok (.aload_n 1, 1) := zdal_p dlB_Reader_readWhole_123 (i := 1) rfl
theorem d_Reader_readWhole_2 : decode (zb m_Reader_readWhole) 2 = .ok (.invokevirtual 107, 3) := zdal_p dlB_Reader_readWhole_123 (i := 2) rfl
theorem d_Reader_readWhole_5 : decode (zb m_Reader_readWhole) 5 = .ok (.ifCond .ne 5, 3) := zdal_p dlB_Reader_readWhole_123 (i := 3) rfl
theorem d_Reader_readWhole_8 : decode (zb m_Reader_readWhole) 8 = .ok (.iconst 0, 1) := zdal_p dlB_Reader_readWhole_123 (i := 4) rfl
theorem d_Reader_readWhole_9 : decode (zb m_Reader_readWhole) 9 = .ok (.ireturn, 1) := zdal_p dlB_Reader_readWhole_123 (i := 5) rfl
theorem d_Reader_readWhole_10 : decode (zb m_Reader_readWhole) 10 = .ok (.aload_n 0, 1) := zdal_p dlB_Reader_readWhole_123 (i := 6) rfl
theorem d_Reader_readWhole_11 : decode (zb m_Reader_readWhole) 11 = .ok (.getfield 15, 3) := zdal_p dlB_Reader_readWhole_123 (i := 7) rfl
theorem d_Reader_readWhole_14 : decode (zb m_Reader_readWhole) 14 = .ok (.getfield 27, 3) := zdal_p dlB_Reader_readWhole_123 (i := 8) rfl
theorem d_Reader_readWhole_17 : decode (zb m_Reader_readWhole) 17 = .ok (.ifCond .eq 9, 3) := zdal_p dlB_Reader_readWhole_123 (i := 9) rfl
theorem d_Reader_readWhole_20 : decode (zb m_Reader_readWhole) 20 = .ok (.aload_n 0, 1) := zdal_p dlB_Reader_readWhole_123 (i := 10) rfl
theorem d_Reader_readWhole_21 : decode (zb m_Reader_readWhole) 21 = .ok (.iconst 2, 1) := zdal_p dlB_Reader_readWhole_123 (i := 11) rfl
theorem d_Reader_readWhole_22 : decode (zb m_Reader_readWhole) 22 = .ok (.invokevirtual 41, 3) := zdal_p dlB_Reader_readWhole_123 (i := 12) rfl
theorem d_Reader_readWhole_25 : decode (zb m_Reader_readWhole) 25 = .ok (.ireturn, 1) := zdal_p dlB_Reader_readWhole_123 (i := 13) rfl
theorem d_Reader_readWhole_26 : decode (zb m_Reader_readWhole) 26 = .ok (.aload_n 1, 1) := zdal_p dlB_Reader_readWhole_123 (i := 14) rfl
theorem d_Reader_readWhole_27 : decode (zb m_Reader_readWhole) 27 = .ok (.getfield 111, 3) := zdal_p dlB_Reader_readWhole_123 (i := 15) rfl
theorem d_Reader_readWhole_30 : decode (zb m_Reader_readWhole) 30 = .ok (.getfield 115, 3) := zdal_p dlB_Reader_readWhole_123 (i := 16) rfl
theorem d_Reader_readWhole_33 : decode (zb m_Reader_readWhole) 33 = .ok (.ifCond .eq 13, 3) := zdal_p dlB_Reader_readWhole_123 (i := 17) rfl
theorem d_Reader_readWhole_36 : decode (zb m_Reader_readWhole) 36 = .ok (.aload_n 0, 1) := zdal_p dlB_Reader_readWhole_123 (i := 18) rfl
theorem d_Reader_readWhole_37 : decode (zb m_Reader_readWhole) 37 = .ok (.bipush 6, 2) := zdal_p dlB_Reader_readWhole_123 (i := 19) rfl
theorem d_Reader_readWhole_39 : decode (zb m_Reader_readWhole) 39 = .ok (.iconst 0, 1) := zdal_p dlB_Reader_readWhole_123 (i := 20) rfl
theorem d_Reader_readWhole_40 : decode (zb m_Reader_readWhole) 40 = .ok (.invokevirtual 33, 3) := zdal_p dlB_Reader_readWhole_123 (i := 21) rfl
theorem d_Reader_readWhole_43 : decode (zb m_Reader_readWhole) 43 = .ok (.ifCond .eq 7, 3) := zdal_p dlB_Reader_readWhole_123 (i := 22) rfl
theorem d_Reader_readWhole_46 : decode (zb m_Reader_readWhole) 46 = .ok (.iconst 1, 1) := zdal_p dlB_Reader_readWhole_123 (i := 23) rfl
theorem dlB_Reader_readWhole_124 : zdal (zb m_Reader_readWhole) [(47, (.goto 4, 3)), (50, (.iconst 0, 1)), (51, (.ireturn, 1))] = true := zDs 47 (by decide +kernel)
theorem d_Reader_readWhole_47 : decode (zb m_Reader_readWhole) 47 = .ok (.goto 4, 3) := zdal_p dlB_Reader_readWhole_124 (i := 0) rfl
theorem d_Reader_readWhole_50 : decode (zb m_Reader_readWhole) 50 = .ok (.iconst 0, 1) := zdal_p dlB_Reader_readWhole_124 (i := 1) rfl
theorem d_Reader_readWhole_51 : decode (zb m_Reader_readWhole) 51 = .ok (.ireturn, 1) := zdal_p dlB_Reader_readWhole_124 (i := 2) rfl
theorem dlB_Troupe_become_125 : zdal (zb m_Troupe_become) [(0, (.aload_n 0, 1)), (1, (.getfield 32, 3)), (4, (.iconst 0, 1)), (5, (.bipush 9, 2)), (7, (.aload_n 0, 1)), (8, (.getfield 71, 3)), (11, (.iadd, 1)), (12, (.invokevirtual 93, 3)), (15, (.aload_n 0, 1)), (16, (.aload_n 0, 1)), (17, (.getfield 71, 3)), (20, (.iconst 1, 1)), (21, (.iadd, 1)), (22, (.bipush 12, 2)), (24, (.irem, 1)), (25, (.putfield 71, 3)), (28, (.aload_n 0, 1)), (29, (.aload_n 0, 1)), (30, (.getfield 68, 3)), (33, (.iconst 1, 1)), (34, (.iadd, 1)), (35, (.bipush 12, 2)), (37, (.invokestatic 96, 3)), (40, (.putfield 68, 3))] = true := zDs 0 (by decide +kernel)
theorem d_Troupe_become_0 : decode (zb m_Troupe_become) 0 = .ok (.aload_n 0, 1) := zdal_p dlB_Troupe_become_125 (i := 0) rfl
theorem d_Troupe_become_1 : decode (zb m_Troupe_become) 1 = .ok (.getfield 32, 3) := zdal_p dlB_Troupe_become_125 (i := 1) rfl
theorem d_Troupe_become_4 : decode (zb m_Troupe_become) 4 = .ok (.iconst 0, 1) := zdal_p dlB_Troupe_become_125 (i := 2) rfl
theorem d_Troupe_become_5 : decode (zb m_Troupe_become) 5 = .ok (.bipush 9, 2) := zdal_p dlB_Troupe_become_125 (i := 3) rfl
theorem d_Troupe_become_7 : decode (zb m_Troupe_become) 7 = .ok (.aload_n 0, 1) := zdal_p dlB_Troupe_become_125 (i := 4) rfl
theorem d_Troupe_become_8 : decode (zb m_Troupe_become) 8 = .ok (.getfield 71, 3) := zdal_p dlB_Troupe_become_125 (i := 5) rfl
theorem d_Troupe_become_11 : decode (zb m_Troupe_become) 11 = .ok (.iadd, 1) := zdal_p dlB_Troupe_become_125 (i := 6) rfl
theorem d_Troupe_become_12 : decode (zb m_Troupe_become) 12 = .ok (.invokevirtual 93, 3) := zdal_p dlB_Troupe_become_125 (i := 7) rfl
theorem d_Troupe_become_15 : decode (zb m_Troupe_become) 15 = .ok (.aload_n 0, 1) := zdal_p dlB_Troupe_become_125 (i := 8) rfl
theorem d_Troupe_become_16 : decode (zb m_Troupe_become) 16 = .ok (.aload_n 0, 1) := zdal_p dlB_Troupe_become_125 (i := 9) rfl
theorem d_Troupe_become_17 : decode (zb m_Troupe_become) 17 = .ok (.getfield 71, 3) := zdal_p dlB_Troupe_become_125 (i := 10) rfl
theorem d_Troupe_become_20 : decode (zb m_Troupe_become) 20 = .ok (.iconst 1, 1) := zdal_p dlB_Troupe_become_125 (i := 11) rfl
theorem d_Troupe_become_21 : decode (zb m_Troupe_become) 21 = .ok (.iadd, 1) := zdal_p dlB_Troupe_become_125 (i := 12) rfl
theorem d_Troupe_become_22 : decode (zb m_Troupe_become) 22 = .ok (.bipush 12, 2) := zdal_p dlB_Troupe_become_125 (i := 13) rfl
theorem d_Troupe_become_24 : decode (zb m_Troupe_become) 24 = .ok (.irem, 1) := zdal_p dlB_Troupe_become_125 (i := 14) rfl
theorem d_Troupe_become_25 : decode (zb m_Troupe_become) 25 = .ok (.putfield 71, 3) := zdal_p dlB_Troupe_become_125 (i := 15) rfl
theorem d_Troupe_become_28 : decode (zb m_Troupe_become) 28 = .ok (.aload_n 0, 1) := zdal_p dlB_Troupe_become_125 (i := 16) rfl
theorem d_Troupe_become_29 : decode (zb m_Troupe_become) 29 = .ok (.aload_n 0, 1) := zdal_p dlB_Troupe_become_125 (i := 17) rfl
theorem d_Troupe_become_30 : decode (zb m_Troupe_become) 30 = .ok (.getfield 68, 3) := zdal_p dlB_Troupe_become_125 (i := 18) rfl
theorem d_Troupe_become_33 : decode (zb m_Troupe_become) 33 = .ok (.iconst 1, 1) := zdal_p dlB_Troupe_become_125 (i := 19) rfl
theorem d_Troupe_become_34 : decode (zb m_Troupe_become) 34 = .ok (.iadd, 1) := zdal_p dlB_Troupe_become_125 (i := 20) rfl
theorem d_Troupe_become_35 : decode (zb m_Troupe_become) 35 = .ok (.bipush 12, 2) := zdal_p dlB_Troupe_become_125 (i := 21) rfl
theorem d_Troupe_become_37 : decode (zb m_Troupe_become) 37 = .ok (.invokestatic 96, 3) := zdal_p dlB_Troupe_become_125 (i := 22) rfl
theorem d_Troupe_become_40 : decode (zb m_Troupe_become) 40 = .ok (.putfield 68, 3) := zdal_p dlB_Troupe_become_125 (i := 23) rfl
theorem dlB_Troupe_become_126 : zdal (zb m_Troupe_become) [(43, (.aload_n 0, 1)), (44, (.getfield 32, 3)), (47, (.iload_n 1, 1)), (48, (.iconst 0, 1)), (49, (.invokevirtual 93, 3)), (52, (.return_, 1))] = true := zDs 43 (by decide +kernel)
theorem d_Troupe_become_43 : decode (zb m_Troupe_become) 43 = .ok (.aload_n 0, 1) := zdal_p dlB_Troupe_become_126 (i := 0) rfl
theorem d_Troupe_become_44 : decode (zb m_Troupe_become) 44 = .ok (.getfield 32, 3) := zdal_p dlB_Troupe_become_126 (i := 1) rfl
theorem d_Troupe_become_47 : decode (zb m_Troupe_become) 47 = .ok (.iload_n 1, 1) := zdal_p dlB_Troupe_become_126 (i := 2) rfl
theorem d_Troupe_become_48 : decode (zb m_Troupe_become) 48 = .ok (.iconst 0, 1) := zdal_p dlB_Troupe_become_126 (i := 3) rfl
theorem d_Troupe_become_49 : decode (zb m_Troupe_become) 49 = .ok (.invokevirtual 93, 3) := zdal_p dlB_Troupe_become_126 (i := 4) rfl
theorem d_Troupe_become_52 : decode (zb m_Troupe_become) 52 = .ok (.return_, 1) := zdal_p dlB_Troupe_become_126 (i := 5) rfl
theorem dlB_T_take_127 : zdal (zb m_T_take) [(0, (.iload_n 2, 1)), (1, (.ifCond .lt 13, 3)), (4, (.iload_n 2, 1)), (5, (.bipush 6, 2)), (7, (.if_icmp .gt 7, 3)), (10, (.iconst 1, 1)), (11, (.goto 4, 3)), (14, (.iconst 0, 1)), (15, (.istore_n 3, 1)), (16, (.iload_n 1, 1)), (17, (.ifCond .eq 19, 3)), (20, (.iload_n 3, 1)), (21, (.ifCond .eq 13, 3)), (24, (.iload_n 1, 1)), (25, (.iconst 1, 1)), (26, (.if_icmp .eq 10, 3)), (29, (.iload_n 1, 1)), (30, (.iconst 2, 1)), (31, (.if_icmp .eq 5, 3)), (34, (.iconst (-1), 1)), (35, (.ireturn, 1)), (36, (.iconst 0, 1)), (37, (.istore 4, 2)), (39, (.iload 4, 2))] = true := zDs 0 (by decide +kernel)
theorem d_T_take_0 : decode (zb m_T_take) 0 = .ok (.iload_n 2, 1) := zdal_p dlB_T_take_127 (i := 0) rfl
theorem d_T_take_1 : decode (zb m_T_take) 1 = .ok (.ifCond .lt 13, 3) := zdal_p dlB_T_take_127 (i := 1) rfl
theorem d_T_take_4 : decode (zb m_T_take) 4 = .ok (.iload_n 2, 1) := zdal_p dlB_T_take_127 (i := 2) rfl
theorem d_T_take_5 : decode (zb m_T_take) 5 = .ok (.bipush 6, 2) := zdal_p dlB_T_take_127 (i := 3) rfl
theorem d_T_take_7 : decode (zb m_T_take) 7 = .ok (.if_icmp .gt 7, 3) := zdal_p dlB_T_take_127 (i := 4) rfl
theorem d_T_take_10 : decode (zb m_T_take) 10 = .ok (.iconst 1, 1) := zdal_p dlB_T_take_127 (i := 5) rfl
theorem d_T_take_11 : decode (zb m_T_take) 11 = .ok (.goto 4, 3) := zdal_p dlB_T_take_127 (i := 6) rfl
theorem d_T_take_14 : decode (zb m_T_take) 14 = .ok (.iconst 0, 1) := zdal_p dlB_T_take_127 (i := 7) rfl
theorem d_T_take_15 : decode (zb m_T_take) 15 = .ok (.istore_n 3, 1) := zdal_p dlB_T_take_127 (i := 8) rfl
theorem d_T_take_16 : decode (zb m_T_take) 16 = .ok (.iload_n 1, 1) := zdal_p dlB_T_take_127 (i := 9) rfl
theorem d_T_take_17 : decode (zb m_T_take) 17 = .ok (.ifCond .eq 19, 3) := zdal_p dlB_T_take_127 (i := 10) rfl
theorem d_T_take_20 : decode (zb m_T_take) 20 = .ok (.iload_n 3, 1) := zdal_p dlB_T_take_127 (i := 11) rfl
theorem d_T_take_21 : decode (zb m_T_take) 21 = .ok (.ifCond .eq 13, 3) := zdal_p dlB_T_take_127 (i := 12) rfl
theorem d_T_take_24 : decode (zb m_T_take) 24 = .ok (.iload_n 1, 1) := zdal_p dlB_T_take_127 (i := 13) rfl
theorem d_T_take_25 : decode (zb m_T_take) 25 = .ok (.iconst 1, 1) := zdal_p dlB_T_take_127 (i := 14) rfl
theorem d_T_take_26 : decode (zb m_T_take) 26 = .ok (.if_icmp .eq 10, 3) := zdal_p dlB_T_take_127 (i := 15) rfl
theorem d_T_take_29 : decode (zb m_T_take) 29 = .ok (.iload_n 1, 1) := zdal_p dlB_T_take_127 (i := 16) rfl
theorem d_T_take_30 : decode (zb m_T_take) 30 = .ok (.iconst 2, 1) := zdal_p dlB_T_take_127 (i := 17) rfl
theorem d_T_take_31 : decode (zb m_T_take) 31 = .ok (.if_icmp .eq 5, 3) := zdal_p dlB_T_take_127 (i := 18) rfl
theorem d_T_take_34 : decode (zb m_T_take) 34 = .ok (.iconst (-1), 1) := zdal_p dlB_T_take_127 (i := 19) rfl
theorem d_T_take_35 : decode (zb m_T_take) 35 = .ok (.ireturn, 1) := zdal_p dlB_T_take_127 (i := 20) rfl
theorem d_T_take_36 : decode (zb m_T_take) 36 = .ok (.iconst 0, 1) := zdal_p dlB_T_take_127 (i := 21) rfl
theorem d_T_take_37 : decode (zb m_T_take) 37 = .ok (.istore 4, 2) := zdal_p dlB_T_take_127 (i := 22) rfl
theorem d_T_take_39 : decode (zb m_T_take) 39 = .ok (.iload 4, 2) := zdal_p dlB_T_take_127 (i := 23) rfl
theorem dlB_T_take_128 : zdal (zb m_T_take) [(41, (.aload_n 0, 1)), (42, (.getfield 28, 3)), (45, (.getfield 85, 3)), (48, (.getfield 94, 3)), (51, (.if_icmp .ge 52, 3)), (54, (.aload_n 0, 1)), (55, (.getfield 28, 3)), (58, (.getfield 169, 3)), (61, (.getfield 262, 3)), (64, (.iload 4, 2)), (66, (.aload_n 0, 1)), (67, (.getfield 28, 3)), (70, (.getfield 61, 3)), (73, (.iload_n 1, 1)), (74, (.iload_n 2, 1)), (75, (.aload_n 0, 1)), (76, (.getfield 28, 3)), (79, (.getfield 85, 3)), (82, (.getfield 146, 3)), (85, (.iload 4, 2)), (87, (.invokevirtual 118, 3)), (90, (.invokevirtual 287, 3)), (93, (.i2l, 1)), (94, (.invokevirtual 290, 3))] = true := zDs 41 (by decide +kernel)
theorem d_T_take_41 : decode (zb m_T_take) 41 = .ok (.aload_n 0, 1) := zdal_p dlB_T_take_128 (i := 0) rfl
theorem d_T_take_42 : decode (zb m_T_take) 42 = .ok (.getfield 28, 3) := zdal_p dlB_T_take_128 (i := 1) rfl
theorem d_T_take_45 : decode (zb m_T_take) 45 = .ok (.getfield 85, 3) := zdal_p dlB_T_take_128 (i := 2) rfl
theorem d_T_take_48 : decode (zb m_T_take) 48 = .ok (.getfield 94, 3) := zdal_p dlB_T_take_128 (i := 3) rfl
theorem d_T_take_51 : decode (zb m_T_take) 51 = .ok (.if_icmp .ge 52, 3) := zdal_p dlB_T_take_128 (i := 4) rfl
theorem d_T_take_54 : decode (zb m_T_take) 54 = .ok (.aload_n 0, 1) := zdal_p dlB_T_take_128 (i := 5) rfl
theorem d_T_take_55 : decode (zb m_T_take) 55 = .ok (.getfield 28, 3) := zdal_p dlB_T_take_128 (i := 6) rfl
theorem d_T_take_58 : decode (zb m_T_take) 58 = .ok (.getfield 169, 3) := zdal_p dlB_T_take_128 (i := 7) rfl
theorem d_T_take_61 : decode (zb m_T_take) 61 = .ok (.getfield 262, 3) := zdal_p dlB_T_take_128 (i := 8) rfl
theorem d_T_take_64 : decode (zb m_T_take) 64 = .ok (.iload 4, 2) := zdal_p dlB_T_take_128 (i := 9) rfl
theorem d_T_take_66 : decode (zb m_T_take) 66 = .ok (.aload_n 0, 1) := zdal_p dlB_T_take_128 (i := 10) rfl
theorem d_T_take_67 : decode (zb m_T_take) 67 = .ok (.getfield 28, 3) := zdal_p dlB_T_take_128 (i := 11) rfl
theorem d_T_take_70 : decode (zb m_T_take) 70 = .ok (.getfield 61, 3) := zdal_p dlB_T_take_128 (i := 12) rfl
theorem d_T_take_73 : decode (zb m_T_take) 73 = .ok (.iload_n 1, 1) := zdal_p dlB_T_take_128 (i := 13) rfl
theorem d_T_take_74 : decode (zb m_T_take) 74 = .ok (.iload_n 2, 1) := zdal_p dlB_T_take_128 (i := 14) rfl
theorem d_T_take_75 : decode (zb m_T_take) 75 = .ok (.aload_n 0, 1) := zdal_p dlB_T_take_128 (i := 15) rfl
theorem d_T_take_76 : decode (zb m_T_take) 76 = .ok (.getfield 28, 3) := zdal_p dlB_T_take_128 (i := 16) rfl
theorem d_T_take_79 : decode (zb m_T_take) 79 = .ok (.getfield 85, 3) := zdal_p dlB_T_take_128 (i := 17) rfl
theorem d_T_take_82 : decode (zb m_T_take) 82 = .ok (.getfield 146, 3) := zdal_p dlB_T_take_128 (i := 18) rfl
theorem d_T_take_85 : decode (zb m_T_take) 85 = .ok (.iload 4, 2) := zdal_p dlB_T_take_128 (i := 19) rfl
theorem d_T_take_87 : decode (zb m_T_take) 87 = .ok (.invokevirtual 118, 3) := zdal_p dlB_T_take_128 (i := 20) rfl
theorem d_T_take_90 : decode (zb m_T_take) 90 = .ok (.invokevirtual 287, 3) := zdal_p dlB_T_take_128 (i := 21) rfl
theorem d_T_take_93 : decode (zb m_T_take) 93 = .ok (.i2l, 1) := zdal_p dlB_T_take_128 (i := 22) rfl
theorem d_T_take_94 : decode (zb m_T_take) 94 = .ok (.invokevirtual 290, 3) := zdal_p dlB_T_take_128 (i := 23) rfl
theorem dlB_T_take_129 : zdal (zb m_T_take) [(97, (.iinc 4 1, 3)), (100, (.goto (-61), 3)), (103, (.aload_n 0, 1)), (104, (.getfield 28, 3)), (107, (.getfield 169, 3)), (110, (.bipush 39, 2)), (112, (.invokevirtual 296, 3)), (115, (.aload_n 0, 1)), (116, (.getfield 28, 3)), (119, (.bipush 39, 2)), (121, (.invokevirtual 284, 3)), (124, (.aload_n 0, 1)), (125, (.getfield 28, 3)), (128, (.getfield 169, 3)), (131, (.iconst 0, 1)), (132, (.iconst 0, 1)), (133, (.invokevirtual 250, 3)), (136, (.l2i, 1)), (137, (.ireturn, 1))] = true := zDs 97 (by decide +kernel)
theorem d_T_take_97 : decode (zb m_T_take) 97 = .ok (.iinc 4 1, 3) := zdal_p dlB_T_take_129 (i := 0) rfl
theorem d_T_take_100 : decode (zb m_T_take) 100 = .ok (.goto (-61), 3) := zdal_p dlB_T_take_129 (i := 1) rfl
theorem d_T_take_103 : decode (zb m_T_take) 103 = .ok (.aload_n 0, 1) := zdal_p dlB_T_take_129 (i := 2) rfl
theorem d_T_take_104 : decode (zb m_T_take) 104 = .ok (.getfield 28, 3) := zdal_p dlB_T_take_129 (i := 3) rfl
theorem d_T_take_107 : decode (zb m_T_take) 107 = .ok (.getfield 169, 3) := zdal_p dlB_T_take_129 (i := 4) rfl
theorem d_T_take_110 : decode (zb m_T_take) 110 = .ok (.bipush 39, 2) := zdal_p dlB_T_take_129 (i := 5) rfl
theorem d_T_take_112 : decode (zb m_T_take) 112 = .ok (.invokevirtual 296, 3) := zdal_p dlB_T_take_129 (i := 6) rfl
theorem d_T_take_115 : decode (zb m_T_take) 115 = .ok (.aload_n 0, 1) := zdal_p dlB_T_take_129 (i := 7) rfl
theorem d_T_take_116 : decode (zb m_T_take) 116 = .ok (.getfield 28, 3) := zdal_p dlB_T_take_129 (i := 8) rfl
theorem d_T_take_119 : decode (zb m_T_take) 119 = .ok (.bipush 39, 2) := zdal_p dlB_T_take_129 (i := 9) rfl
theorem d_T_take_121 : decode (zb m_T_take) 121 = .ok (.invokevirtual 284, 3) := zdal_p dlB_T_take_129 (i := 10) rfl
theorem d_T_take_124 : decode (zb m_T_take) 124 = .ok (.aload_n 0, 1) := zdal_p dlB_T_take_129 (i := 11) rfl
theorem d_T_take_125 : decode (zb m_T_take) 125 = .ok (.getfield 28, 3) := zdal_p dlB_T_take_129 (i := 12) rfl
theorem d_T_take_128 : decode (zb m_T_take) 128 = .ok (.getfield 169, 3) := zdal_p dlB_T_take_129 (i := 13) rfl
theorem d_T_take_131 : decode (zb m_T_take) 131 = .ok (.iconst 0, 1) := zdal_p dlB_T_take_129 (i := 14) rfl
theorem d_T_take_132 : decode (zb m_T_take) 132 = .ok (.iconst 0, 1) := zdal_p dlB_T_take_129 (i := 15) rfl
theorem d_T_take_133 : decode (zb m_T_take) 133 = .ok (.invokevirtual 250, 3) := zdal_p dlB_T_take_129 (i := 16) rfl
theorem d_T_take_136 : decode (zb m_T_take) 136 = .ok (.l2i, 1) := zdal_p dlB_T_take_129 (i := 17) rfl
theorem d_T_take_137 : decode (zb m_T_take) 137 = .ok (.ireturn, 1) := zdal_p dlB_T_take_129 (i := 18) rfl
theorem dlB_Group_countKept_130 : zdal (zb m_Group_countKept) [(0, (.iconst 0, 1)), (1, (.istore 4, 2)), (3, (.iconst 0, 1)), (4, (.istore 5, 2)), (6, (.iconst 0, 1)), (7, (.istore 6, 2)), (9, (.iload 6, 2)), (11, (.aload_n 0, 1)), (12, (.getfield 32, 3)), (15, (.if_icmp .ge 46, 3)), (18, (.aload_n 0, 1)), (19, (.iload 6, 2)), (21, (.iload_n 3, 1)), (22, (.invokevirtual 103, 3)), (25, (.istore 7, 2)), (27, (.iload 7, 2)), (29, (.iconst 1, 1)), (30, (.iload 6, 2)), (32, (.ishl, 1)), (33, (.if_icmp .ne 6, 3)), (36, (.iinc 4 1, 3)), (39, (.iload 7, 2)), (41, (.iload 7, 2)), (43, (.ineg, 1))] = true := zDs 0 (by decide +kernel)
theorem d_Group_countKept_0 : decode (zb m_Group_countKept) 0 = .ok (.iconst 0, 1) := zdal_p dlB_Group_countKept_130 (i := 0) rfl
theorem d_Group_countKept_1 : decode (zb m_Group_countKept) 1 = .ok (.istore 4, 2) := zdal_p dlB_Group_countKept_130 (i := 1) rfl
theorem d_Group_countKept_3 : decode (zb m_Group_countKept) 3 = .ok (.iconst 0, 1) := zdal_p dlB_Group_countKept_130 (i := 2) rfl
theorem d_Group_countKept_4 : decode (zb m_Group_countKept) 4 = .ok (.istore 5, 2) := zdal_p dlB_Group_countKept_130 (i := 3) rfl
theorem d_Group_countKept_6 : decode (zb m_Group_countKept) 6 = .ok (.iconst 0, 1) := zdal_p dlB_Group_countKept_130 (i := 4) rfl
theorem d_Group_countKept_7 : decode (zb m_Group_countKept) 7 = .ok (.istore 6, 2) := zdal_p dlB_Group_countKept_130 (i := 5) rfl
theorem d_Group_countKept_9 : decode (zb m_Group_countKept) 9 = .ok (.iload 6, 2) := zdal_p dlB_Group_countKept_130 (i := 6) rfl
theorem d_Group_countKept_11 : decode (zb m_Group_countKept) 11 = .ok (.aload_n 0, 1) := zdal_p dlB_Group_countKept_130 (i := 7) rfl
theorem d_Group_countKept_12 : decode (zb m_Group_countKept) 12 = .ok (.getfield 32, 3) := zdal_p dlB_Group_countKept_130 (i := 8) rfl
theorem d_Group_countKept_15 : decode (zb m_Group_countKept) 15 = .ok (.if_icmp .ge 46, 3) := zdal_p dlB_Group_countKept_130 (i := 9) rfl
theorem d_Group_countKept_18 : decode (zb m_Group_countKept) 18 = .ok (.aload_n 0, 1) := zdal_p dlB_Group_countKept_130 (i := 10) rfl
theorem d_Group_countKept_19 : decode (zb m_Group_countKept) 19 = .ok (.iload 6, 2) := zdal_p dlB_Group_countKept_130 (i := 11) rfl
theorem d_Group_countKept_21 : decode (zb m_Group_countKept) 21 = .ok (.iload_n 3, 1) := zdal_p dlB_Group_countKept_130 (i := 12) rfl
theorem d_Group_countKept_22 : decode (zb m_Group_countKept) 22 = .ok (.invokevirtual 103, 3) := zdal_p dlB_Group_countKept_130 (i := 13) rfl
theorem d_Group_countKept_25 : decode (zb m_Group_countKept) 25 = .ok (.istore 7, 2) := zdal_p dlB_Group_countKept_130 (i := 14) rfl
theorem d_Group_countKept_27 : decode (zb m_Group_countKept) 27 = .ok (.iload 7, 2) := zdal_p dlB_Group_countKept_130 (i := 15) rfl
theorem d_Group_countKept_29 : decode (zb m_Group_countKept) 29 = .ok (.iconst 1, 1) := zdal_p dlB_Group_countKept_130 (i := 16) rfl
theorem d_Group_countKept_30 : decode (zb m_Group_countKept) 30 = .ok (.iload 6, 2) := zdal_p dlB_Group_countKept_130 (i := 17) rfl
theorem d_Group_countKept_32 : decode (zb m_Group_countKept) 32 = .ok (.ishl, 1) := zdal_p dlB_Group_countKept_130 (i := 18) rfl
theorem d_Group_countKept_33 : decode (zb m_Group_countKept) 33 = .ok (.if_icmp .ne 6, 3) := zdal_p dlB_Group_countKept_130 (i := 19) rfl
theorem d_Group_countKept_36 : decode (zb m_Group_countKept) 36 = .ok (.iinc 4 1, 3) := zdal_p dlB_Group_countKept_130 (i := 20) rfl
theorem d_Group_countKept_39 : decode (zb m_Group_countKept) 39 = .ok (.iload 7, 2) := zdal_p dlB_Group_countKept_130 (i := 21) rfl
theorem d_Group_countKept_41 : decode (zb m_Group_countKept) 41 = .ok (.iload 7, 2) := zdal_p dlB_Group_countKept_130 (i := 22) rfl
theorem d_Group_countKept_43 : decode (zb m_Group_countKept) 43 = .ok (.ineg, 1) := zdal_p dlB_Group_countKept_130 (i := 23) rfl
theorem dlB_Group_countKept_131 : zdal (zb m_Group_countKept) [(44, (.iand, 1)), (45, (.iconst 1, 1)), (46, (.iload 6, 2)), (48, (.ishl, 1)), (49, (.if_icmp .ne 6, 3)), (52, (.iinc 5 1, 3)), (55, (.iinc 6 1, 3)), (58, (.goto (-49), 3)), (61, (.iload_n 1, 1)), (62, (.ifCond .ne 6, 3)), (65, (.iload 4, 2)), (67, (.ireturn, 1)), (68, (.iload_n 1, 1)), (69, (.iconst 1, 1)), (70, (.if_icmp .ne 12, 3)), (73, (.aload_n 0, 1)), (74, (.iload_n 2, 1)), (75, (.iload_n 3, 1)), (76, (.invokevirtual 106, 3)), (79, (.goto 9, 3)), (82, (.iload_n 2, 1)), (83, (.iload 5, 2)), (85, (.invokestatic 109, 3)), (88, (.ireturn, 1))] = true := zDs 44 (by decide +kernel)
theorem d_Group_countKept_44 : decode (zb m_Group_countKept) 44 = .ok (.iand, 1) := zdal_p dlB_Group_countKept_131 (i := 0) rfl
theorem d_Group_countKept_45 : decode (zb m_Group_countKept) 45 = .ok (.iconst 1, 1) := zdal_p dlB_Group_countKept_131 (i := 1) rfl
theorem d_Group_countKept_46 : decode (zb m_Group_countKept) 46 = .ok (.iload 6, 2) := zdal_p dlB_Group_countKept_131 (i := 2) rfl
theorem d_Group_countKept_48 : decode (zb m_Group_countKept) 48 = .ok (.ishl, 1) := zdal_p dlB_Group_countKept_131 (i := 3) rfl
theorem d_Group_countKept_49 : decode (zb m_Group_countKept) 49 = .ok (.if_icmp .ne 6, 3) := zdal_p dlB_Group_countKept_131 (i := 4) rfl
theorem d_Group_countKept_52 : decode (zb m_Group_countKept) 52 = .ok (.iinc 5 1, 3) := zdal_p dlB_Group_countKept_131 (i := 5) rfl
theorem d_Group_countKept_55 : decode (zb m_Group_countKept) 55 = .ok (.iinc 6 1, 3) := zdal_p dlB_Group_countKept_131 (i := 6) rfl
theorem d_Group_countKept_58 : decode (zb m_Group_countKept) 58 = .ok (.goto (-49), 3) := zdal_p dlB_Group_countKept_131 (i := 7) rfl
theorem d_Group_countKept_61 : decode (zb m_Group_countKept) 61 = .ok (.iload_n 1, 1) := zdal_p dlB_Group_countKept_131 (i := 8) rfl
theorem d_Group_countKept_62 : decode (zb m_Group_countKept) 62 = .ok (.ifCond .ne 6, 3) := zdal_p dlB_Group_countKept_131 (i := 9) rfl
theorem d_Group_countKept_65 : decode (zb m_Group_countKept) 65 = .ok (.iload 4, 2) := zdal_p dlB_Group_countKept_131 (i := 10) rfl
theorem d_Group_countKept_67 : decode (zb m_Group_countKept) 67 = .ok (.ireturn, 1) := zdal_p dlB_Group_countKept_131 (i := 11) rfl
theorem d_Group_countKept_68 : decode (zb m_Group_countKept) 68 = .ok (.iload_n 1, 1) := zdal_p dlB_Group_countKept_131 (i := 12) rfl
theorem d_Group_countKept_69 : decode (zb m_Group_countKept) 69 = .ok (.iconst 1, 1) := zdal_p dlB_Group_countKept_131 (i := 13) rfl
theorem d_Group_countKept_70 : decode (zb m_Group_countKept) 70 = .ok (.if_icmp .ne 12, 3) := zdal_p dlB_Group_countKept_131 (i := 14) rfl
theorem d_Group_countKept_73 : decode (zb m_Group_countKept) 73 = .ok (.aload_n 0, 1) := zdal_p dlB_Group_countKept_131 (i := 15) rfl
theorem d_Group_countKept_74 : decode (zb m_Group_countKept) 74 = .ok (.iload_n 2, 1) := zdal_p dlB_Group_countKept_131 (i := 16) rfl
theorem d_Group_countKept_75 : decode (zb m_Group_countKept) 75 = .ok (.iload_n 3, 1) := zdal_p dlB_Group_countKept_131 (i := 17) rfl
theorem d_Group_countKept_76 : decode (zb m_Group_countKept) 76 = .ok (.invokevirtual 106, 3) := zdal_p dlB_Group_countKept_131 (i := 18) rfl
theorem d_Group_countKept_79 : decode (zb m_Group_countKept) 79 = .ok (.goto 9, 3) := zdal_p dlB_Group_countKept_131 (i := 19) rfl
theorem d_Group_countKept_82 : decode (zb m_Group_countKept) 82 = .ok (.iload_n 2, 1) := zdal_p dlB_Group_countKept_131 (i := 20) rfl
theorem d_Group_countKept_83 : decode (zb m_Group_countKept) 83 = .ok (.iload 5, 2) := zdal_p dlB_Group_countKept_131 (i := 21) rfl
theorem d_Group_countKept_85 : decode (zb m_Group_countKept) 85 = .ok (.invokestatic 109, 3) := zdal_p dlB_Group_countKept_131 (i := 22) rfl
theorem d_Group_countKept_88 : decode (zb m_Group_countKept) 88 = .ok (.ireturn, 1) := zdal_p dlB_Group_countKept_131 (i := 23) rfl
theorem dlB_Group_countSetsKept_132 : zdal (zb m_Group_countSetsKept) [(0, (.iconst 0, 1)), (1, (.istore_n 3, 1)), (2, (.iconst 0, 1)), (3, (.istore 4, 2)), (5, (.iload 4, 2)), (7, (.iconst 1, 1)), (8, (.aload_n 0, 1)), (9, (.getfield 32, 3)), (12, (.ishl, 1)), (13, (.if_icmp .ge 31, 3)), (16, (.iload 4, 2)), (18, (.invokestatic 83, 3)), (21, (.iload_n 1, 1)), (22, (.if_icmp .ne 16, 3)), (25, (.aload_n 0, 1)), (26, (.iload 4, 2)), (28, (.iload_n 2, 1)), (29, (.invokevirtual 112, 3)), (32, (.ifCond .eq 6, 3)), (35, (.iinc 3 1, 3)), (38, (.iinc 4 1, 3)), (41, (.goto (-36), 3)), (44, (.iload_n 3, 1)), (45, (.ireturn, 1))] = true := zDs 0 (by decide +kernel)
theorem d_Group_countSetsKept_0 : decode (zb m_Group_countSetsKept) 0 = .ok (.iconst 0, 1) := zdal_p dlB_Group_countSetsKept_132 (i := 0) rfl
theorem d_Group_countSetsKept_1 : decode (zb m_Group_countSetsKept) 1 = .ok (.istore_n 3, 1) := zdal_p dlB_Group_countSetsKept_132 (i := 1) rfl
theorem d_Group_countSetsKept_2 : decode (zb m_Group_countSetsKept) 2 = .ok (.iconst 0, 1) := zdal_p dlB_Group_countSetsKept_132 (i := 2) rfl
theorem d_Group_countSetsKept_3 : decode (zb m_Group_countSetsKept) 3 = .ok (.istore 4, 2) := zdal_p dlB_Group_countSetsKept_132 (i := 3) rfl
theorem d_Group_countSetsKept_5 : decode (zb m_Group_countSetsKept) 5 = .ok (.iload 4, 2) := zdal_p dlB_Group_countSetsKept_132 (i := 4) rfl
theorem d_Group_countSetsKept_7 : decode (zb m_Group_countSetsKept) 7 = .ok (.iconst 1, 1) := zdal_p dlB_Group_countSetsKept_132 (i := 5) rfl
theorem d_Group_countSetsKept_8 : decode (zb m_Group_countSetsKept) 8 = .ok (.aload_n 0, 1) := zdal_p dlB_Group_countSetsKept_132 (i := 6) rfl
theorem d_Group_countSetsKept_9 : decode (zb m_Group_countSetsKept) 9 = .ok (.getfield 32, 3) := zdal_p dlB_Group_countSetsKept_132 (i := 7) rfl
theorem d_Group_countSetsKept_12 : decode (zb m_Group_countSetsKept) 12 = .ok (.ishl, 1) := zdal_p dlB_Group_countSetsKept_132 (i := 8) rfl
theorem d_Group_countSetsKept_13 : decode (zb m_Group_countSetsKept) 13 = .ok (.if_icmp .ge 31, 3) := zdal_p dlB_Group_countSetsKept_132 (i := 9) rfl
theorem d_Group_countSetsKept_16 : decode (zb m_Group_countSetsKept) 16 = .ok (.iload 4, 2) := zdal_p dlB_Group_countSetsKept_132 (i := 10) rfl
theorem d_Group_countSetsKept_18 : decode (zb m_Group_countSetsKept) 18 = .ok (.invokestatic 83, 3) := zdal_p dlB_Group_countSetsKept_132 (i := 11) rfl
theorem d_Group_countSetsKept_21 : decode (zb m_Group_countSetsKept) 21 = .ok (.iload_n 1, 1) := zdal_p dlB_Group_countSetsKept_132 (i := 12) rfl
theorem d_Group_countSetsKept_22 : decode (zb m_Group_countSetsKept) 22 = .ok (.if_icmp .ne 16, 3) := zdal_p dlB_Group_countSetsKept_132 (i := 13) rfl
theorem d_Group_countSetsKept_25 : decode (zb m_Group_countSetsKept) 25 = .ok (.aload_n 0, 1) := zdal_p dlB_Group_countSetsKept_132 (i := 14) rfl
theorem d_Group_countSetsKept_26 : decode (zb m_Group_countSetsKept) 26 = .ok (.iload 4, 2) := zdal_p dlB_Group_countSetsKept_132 (i := 15) rfl
theorem d_Group_countSetsKept_28 : decode (zb m_Group_countSetsKept) 28 = .ok (.iload_n 2, 1) := zdal_p dlB_Group_countSetsKept_132 (i := 16) rfl
theorem d_Group_countSetsKept_29 : decode (zb m_Group_countSetsKept) 29 = .ok (.invokevirtual 112, 3) := zdal_p dlB_Group_countSetsKept_132 (i := 17) rfl
theorem d_Group_countSetsKept_32 : decode (zb m_Group_countSetsKept) 32 = .ok (.ifCond .eq 6, 3) := zdal_p dlB_Group_countSetsKept_132 (i := 18) rfl
theorem d_Group_countSetsKept_35 : decode (zb m_Group_countSetsKept) 35 = .ok (.iinc 3 1, 3) := zdal_p dlB_Group_countSetsKept_132 (i := 19) rfl
theorem d_Group_countSetsKept_38 : decode (zb m_Group_countSetsKept) 38 = .ok (.iinc 4 1, 3) := zdal_p dlB_Group_countSetsKept_132 (i := 20) rfl
theorem d_Group_countSetsKept_41 : decode (zb m_Group_countSetsKept) 41 = .ok (.goto (-36), 3) := zdal_p dlB_Group_countSetsKept_132 (i := 21) rfl
theorem d_Group_countSetsKept_44 : decode (zb m_Group_countSetsKept) 44 = .ok (.iload_n 3, 1) := zdal_p dlB_Group_countSetsKept_132 (i := 22) rfl
theorem d_Group_countSetsKept_45 : decode (zb m_Group_countSetsKept) 45 = .ok (.ireturn, 1) := zdal_p dlB_Group_countSetsKept_132 (i := 23) rfl
theorem dlB_Group_isSetKept_133 : zdal (zb m_Group_isSetKept) [(0, (.iconst 0, 1)), (1, (.istore_n 3, 1)), (2, (.iload_n 3, 1)), (3, (.aload_n 0, 1)), (4, (.getfield 32, 3)), (7, (.if_icmp .ge 32, 3)), (10, (.iload_n 1, 1)), (11, (.iload_n 3, 1)), (12, (.invokestatic 73, 3)), (15, (.ifCond .eq 18, 3)), (18, (.aload_n 0, 1)), (19, (.iload_n 3, 1)), (20, (.iload_n 2, 1)), (21, (.invokevirtual 103, 3)), (24, (.iload_n 1, 1)), (25, (.invokestatic 115, 3)), (28, (.ifCond .ne 5, 3)), (31, (.iconst 0, 1)), (32, (.ireturn, 1)), (33, (.iinc 3 1, 3)), (36, (.goto (-34), 3)), (39, (.iconst 1, 1)), (40, (.ireturn, 1))] = true := zDs 0 (by decide +kernel)
theorem d_Group_isSetKept_0 : decode (zb m_Group_isSetKept) 0 = .ok (.iconst 0, 1) := zdal_p dlB_Group_isSetKept_133 (i := 0) rfl
theorem d_Group_isSetKept_1 : decode (zb m_Group_isSetKept) 1 = .ok (.istore_n 3, 1) := zdal_p dlB_Group_isSetKept_133 (i := 1) rfl
theorem d_Group_isSetKept_2 : decode (zb m_Group_isSetKept) 2 = .ok (.iload_n 3, 1) := zdal_p dlB_Group_isSetKept_133 (i := 2) rfl
theorem d_Group_isSetKept_3 : decode (zb m_Group_isSetKept) 3 = .ok (.aload_n 0, 1) := zdal_p dlB_Group_isSetKept_133 (i := 3) rfl
theorem d_Group_isSetKept_4 : decode (zb m_Group_isSetKept) 4 = .ok (.getfield 32, 3) := zdal_p dlB_Group_isSetKept_133 (i := 4) rfl
theorem d_Group_isSetKept_7 : decode (zb m_Group_isSetKept) 7 = .ok (.if_icmp .ge 32, 3) := zdal_p dlB_Group_isSetKept_133 (i := 5) rfl
theorem d_Group_isSetKept_10 : decode (zb m_Group_isSetKept) 10 = .ok (.iload_n 1, 1) := zdal_p dlB_Group_isSetKept_133 (i := 6) rfl
theorem d_Group_isSetKept_11 : decode (zb m_Group_isSetKept) 11 = .ok (.iload_n 3, 1) := zdal_p dlB_Group_isSetKept_133 (i := 7) rfl
theorem d_Group_isSetKept_12 : decode (zb m_Group_isSetKept) 12 = .ok (.invokestatic 73, 3) := zdal_p dlB_Group_isSetKept_133 (i := 8) rfl
theorem d_Group_isSetKept_15 : decode (zb m_Group_isSetKept) 15 = .ok (.ifCond .eq 18, 3) := zdal_p dlB_Group_isSetKept_133 (i := 9) rfl
theorem d_Group_isSetKept_18 : decode (zb m_Group_isSetKept) 18 = .ok (.aload_n 0, 1) := zdal_p dlB_Group_isSetKept_133 (i := 10) rfl
theorem d_Group_isSetKept_19 : decode (zb m_Group_isSetKept) 19 = .ok (.iload_n 3, 1) := zdal_p dlB_Group_isSetKept_133 (i := 11) rfl
theorem d_Group_isSetKept_20 : decode (zb m_Group_isSetKept) 20 = .ok (.iload_n 2, 1) := zdal_p dlB_Group_isSetKept_133 (i := 12) rfl
theorem d_Group_isSetKept_21 : decode (zb m_Group_isSetKept) 21 = .ok (.invokevirtual 103, 3) := zdal_p dlB_Group_isSetKept_133 (i := 13) rfl
theorem d_Group_isSetKept_24 : decode (zb m_Group_isSetKept) 24 = .ok (.iload_n 1, 1) := zdal_p dlB_Group_isSetKept_133 (i := 14) rfl
theorem d_Group_isSetKept_25 : decode (zb m_Group_isSetKept) 25 = .ok (.invokestatic 115, 3) := zdal_p dlB_Group_isSetKept_133 (i := 15) rfl
theorem d_Group_isSetKept_28 : decode (zb m_Group_isSetKept) 28 = .ok (.ifCond .ne 5, 3) := zdal_p dlB_Group_isSetKept_133 (i := 16) rfl
theorem d_Group_isSetKept_31 : decode (zb m_Group_isSetKept) 31 = .ok (.iconst 0, 1) := zdal_p dlB_Group_isSetKept_133 (i := 17) rfl
theorem d_Group_isSetKept_32 : decode (zb m_Group_isSetKept) 32 = .ok (.ireturn, 1) := zdal_p dlB_Group_isSetKept_133 (i := 18) rfl
theorem d_Group_isSetKept_33 : decode (zb m_Group_isSetKept) 33 = .ok (.iinc 3 1, 3) := zdal_p dlB_Group_isSetKept_133 (i := 19) rfl
theorem d_Group_isSetKept_36 : decode (zb m_Group_isSetKept) 36 = .ok (.goto (-34), 3) := zdal_p dlB_Group_isSetKept_133 (i := 20) rfl
theorem d_Group_isSetKept_39 : decode (zb m_Group_isSetKept) 39 = .ok (.iconst 1, 1) := zdal_p dlB_Group_isSetKept_133 (i := 21) rfl
theorem d_Group_isSetKept_40 : decode (zb m_Group_isSetKept) 40 = .ok (.ireturn, 1) := zdal_p dlB_Group_isSetKept_133 (i := 22) rfl
theorem dlB_Group_power_134 : zdal (zb m_Group_power) [(0, (.iconst 1, 1)), (1, (.istore_n 2, 1)), (2, (.iconst 0, 1)), (3, (.istore_n 3, 1)), (4, (.iload_n 3, 1)), (5, (.iload_n 1, 1)), (6, (.if_icmp .ge 13, 3)), (9, (.iload_n 2, 1)), (10, (.iload_n 0, 1)), (11, (.imul, 1)), (12, (.istore_n 2, 1)), (13, (.iinc 3 1, 3)), (16, (.goto (-12), 3)), (19, (.iload_n 2, 1)), (20, (.ireturn, 1))] = true := zDs 0 (by decide +kernel)
theorem d_Group_power_0 : decode (zb m_Group_power) 0 = .ok (.iconst 1, 1) := zdal_p dlB_Group_power_134 (i := 0) rfl
theorem d_Group_power_1 : decode (zb m_Group_power) 1 = .ok (.istore_n 2, 1) := zdal_p dlB_Group_power_134 (i := 1) rfl
theorem d_Group_power_2 : decode (zb m_Group_power) 2 = .ok (.iconst 0, 1) := zdal_p dlB_Group_power_134 (i := 2) rfl
theorem d_Group_power_3 : decode (zb m_Group_power) 3 = .ok (.istore_n 3, 1) := zdal_p dlB_Group_power_134 (i := 3) rfl
theorem d_Group_power_4 : decode (zb m_Group_power) 4 = .ok (.iload_n 3, 1) := zdal_p dlB_Group_power_134 (i := 4) rfl
theorem d_Group_power_5 : decode (zb m_Group_power) 5 = .ok (.iload_n 1, 1) := zdal_p dlB_Group_power_134 (i := 5) rfl
theorem d_Group_power_6 : decode (zb m_Group_power) 6 = .ok (.if_icmp .ge 13, 3) := zdal_p dlB_Group_power_134 (i := 6) rfl
theorem d_Group_power_9 : decode (zb m_Group_power) 9 = .ok (.iload_n 2, 1) := zdal_p dlB_Group_power_134 (i := 7) rfl
theorem d_Group_power_10 : decode (zb m_Group_power) 10 = .ok (.iload_n 0, 1) := zdal_p dlB_Group_power_134 (i := 8) rfl
theorem d_Group_power_11 : decode (zb m_Group_power) 11 = .ok (.imul, 1) := zdal_p dlB_Group_power_134 (i := 9) rfl
theorem d_Group_power_12 : decode (zb m_Group_power) 12 = .ok (.istore_n 2, 1) := zdal_p dlB_Group_power_134 (i := 10) rfl
theorem d_Group_power_13 : decode (zb m_Group_power) 13 = .ok (.iinc 3 1, 3) := zdal_p dlB_Group_power_134 (i := 11) rfl
theorem d_Group_power_16 : decode (zb m_Group_power) 16 = .ok (.goto (-12), 3) := zdal_p dlB_Group_power_134 (i := 12) rfl
theorem d_Group_power_19 : decode (zb m_Group_power) 19 = .ok (.iload_n 2, 1) := zdal_p dlB_Group_power_134 (i := 13) rfl
theorem d_Group_power_20 : decode (zb m_Group_power) 20 = .ok (.ireturn, 1) := zdal_p dlB_Group_power_134 (i := 14) rfl
theorem dlB_T_marks_135 : zdal (zb m_T_marks) [(0, (.aload_n 0, 1)), (1, (.getfield 21, 3)), (4, (.aload_n 0, 1)), (5, (.getfield 28, 3)), (8, (.getfield 169, 3)), (11, (.getfield 262, 3)), (14, (.aload_n 0, 1)), (15, (.getfield 28, 3)), (18, (.getfield 85, 3)), (21, (.getfield 94, 3)), (24, (.invokevirtual 299, 3)), (27, (.istore_n 1, 1)), (28, (.aload_n 0, 1)), (29, (.getfield 10, 3)), (32, (.iconst 0, 1)), (33, (.putfield 42, 3)), (36, (.iload_n 1, 1)), (37, (.ifCond .ne 6, 3)), (40, (.bipush (-2), 2)), (42, (.ireturn, 1)), (43, (.aload_n 0, 1)), (44, (.getfield 28, 3)), (47, (.getfield 85, 3)), (50, (.aload_n 0, 1))] = true := zDs 0 (by decide +kernel)
theorem d_T_marks_0 : decode (zb m_T_marks) 0 = .ok (.aload_n 0, 1) := zdal_p dlB_T_marks_135 (i := 0) rfl
theorem d_T_marks_1 : decode (zb m_T_marks) 1 = .ok (.getfield 21, 3) := zdal_p dlB_T_marks_135 (i := 1) rfl
theorem d_T_marks_4 : decode (zb m_T_marks) 4 = .ok (.aload_n 0, 1) := zdal_p dlB_T_marks_135 (i := 2) rfl
theorem d_T_marks_5 : decode (zb m_T_marks) 5 = .ok (.getfield 28, 3) := zdal_p dlB_T_marks_135 (i := 3) rfl
theorem d_T_marks_8 : decode (zb m_T_marks) 8 = .ok (.getfield 169, 3) := zdal_p dlB_T_marks_135 (i := 4) rfl
theorem d_T_marks_11 : decode (zb m_T_marks) 11 = .ok (.getfield 262, 3) := zdal_p dlB_T_marks_135 (i := 5) rfl
theorem d_T_marks_14 : decode (zb m_T_marks) 14 = .ok (.aload_n 0, 1) := zdal_p dlB_T_marks_135 (i := 6) rfl
theorem d_T_marks_15 : decode (zb m_T_marks) 15 = .ok (.getfield 28, 3) := zdal_p dlB_T_marks_135 (i := 7) rfl
theorem d_T_marks_18 : decode (zb m_T_marks) 18 = .ok (.getfield 85, 3) := zdal_p dlB_T_marks_135 (i := 8) rfl
theorem d_T_marks_21 : decode (zb m_T_marks) 21 = .ok (.getfield 94, 3) := zdal_p dlB_T_marks_135 (i := 9) rfl
theorem d_T_marks_24 : decode (zb m_T_marks) 24 = .ok (.invokevirtual 299, 3) := zdal_p dlB_T_marks_135 (i := 10) rfl
theorem d_T_marks_27 : decode (zb m_T_marks) 27 = .ok (.istore_n 1, 1) := zdal_p dlB_T_marks_135 (i := 11) rfl
theorem d_T_marks_28 : decode (zb m_T_marks) 28 = .ok (.aload_n 0, 1) := zdal_p dlB_T_marks_135 (i := 12) rfl
theorem d_T_marks_29 : decode (zb m_T_marks) 29 = .ok (.getfield 10, 3) := zdal_p dlB_T_marks_135 (i := 13) rfl
theorem d_T_marks_32 : decode (zb m_T_marks) 32 = .ok (.iconst 0, 1) := zdal_p dlB_T_marks_135 (i := 14) rfl
theorem d_T_marks_33 : decode (zb m_T_marks) 33 = .ok (.putfield 42, 3) := zdal_p dlB_T_marks_135 (i := 15) rfl
theorem d_T_marks_36 : decode (zb m_T_marks) 36 = .ok (.iload_n 1, 1) := zdal_p dlB_T_marks_135 (i := 16) rfl
theorem d_T_marks_37 : decode (zb m_T_marks) 37 = .ok (.ifCond .ne 6, 3) := zdal_p dlB_T_marks_135 (i := 17) rfl
theorem d_T_marks_40 : decode (zb m_T_marks) 40 = .ok (.bipush (-2), 2) := zdal_p dlB_T_marks_135 (i := 18) rfl
theorem d_T_marks_42 : decode (zb m_T_marks) 42 = .ok (.ireturn, 1) := zdal_p dlB_T_marks_135 (i := 19) rfl
theorem d_T_marks_43 : decode (zb m_T_marks) 43 = .ok (.aload_n 0, 1) := zdal_p dlB_T_marks_135 (i := 20) rfl
theorem d_T_marks_44 : decode (zb m_T_marks) 44 = .ok (.getfield 28, 3) := zdal_p dlB_T_marks_135 (i := 21) rfl
theorem d_T_marks_47 : decode (zb m_T_marks) 47 = .ok (.getfield 85, 3) := zdal_p dlB_T_marks_135 (i := 22) rfl
theorem d_T_marks_50 : decode (zb m_T_marks) 50 = .ok (.aload_n 0, 1) := zdal_p dlB_T_marks_135 (i := 23) rfl
theorem dlB_T_marks_136 : zdal (zb m_T_marks) [(51, (.getfield 28, 3)), (54, (.getfield 169, 3)), (57, (.getfield 262, 3)), (60, (.invokevirtual 303, 3)), (63, (.istore_n 2, 1)), (64, (.iload_n 2, 1)), (65, (.iconst (-1), 1)), (66, (.if_icmp .eq 7, 3)), (69, (.iload_n 2, 1)), (70, (.iconst 1, 1)), (71, (.iadd, 1)), (72, (.ireturn, 1)), (73, (.aload_n 0, 1)), (74, (.getfield 28, 3)), (77, (.getfield 169, 3)), (80, (.bipush 39, 2)), (82, (.invokevirtual 296, 3)), (85, (.aload_n 0, 1)), (86, (.getfield 28, 3)), (89, (.bipush 39, 2)), (91, (.invokevirtual 284, 3)), (94, (.iconst 0, 1)), (95, (.ireturn, 1))] = true := zDs 51 (by decide +kernel)
theorem d_T_marks_51 : decode (zb m_T_marks) 51 = .ok (.getfield 28, 3) := zdal_p dlB_T_marks_136 (i := 0) rfl
theorem d_T_marks_54 : decode (zb m_T_marks) 54 = .ok (.getfield 169, 3) := zdal_p dlB_T_marks_136 (i := 1) rfl
theorem d_T_marks_57 : decode (zb m_T_marks) 57 = .ok (.getfield 262, 3) := zdal_p dlB_T_marks_136 (i := 2) rfl
theorem d_T_marks_60 : decode (zb m_T_marks) 60 = .ok (.invokevirtual 303, 3) := zdal_p dlB_T_marks_136 (i := 3) rfl
theorem d_T_marks_63 : decode (zb m_T_marks) 63 = .ok (.istore_n 2, 1) := zdal_p dlB_T_marks_136 (i := 4) rfl
theorem d_T_marks_64 : decode (zb m_T_marks) 64 = .ok (.iload_n 2, 1) := zdal_p dlB_T_marks_136 (i := 5) rfl
theorem d_T_marks_65 : decode (zb m_T_marks) 65 = .ok (.iconst (-1), 1) := zdal_p dlB_T_marks_136 (i := 6) rfl
theorem d_T_marks_66 : decode (zb m_T_marks) 66 = .ok (.if_icmp .eq 7, 3) := zdal_p dlB_T_marks_136 (i := 7) rfl
theorem d_T_marks_69 : decode (zb m_T_marks) 69 = .ok (.iload_n 2, 1) := zdal_p dlB_T_marks_136 (i := 8) rfl
theorem d_T_marks_70 : decode (zb m_T_marks) 70 = .ok (.iconst 1, 1) := zdal_p dlB_T_marks_136 (i := 9) rfl
theorem d_T_marks_71 : decode (zb m_T_marks) 71 = .ok (.iadd, 1) := zdal_p dlB_T_marks_136 (i := 10) rfl
theorem d_T_marks_72 : decode (zb m_T_marks) 72 = .ok (.ireturn, 1) := zdal_p dlB_T_marks_136 (i := 11) rfl
theorem d_T_marks_73 : decode (zb m_T_marks) 73 = .ok (.aload_n 0, 1) := zdal_p dlB_T_marks_136 (i := 12) rfl
theorem d_T_marks_74 : decode (zb m_T_marks) 74 = .ok (.getfield 28, 3) := zdal_p dlB_T_marks_136 (i := 13) rfl
theorem d_T_marks_77 : decode (zb m_T_marks) 77 = .ok (.getfield 169, 3) := zdal_p dlB_T_marks_136 (i := 14) rfl
theorem d_T_marks_80 : decode (zb m_T_marks) 80 = .ok (.bipush 39, 2) := zdal_p dlB_T_marks_136 (i := 15) rfl
theorem d_T_marks_82 : decode (zb m_T_marks) 82 = .ok (.invokevirtual 296, 3) := zdal_p dlB_T_marks_136 (i := 16) rfl
theorem d_T_marks_85 : decode (zb m_T_marks) 85 = .ok (.aload_n 0, 1) := zdal_p dlB_T_marks_136 (i := 17) rfl
theorem d_T_marks_86 : decode (zb m_T_marks) 86 = .ok (.getfield 28, 3) := zdal_p dlB_T_marks_136 (i := 18) rfl
theorem d_T_marks_89 : decode (zb m_T_marks) 89 = .ok (.bipush 39, 2) := zdal_p dlB_T_marks_136 (i := 19) rfl
theorem d_T_marks_91 : decode (zb m_T_marks) 91 = .ok (.invokevirtual 284, 3) := zdal_p dlB_T_marks_136 (i := 20) rfl
theorem d_T_marks_94 : decode (zb m_T_marks) 94 = .ok (.iconst 0, 1) := zdal_p dlB_T_marks_136 (i := 21) rfl
theorem d_T_marks_95 : decode (zb m_T_marks) 95 = .ok (.ireturn, 1) := zdal_p dlB_T_marks_136 (i := 22) rfl
theorem dlB_Reader_readRow_137 : zdal (zb m_Reader_readRow) [(0, (.aload_n 0, 1)), (1, (.getfield 15, 3)), (4, (.iconst 0, 1)), (5, (.invokevirtual 188, 3)), (8, (.istore_n 3, 1)), (9, (.iconst 0, 1)), (10, (.istore 4, 2)), (12, (.iload 4, 2)), (14, (.iload_n 2, 1)), (15, (.if_icmp .ge 164, 3)), (18, (.iload_n 3, 1)), (19, (.aload_n 0, 1)), (20, (.getfield 15, 3)), (23, (.getfield 191, 3)), (26, (.if_icmp .ge 23, 3)), (29, (.aload_n 0, 1)), (30, (.getfield 15, 3)), (33, (.getfield 194, 3)), (36, (.iload_n 3, 1)), (37, (.invokevirtual 198, 3)), (40, (.bipush 45, 2)), (42, (.if_icmp .ne 7, 3)), (45, (.iconst 1, 1)), (46, (.goto 4, 3))] = true := zDs 0 (by decide +kernel)
theorem d_Reader_readRow_0 : decode (zb m_Reader_readRow) 0 = .ok (.aload_n 0, 1) := zdal_p dlB_Reader_readRow_137 (i := 0) rfl
theorem d_Reader_readRow_1 : decode (zb m_Reader_readRow) 1 = .ok (.getfield 15, 3) := zdal_p dlB_Reader_readRow_137 (i := 1) rfl
theorem d_Reader_readRow_4 : decode (zb m_Reader_readRow) 4 = .ok (.iconst 0, 1) := zdal_p dlB_Reader_readRow_137 (i := 2) rfl
theorem d_Reader_readRow_5 : decode (zb m_Reader_readRow) 5 = .ok (.invokevirtual 188, 3) := zdal_p dlB_Reader_readRow_137 (i := 3) rfl
theorem d_Reader_readRow_8 : decode (zb m_Reader_readRow) 8 = .ok (.istore_n 3, 1) := zdal_p dlB_Reader_readRow_137 (i := 4) rfl
theorem d_Reader_readRow_9 : decode (zb m_Reader_readRow) 9 = .ok (.iconst 0, 1) := zdal_p dlB_Reader_readRow_137 (i := 5) rfl
theorem d_Reader_readRow_10 : decode (zb m_Reader_readRow) 10 = .ok (.istore 4, 2) := zdal_p dlB_Reader_readRow_137 (i := 6) rfl
theorem d_Reader_readRow_12 : decode (zb m_Reader_readRow) 12 = .ok (.iload 4, 2) := zdal_p dlB_Reader_readRow_137 (i := 7) rfl
theorem d_Reader_readRow_14 : decode (zb m_Reader_readRow) 14 = .ok (.iload_n 2, 1) := zdal_p dlB_Reader_readRow_137 (i := 8) rfl
theorem d_Reader_readRow_15 : decode (zb m_Reader_readRow) 15 = .ok (.if_icmp .ge 164, 3) := zdal_p dlB_Reader_readRow_137 (i := 9) rfl
theorem d_Reader_readRow_18 : decode (zb m_Reader_readRow) 18 = .ok (.iload_n 3, 1) := zdal_p dlB_Reader_readRow_137 (i := 10) rfl
theorem d_Reader_readRow_19 : decode (zb m_Reader_readRow) 19 = .ok (.aload_n 0, 1) := zdal_p dlB_Reader_readRow_137 (i := 11) rfl
theorem d_Reader_readRow_20 : decode (zb m_Reader_readRow) 20 = .ok (.getfield 15, 3) := zdal_p dlB_Reader_readRow_137 (i := 12) rfl
theorem d_Reader_readRow_23 : decode (zb m_Reader_readRow) 23 = .ok (.getfield 191, 3) := zdal_p dlB_Reader_readRow_137 (i := 13) rfl
theorem d_Reader_readRow_26 : decode (zb m_Reader_readRow) 26 = .ok (.if_icmp .ge 23, 3) := zdal_p dlB_Reader_readRow_137 (i := 14) rfl
theorem d_Reader_readRow_29 : decode (zb m_Reader_readRow) 29 = .ok (.aload_n 0, 1) := zdal_p dlB_Reader_readRow_137 (i := 15) rfl
theorem d_Reader_readRow_30 : decode (zb m_Reader_readRow) 30 = .ok (.getfield 15, 3) := zdal_p dlB_Reader_readRow_137 (i := 16) rfl
theorem d_Reader_readRow_33 : decode (zb m_Reader_readRow) 33 = .ok (.getfield 194, 3) := zdal_p dlB_Reader_readRow_137 (i := 17) rfl
theorem d_Reader_readRow_36 : decode (zb m_Reader_readRow) 36 = .ok (.iload_n 3, 1) := zdal_p dlB_Reader_readRow_137 (i := 18) rfl
theorem d_Reader_readRow_37 : decode (zb m_Reader_readRow) 37 = .ok (.invokevirtual 198, 3) := zdal_p dlB_Reader_readRow_137 (i := 19) rfl
theorem d_Reader_readRow_40 : decode (zb m_Reader_readRow) 40 = .ok (.bipush 45, 2) := zdal_p dlB_Reader_readRow_137 (i := 20) rfl
theorem d_Reader_readRow_42 : decode (zb m_Reader_readRow) 42 = .ok (.if_icmp .ne 7, 3) := zdal_p dlB_Reader_readRow_137 (i := 21) rfl
theorem d_Reader_readRow_45 : decode (zb m_Reader_readRow) 45 = .ok (.iconst 1, 1) := zdal_p dlB_Reader_readRow_137 (i := 22) rfl
theorem d_Reader_readRow_46 : decode (zb m_Reader_readRow) 46 = .ok (.goto 4, 3) := zdal_p dlB_Reader_readRow_137 (i := 23) rfl
theorem dlB_Reader_readRow_138 : zdal (zb m_Reader_readRow) [(49, (.iconst 0, 1)), (50, (.istore 5, 2)), (52, (.iload 5, 2)), (54, (.ifCond .eq 9, 3)), (57, (.iload_n 3, 1)), (58, (.iconst 1, 1)), (59, (.iadd, 1)), (60, (.goto 4, 3)), (63, (.iload_n 3, 1)), (64, (.istore 6, 2)), (66, (.aload_n 0, 1)), (67, (.getfield 15, 3)), (70, (.iload 6, 2)), (72, (.invokevirtual 203, 3)), (75, (.istore 7, 2)), (77, (.iload 7, 2)), (79, (.iload 6, 2)), (81, (.isub, 1)), (82, (.istore 8, 2)), (84, (.iload 8, 2)), (86, (.iconst 1, 1)), (87, (.if_icmp .lt 40, 3)), (90, (.iload 8, 2)), (92, (.bipush 6, 2))] = true := zDs 49 (by decide +kernel)
theorem d_Reader_readRow_49 : decode (zb m_Reader_readRow) 49 = .ok (.iconst 0, 1) := zdal_p dlB_Reader_readRow_138 (i := 0) rfl
theorem d_Reader_readRow_50 : decode (zb m_Reader_readRow) 50 = .ok (.istore 5, 2) := zdal_p dlB_Reader_readRow_138 (i := 1) rfl
theorem d_Reader_readRow_52 : decode (zb m_Reader_readRow) 52 = .ok (.iload 5, 2) := zdal_p dlB_Reader_readRow_138 (i := 2) rfl
theorem d_Reader_readRow_54 : decode (zb m_Reader_readRow) 54 = .ok (.ifCond .eq 9, 3) := zdal_p dlB_Reader_readRow_138 (i := 3) rfl
theorem d_Reader_readRow_57 : decode (zb m_Reader_readRow) 57 = .ok (.iload_n 3, 1) := zdal_p dlB_Reader_readRow_138 (i := 4) rfl
theorem d_Reader_readRow_58 : decode (zb m_Reader_readRow) 58 = .ok (.iconst 1, 1) := zdal_p dlB_Reader_readRow_138 (i := 5) rfl
theorem d_Reader_readRow_59 : decode (zb m_Reader_readRow) 59 = .ok (.iadd, 1) := zdal_p dlB_Reader_readRow_138 (i := 6) rfl
theorem d_Reader_readRow_60 : decode (zb m_Reader_readRow) 60 = .ok (.goto 4, 3) := zdal_p dlB_Reader_readRow_138 (i := 7) rfl
theorem d_Reader_readRow_63 : decode (zb m_Reader_readRow) 63 = .ok (.iload_n 3, 1) := zdal_p dlB_Reader_readRow_138 (i := 8) rfl
theorem d_Reader_readRow_64 : decode (zb m_Reader_readRow) 64 = .ok (.istore 6, 2) := zdal_p dlB_Reader_readRow_138 (i := 9) rfl
theorem d_Reader_readRow_66 : decode (zb m_Reader_readRow) 66 = .ok (.aload_n 0, 1) := zdal_p dlB_Reader_readRow_138 (i := 10) rfl
theorem d_Reader_readRow_67 : decode (zb m_Reader_readRow) 67 = .ok (.getfield 15, 3) := zdal_p dlB_Reader_readRow_138 (i := 11) rfl
theorem d_Reader_readRow_70 : decode (zb m_Reader_readRow) 70 = .ok (.iload 6, 2) := zdal_p dlB_Reader_readRow_138 (i := 12) rfl
theorem d_Reader_readRow_72 : decode (zb m_Reader_readRow) 72 = .ok (.invokevirtual 203, 3) := zdal_p dlB_Reader_readRow_138 (i := 13) rfl
theorem d_Reader_readRow_75 : decode (zb m_Reader_readRow) 75 = .ok (.istore 7, 2) := zdal_p dlB_Reader_readRow_138 (i := 14) rfl
theorem d_Reader_readRow_77 : decode (zb m_Reader_readRow) 77 = .ok (.iload 7, 2) := zdal_p dlB_Reader_readRow_138 (i := 15) rfl
theorem d_Reader_readRow_79 : decode (zb m_Reader_readRow) 79 = .ok (.iload 6, 2) := zdal_p dlB_Reader_readRow_138 (i := 16) rfl
theorem d_Reader_readRow_81 : decode (zb m_Reader_readRow) 81 = .ok (.isub, 1) := zdal_p dlB_Reader_readRow_138 (i := 17) rfl
theorem d_Reader_readRow_82 : decode (zb m_Reader_readRow) 82 = .ok (.istore 8, 2) := zdal_p dlB_Reader_readRow_138 (i := 18) rfl
theorem d_Reader_readRow_84 : decode (zb m_Reader_readRow) 84 = .ok (.iload 8, 2) := zdal_p dlB_Reader_readRow_138 (i := 19) rfl
theorem d_Reader_readRow_86 : decode (zb m_Reader_readRow) 86 = .ok (.iconst 1, 1) := zdal_p dlB_Reader_readRow_138 (i := 20) rfl
theorem d_Reader_readRow_87 : decode (zb m_Reader_readRow) 87 = .ok (.if_icmp .lt 40, 3) := zdal_p dlB_Reader_readRow_138 (i := 21) rfl
theorem d_Reader_readRow_90 : decode (zb m_Reader_readRow) 90 = .ok (.iload 8, 2) := zdal_p dlB_Reader_readRow_138 (i := 22) rfl
theorem d_Reader_readRow_92 : decode (zb m_Reader_readRow) 92 = .ok (.bipush 6, 2) := zdal_p dlB_Reader_readRow_138 (i := 23) rfl
theorem dlB_Reader_readRow_139 : zdal (zb m_Reader_readRow) [(94, (.if_icmp .gt 33, 3)), (97, (.iload 7, 2)), (99, (.aload_n 0, 1)), (100, (.getfield 15, 3)), (103, (.getfield 191, 3)), (106, (.if_icmp .ge 23, 3)), (109, (.aload_n 0, 1)), (110, (.getfield 15, 3)), (113, (.getfield 194, 3)), (116, (.iload 7, 2)), (118, (.invokevirtual 198, 3)), (121, (.invokestatic 206, 3)), (124, (.ifCond .ne 5, 3)), (127, (.iconst 0, 1)), (128, (.ireturn, 1)), (129, (.aload_n 0, 1)), (130, (.getfield 15, 3)), (133, (.iload 6, 2)), (135, (.iload 7, 2)), (137, (.invokevirtual 209, 3)), (140, (.istore 9, 2)), (142, (.aload_n 1, 1)), (143, (.iload 4, 2)), (145, (.iload 5, 2))] = true := zDs 94 (by decide +kernel)
theorem d_Reader_readRow_94 : decode (zb m_Reader_readRow) 94 = .ok (.if_icmp .gt 33, 3) := zdal_p dlB_Reader_readRow_139 (i := 0) rfl
theorem d_Reader_readRow_97 : decode (zb m_Reader_readRow) 97 = .ok (.iload 7, 2) := zdal_p dlB_Reader_readRow_139 (i := 1) rfl
theorem d_Reader_readRow_99 : decode (zb m_Reader_readRow) 99 = .ok (.aload_n 0, 1) := zdal_p dlB_Reader_readRow_139 (i := 2) rfl
theorem d_Reader_readRow_100 : decode (zb m_Reader_readRow) 100 = .ok (.getfield 15, 3) := zdal_p dlB_Reader_readRow_139 (i := 3) rfl
theorem d_Reader_readRow_103 : decode (zb m_Reader_readRow) 103 = .ok (.getfield 191, 3) := zdal_p dlB_Reader_readRow_139 (i := 4) rfl
theorem d_Reader_readRow_106 : decode (zb m_Reader_readRow) 106 = .ok (.if_icmp .ge 23, 3) := zdal_p dlB_Reader_readRow_139 (i := 5) rfl
theorem d_Reader_readRow_109 : decode (zb m_Reader_readRow) 109 = .ok (.aload_n 0, 1) := zdal_p dlB_Reader_readRow_139 (i := 6) rfl
theorem d_Reader_readRow_110 : decode (zb m_Reader_readRow) 110 = .ok (.getfield 15, 3) := zdal_p dlB_Reader_readRow_139 (i := 7) rfl
theorem d_Reader_readRow_113 : decode (zb m_Reader_readRow) 113 = .ok (.getfield 194, 3) := zdal_p dlB_Reader_readRow_139 (i := 8) rfl
theorem d_Reader_readRow_116 : decode (zb m_Reader_readRow) 116 = .ok (.iload 7, 2) := zdal_p dlB_Reader_readRow_139 (i := 9) rfl
theorem d_Reader_readRow_118 : decode (zb m_Reader_readRow) 118 = .ok (.invokevirtual 198, 3) := zdal_p dlB_Reader_readRow_139 (i := 10) rfl
theorem d_Reader_readRow_121 : decode (zb m_Reader_readRow) 121 = .ok (.invokestatic 206, 3) := zdal_p dlB_Reader_readRow_139 (i := 11) rfl
theorem d_Reader_readRow_124 : decode (zb m_Reader_readRow) 124 = .ok (.ifCond .ne 5, 3) := zdal_p dlB_Reader_readRow_139 (i := 12) rfl
theorem d_Reader_readRow_127 : decode (zb m_Reader_readRow) 127 = .ok (.iconst 0, 1) := zdal_p dlB_Reader_readRow_139 (i := 13) rfl
theorem d_Reader_readRow_128 : decode (zb m_Reader_readRow) 128 = .ok (.ireturn, 1) := zdal_p dlB_Reader_readRow_139 (i := 14) rfl
theorem d_Reader_readRow_129 : decode (zb m_Reader_readRow) 129 = .ok (.aload_n 0, 1) := zdal_p dlB_Reader_readRow_139 (i := 15) rfl
theorem d_Reader_readRow_130 : decode (zb m_Reader_readRow) 130 = .ok (.getfield 15, 3) := zdal_p dlB_Reader_readRow_139 (i := 16) rfl
theorem d_Reader_readRow_133 : decode (zb m_Reader_readRow) 133 = .ok (.iload 6, 2) := zdal_p dlB_Reader_readRow_139 (i := 17) rfl
theorem d_Reader_readRow_135 : decode (zb m_Reader_readRow) 135 = .ok (.iload 7, 2) := zdal_p dlB_Reader_readRow_139 (i := 18) rfl
theorem d_Reader_readRow_137 : decode (zb m_Reader_readRow) 137 = .ok (.invokevirtual 209, 3) := zdal_p dlB_Reader_readRow_139 (i := 19) rfl
theorem d_Reader_readRow_140 : decode (zb m_Reader_readRow) 140 = .ok (.istore 9, 2) := zdal_p dlB_Reader_readRow_139 (i := 20) rfl
theorem d_Reader_readRow_142 : decode (zb m_Reader_readRow) 142 = .ok (.aload_n 1, 1) := zdal_p dlB_Reader_readRow_139 (i := 21) rfl
theorem d_Reader_readRow_143 : decode (zb m_Reader_readRow) 143 = .ok (.iload 4, 2) := zdal_p dlB_Reader_readRow_139 (i := 22) rfl
theorem d_Reader_readRow_145 : decode (zb m_Reader_readRow) 145 = .ok (.iload 5, 2) := zdal_p dlB_Reader_readRow_139 (i := 23) rfl
theorem dlB_Reader_readRow_140 : zdal (zb m_Reader_readRow) [(147, (.ifCond .eq 10, 3)), (150, (.iload 9, 2)), (152, (.ineg, 1)), (153, (.i2l, 1)), (154, (.goto 6, 3)), (157, (.iload 9, 2)), (159, (.i2l, 1)), (160, (.invokevirtual 212, 3)), (163, (.aload_n 0, 1)), (164, (.getfield 15, 3)), (167, (.iload 7, 2)), (169, (.invokevirtual 188, 3)), (172, (.istore_n 3, 1)), (173, (.iinc 4 1, 3)), (176, (.goto (-164), 3)), (179, (.iload_n 3, 1)), (180, (.aload_n 0, 1)), (181, (.getfield 15, 3)), (184, (.getfield 191, 3)), (187, (.if_icmp .lt 7, 3)), (190, (.iconst 1, 1)), (191, (.goto 4, 3)), (194, (.iconst 0, 1)), (195, (.ireturn, 1))] = true := zDs 147 (by decide +kernel)
theorem d_Reader_readRow_147 : decode (zb m_Reader_readRow) 147 = .ok (.ifCond .eq 10, 3) := zdal_p dlB_Reader_readRow_140 (i := 0) rfl
theorem d_Reader_readRow_150 : decode (zb m_Reader_readRow) 150 = .ok (.iload 9, 2) := zdal_p dlB_Reader_readRow_140 (i := 1) rfl
theorem d_Reader_readRow_152 : decode (zb m_Reader_readRow) 152 = .ok (.ineg, 1) := zdal_p dlB_Reader_readRow_140 (i := 2) rfl
theorem d_Reader_readRow_153 : decode (zb m_Reader_readRow) 153 = .ok (.i2l, 1) := zdal_p dlB_Reader_readRow_140 (i := 3) rfl
theorem d_Reader_readRow_154 : decode (zb m_Reader_readRow) 154 = .ok (.goto 6, 3) := zdal_p dlB_Reader_readRow_140 (i := 4) rfl
theorem d_Reader_readRow_157 : decode (zb m_Reader_readRow) 157 = .ok (.iload 9, 2) := zdal_p dlB_Reader_readRow_140 (i := 5) rfl
theorem d_Reader_readRow_159 : decode (zb m_Reader_readRow) 159 = .ok (.i2l, 1) := zdal_p dlB_Reader_readRow_140 (i := 6) rfl
theorem d_Reader_readRow_160 : decode (zb m_Reader_readRow) 160 = .ok (.invokevirtual 212, 3) := zdal_p dlB_Reader_readRow_140 (i := 7) rfl
theorem d_Reader_readRow_163 : decode (zb m_Reader_readRow) 163 = .ok (.aload_n 0, 1) := zdal_p dlB_Reader_readRow_140 (i := 8) rfl
theorem d_Reader_readRow_164 : decode (zb m_Reader_readRow) 164 = .ok (.getfield 15, 3) := zdal_p dlB_Reader_readRow_140 (i := 9) rfl
theorem d_Reader_readRow_167 : decode (zb m_Reader_readRow) 167 = .ok (.iload 7, 2) := zdal_p dlB_Reader_readRow_140 (i := 10) rfl
theorem d_Reader_readRow_169 : decode (zb m_Reader_readRow) 169 = .ok (.invokevirtual 188, 3) := zdal_p dlB_Reader_readRow_140 (i := 11) rfl
theorem d_Reader_readRow_172 : decode (zb m_Reader_readRow) 172 = .ok (.istore_n 3, 1) := zdal_p dlB_Reader_readRow_140 (i := 12) rfl
theorem d_Reader_readRow_173 : decode (zb m_Reader_readRow) 173 = .ok (.iinc 4 1, 3) := zdal_p dlB_Reader_readRow_140 (i := 13) rfl
theorem d_Reader_readRow_176 : decode (zb m_Reader_readRow) 176 = .ok (.goto (-164), 3) := zdal_p dlB_Reader_readRow_140 (i := 14) rfl
theorem d_Reader_readRow_179 : decode (zb m_Reader_readRow) 179 = .ok (.iload_n 3, 1) := zdal_p dlB_Reader_readRow_140 (i := 15) rfl
theorem d_Reader_readRow_180 : decode (zb m_Reader_readRow) 180 = .ok (.aload_n 0, 1) := zdal_p dlB_Reader_readRow_140 (i := 16) rfl
theorem d_Reader_readRow_181 : decode (zb m_Reader_readRow) 181 = .ok (.getfield 15, 3) := zdal_p dlB_Reader_readRow_140 (i := 17) rfl
theorem d_Reader_readRow_184 : decode (zb m_Reader_readRow) 184 = .ok (.getfield 191, 3) := zdal_p dlB_Reader_readRow_140 (i := 18) rfl
theorem d_Reader_readRow_187 : decode (zb m_Reader_readRow) 187 = .ok (.if_icmp .lt 7, 3) := zdal_p dlB_Reader_readRow_140 (i := 19) rfl
theorem d_Reader_readRow_190 : decode (zb m_Reader_readRow) 190 = .ok (.iconst 1, 1) := zdal_p dlB_Reader_readRow_140 (i := 20) rfl
theorem d_Reader_readRow_191 : decode (zb m_Reader_readRow) 191 = .ok (.goto 4, 3) := zdal_p dlB_Reader_readRow_140 (i := 21) rfl
theorem d_Reader_readRow_194 : decode (zb m_Reader_readRow) 194 = .ok (.iconst 0, 1) := zdal_p dlB_Reader_readRow_140 (i := 22) rfl
theorem d_Reader_readRow_195 : decode (zb m_Reader_readRow) 195 = .ok (.ireturn, 1) := zdal_p dlB_Reader_readRow_140 (i := 23) rfl
theorem dlB_Sorts_firstIncongruent_141 : zdal (zb m_Sorts_firstIncongruent) [(0, (.iconst 0, 1)), (1, (.istore_n 2, 1)), (2, (.iload_n 2, 1)), (3, (.aload_n 0, 1)), (4, (.getfield 83, 3)), (7, (.if_icmp .ge 35, 3)), (10, (.aload_n 0, 1)), (11, (.iload_n 2, 1)), (12, (.invokevirtual 120, 3)), (15, (.istore_n 3, 1)), (16, (.iload_n 3, 1)), (17, (.ifCond .le 19, 3)), (20, (.aload_n 0, 1)), (21, (.iload_n 2, 1)), (22, (.aload_n 1, 1)), (23, (.invokevirtual 123, 3)), (26, (.iload_n 3, 1)), (27, (.i2l, 1)), (28, (.lrem, 1)), (29, (.lconst 0, 1)), (30, (.lcmp, 1)), (31, (.ifCond .eq 5, 3)), (34, (.iload_n 2, 1)), (35, (.ireturn, 1))] = true := zDs 0 (by decide +kernel)
theorem d_Sorts_firstIncongruent_0 : decode (zb m_Sorts_firstIncongruent) 0 = .ok (.iconst 0, 1) := zdal_p dlB_Sorts_firstIncongruent_141 (i := 0) rfl
theorem d_Sorts_firstIncongruent_1 : decode (zb m_Sorts_firstIncongruent) 1 = .ok (.istore_n 2, 1) := zdal_p dlB_Sorts_firstIncongruent_141 (i := 1) rfl
theorem d_Sorts_firstIncongruent_2 : decode (zb m_Sorts_firstIncongruent) 2 = .ok (.iload_n 2, 1) := zdal_p dlB_Sorts_firstIncongruent_141 (i := 2) rfl
theorem d_Sorts_firstIncongruent_3 : decode (zb m_Sorts_firstIncongruent) 3 = .ok (.aload_n 0, 1) := zdal_p dlB_Sorts_firstIncongruent_141 (i := 3) rfl
theorem d_Sorts_firstIncongruent_4 : decode (zb m_Sorts_firstIncongruent) 4 = .ok (.getfield 83, 3) := zdal_p dlB_Sorts_firstIncongruent_141 (i := 4) rfl
theorem d_Sorts_firstIncongruent_7 : decode (zb m_Sorts_firstIncongruent) 7 = .ok (.if_icmp .ge 35, 3) := zdal_p dlB_Sorts_firstIncongruent_141 (i := 5) rfl
theorem d_Sorts_firstIncongruent_10 : decode (zb m_Sorts_firstIncongruent) 10 = .ok (.aload_n 0, 1) := zdal_p dlB_Sorts_firstIncongruent_141 (i := 6) rfl
theorem d_Sorts_firstIncongruent_11 : decode (zb m_Sorts_firstIncongruent) 11 = .ok (.iload_n 2, 1) := zdal_p dlB_Sorts_firstIncongruent_141 (i := 7) rfl
theorem d_Sorts_firstIncongruent_12 : decode (zb m_Sorts_firstIncongruent) 12 = .ok (.invokevirtual 120, 3) := zdal_p dlB_Sorts_firstIncongruent_141 (i := 8) rfl
theorem d_Sorts_firstIncongruent_15 : decode (zb m_Sorts_firstIncongruent) 15 = .ok (.istore_n 3, 1) := zdal_p dlB_Sorts_firstIncongruent_141 (i := 9) rfl
theorem d_Sorts_firstIncongruent_16 : decode (zb m_Sorts_firstIncongruent) 16 = .ok (.iload_n 3, 1) := zdal_p dlB_Sorts_firstIncongruent_141 (i := 10) rfl
theorem d_Sorts_firstIncongruent_17 : decode (zb m_Sorts_firstIncongruent) 17 = .ok (.ifCond .le 19, 3) := zdal_p dlB_Sorts_firstIncongruent_141 (i := 11) rfl
theorem d_Sorts_firstIncongruent_20 : decode (zb m_Sorts_firstIncongruent) 20 = .ok (.aload_n 0, 1) := zdal_p dlB_Sorts_firstIncongruent_141 (i := 12) rfl
theorem d_Sorts_firstIncongruent_21 : decode (zb m_Sorts_firstIncongruent) 21 = .ok (.iload_n 2, 1) := zdal_p dlB_Sorts_firstIncongruent_141 (i := 13) rfl
theorem d_Sorts_firstIncongruent_22 : decode (zb m_Sorts_firstIncongruent) 22 = .ok (.aload_n 1, 1) := zdal_p dlB_Sorts_firstIncongruent_141 (i := 14) rfl
theorem d_Sorts_firstIncongruent_23 : decode (zb m_Sorts_firstIncongruent) 23 = .ok (.invokevirtual 123, 3) := zdal_p dlB_Sorts_firstIncongruent_141 (i := 15) rfl
theorem d_Sorts_firstIncongruent_26 : decode (zb m_Sorts_firstIncongruent) 26 = .ok (.iload_n 3, 1) := zdal_p dlB_Sorts_firstIncongruent_141 (i := 16) rfl
theorem d_Sorts_firstIncongruent_27 : decode (zb m_Sorts_firstIncongruent) 27 = .ok (.i2l, 1) := zdal_p dlB_Sorts_firstIncongruent_141 (i := 17) rfl
theorem d_Sorts_firstIncongruent_28 : decode (zb m_Sorts_firstIncongruent) 28 = .ok (.lrem, 1) := zdal_p dlB_Sorts_firstIncongruent_141 (i := 18) rfl
theorem d_Sorts_firstIncongruent_29 : decode (zb m_Sorts_firstIncongruent) 29 = .ok (.lconst 0, 1) := zdal_p dlB_Sorts_firstIncongruent_141 (i := 19) rfl
theorem d_Sorts_firstIncongruent_30 : decode (zb m_Sorts_firstIncongruent) 30 = .ok (.lcmp, 1) := zdal_p dlB_Sorts_firstIncongruent_141 (i := 20) rfl
theorem d_Sorts_firstIncongruent_31 : decode (zb m_Sorts_firstIncongruent) 31 = .ok (.ifCond .eq 5, 3) := zdal_p dlB_Sorts_firstIncongruent_141 (i := 21) rfl
theorem d_Sorts_firstIncongruent_34 : decode (zb m_Sorts_firstIncongruent) 34 = .ok (.iload_n 2, 1) := zdal_p dlB_Sorts_firstIncongruent_141 (i := 22) rfl
theorem d_Sorts_firstIncongruent_35 : decode (zb m_Sorts_firstIncongruent) 35 = .ok (.ireturn, 1) := zdal_p dlB_Sorts_firstIncongruent_141 (i := 23) rfl
theorem dlB_Sorts_firstIncongruent_142 : zdal (zb m_Sorts_firstIncongruent) [(36, (.iinc 2 1, 3)), (39, (.goto (-37), 3)), (42, (.iconst (-1), 1)), (43, (.ireturn, 1))] = true := zDs 36 (by decide +kernel)
theorem d_Sorts_firstIncongruent_36 : decode (zb m_Sorts_firstIncongruent) 36 = .ok (.iinc 2 1, 3) := zdal_p dlB_Sorts_firstIncongruent_142 (i := 0) rfl
theorem d_Sorts_firstIncongruent_39 : decode (zb m_Sorts_firstIncongruent) 39 = .ok (.goto (-37), 3) := zdal_p dlB_Sorts_firstIncongruent_142 (i := 1) rfl
theorem d_Sorts_firstIncongruent_42 : decode (zb m_Sorts_firstIncongruent) 42 = .ok (.iconst (-1), 1) := zdal_p dlB_Sorts_firstIncongruent_142 (i := 2) rfl
theorem d_Sorts_firstIncongruent_43 : decode (zb m_Sorts_firstIncongruent) 43 = .ok (.ireturn, 1) := zdal_p dlB_Sorts_firstIncongruent_142 (i := 3) rfl
theorem dlB_T_uses_143 : zdal (zb m_T_uses) [(0, (.aload_n 0, 1)), (1, (.getfield 28, 3)), (4, (.iload_n 1, 1)), (5, (.invokevirtual 245, 3)), (8, (.ifCond .ne 5, 3)), (11, (.iconst (-1), 1)), (12, (.ireturn, 1)), (13, (.aload_n 0, 1)), (14, (.getfield 28, 3)), (17, (.iconst 1, 1)), (18, (.iload_n 1, 1)), (19, (.iadd, 1)), (20, (.invokevirtual 284, 3)), (23, (.aload_n 0, 1)), (24, (.getfield 28, 3)), (27, (.getfield 169, 3)), (30, (.iconst 0, 1)), (31, (.invokevirtual 253, 3)), (34, (.ireturn, 1))] = true := zDs 0 (by decide +kernel)
theorem d_T_uses_0 : decode (zb m_T_uses) 0 = .ok (.aload_n 0, 1) := zdal_p dlB_T_uses_143 (i := 0) rfl
theorem d_T_uses_1 : decode (zb m_T_uses) 1 = .ok (.getfield 28, 3) := zdal_p dlB_T_uses_143 (i := 1) rfl
theorem d_T_uses_4 : decode (zb m_T_uses) 4 = .ok (.iload_n 1, 1) := zdal_p dlB_T_uses_143 (i := 2) rfl
theorem d_T_uses_5 : decode (zb m_T_uses) 5 = .ok (.invokevirtual 245, 3) := zdal_p dlB_T_uses_143 (i := 3) rfl
theorem d_T_uses_8 : decode (zb m_T_uses) 8 = .ok (.ifCond .ne 5, 3) := zdal_p dlB_T_uses_143 (i := 4) rfl
theorem d_T_uses_11 : decode (zb m_T_uses) 11 = .ok (.iconst (-1), 1) := zdal_p dlB_T_uses_143 (i := 5) rfl
theorem d_T_uses_12 : decode (zb m_T_uses) 12 = .ok (.ireturn, 1) := zdal_p dlB_T_uses_143 (i := 6) rfl
theorem d_T_uses_13 : decode (zb m_T_uses) 13 = .ok (.aload_n 0, 1) := zdal_p dlB_T_uses_143 (i := 7) rfl
theorem d_T_uses_14 : decode (zb m_T_uses) 14 = .ok (.getfield 28, 3) := zdal_p dlB_T_uses_143 (i := 8) rfl
theorem d_T_uses_17 : decode (zb m_T_uses) 17 = .ok (.iconst 1, 1) := zdal_p dlB_T_uses_143 (i := 9) rfl
theorem d_T_uses_18 : decode (zb m_T_uses) 18 = .ok (.iload_n 1, 1) := zdal_p dlB_T_uses_143 (i := 10) rfl
theorem d_T_uses_19 : decode (zb m_T_uses) 19 = .ok (.iadd, 1) := zdal_p dlB_T_uses_143 (i := 11) rfl
theorem d_T_uses_20 : decode (zb m_T_uses) 20 = .ok (.invokevirtual 284, 3) := zdal_p dlB_T_uses_143 (i := 12) rfl
theorem d_T_uses_23 : decode (zb m_T_uses) 23 = .ok (.aload_n 0, 1) := zdal_p dlB_T_uses_143 (i := 13) rfl
theorem d_T_uses_24 : decode (zb m_T_uses) 24 = .ok (.getfield 28, 3) := zdal_p dlB_T_uses_143 (i := 14) rfl
theorem d_T_uses_27 : decode (zb m_T_uses) 27 = .ok (.getfield 169, 3) := zdal_p dlB_T_uses_143 (i := 15) rfl
theorem d_T_uses_30 : decode (zb m_T_uses) 30 = .ok (.iconst 0, 1) := zdal_p dlB_T_uses_143 (i := 16) rfl
theorem d_T_uses_31 : decode (zb m_T_uses) 31 = .ok (.invokevirtual 253, 3) := zdal_p dlB_T_uses_143 (i := 17) rfl
theorem d_T_uses_34 : decode (zb m_T_uses) 34 = .ok (.ireturn, 1) := zdal_p dlB_T_uses_143 (i := 18) rfl
theorem dlB_T_grows_144 : zdal (zb m_T_grows) [(0, (.iload_n 1, 1)), (1, (.bipush (-9), 2)), (3, (.if_icmp .lt 37, 3)), (6, (.iload_n 1, 1)), (7, (.bipush 9, 2)), (9, (.if_icmp .gt 31, 3)), (12, (.iload_n 2, 1)), (13, (.sipush (-999), 3)), (16, (.if_icmp .lt 24, 3)), (19, (.iload_n 2, 1)), (20, (.sipush 999, 3)), (23, (.if_icmp .gt 17, 3)), (26, (.aload_n 0, 1)), (27, (.getfield 28, 3)), (30, (.getfield 85, 3)), (33, (.iload_n 3, 1)), (34, (.invokevirtual 143, 3)), (37, (.ifCond .ne 7, 3)), (40, (.ldc2_w 248, 3)), (43, (.lreturn, 1)), (44, (.aload_n 0, 1)), (45, (.getfield 28, 3)), (48, (.getfield 169, 3)), (51, (.iload_n 1, 1))] = true := zDs 0 (by decide +kernel)
theorem d_T_grows_0 : decode (zb m_T_grows) 0 = .ok (.iload_n 1, 1) := zdal_p dlB_T_grows_144 (i := 0) rfl
theorem d_T_grows_1 : decode (zb m_T_grows) 1 = .ok (.bipush (-9), 2) := zdal_p dlB_T_grows_144 (i := 1) rfl
theorem d_T_grows_3 : decode (zb m_T_grows) 3 = .ok (.if_icmp .lt 37, 3) := zdal_p dlB_T_grows_144 (i := 2) rfl
theorem d_T_grows_6 : decode (zb m_T_grows) 6 = .ok (.iload_n 1, 1) := zdal_p dlB_T_grows_144 (i := 3) rfl
theorem d_T_grows_7 : decode (zb m_T_grows) 7 = .ok (.bipush 9, 2) := zdal_p dlB_T_grows_144 (i := 4) rfl
theorem d_T_grows_9 : decode (zb m_T_grows) 9 = .ok (.if_icmp .gt 31, 3) := zdal_p dlB_T_grows_144 (i := 5) rfl
theorem d_T_grows_12 : decode (zb m_T_grows) 12 = .ok (.iload_n 2, 1) := zdal_p dlB_T_grows_144 (i := 6) rfl
theorem d_T_grows_13 : decode (zb m_T_grows) 13 = .ok (.sipush (-999), 3) := zdal_p dlB_T_grows_144 (i := 7) rfl
theorem d_T_grows_16 : decode (zb m_T_grows) 16 = .ok (.if_icmp .lt 24, 3) := zdal_p dlB_T_grows_144 (i := 8) rfl
theorem d_T_grows_19 : decode (zb m_T_grows) 19 = .ok (.iload_n 2, 1) := zdal_p dlB_T_grows_144 (i := 9) rfl
theorem d_T_grows_20 : decode (zb m_T_grows) 20 = .ok (.sipush 999, 3) := zdal_p dlB_T_grows_144 (i := 10) rfl
theorem d_T_grows_23 : decode (zb m_T_grows) 23 = .ok (.if_icmp .gt 17, 3) := zdal_p dlB_T_grows_144 (i := 11) rfl
theorem d_T_grows_26 : decode (zb m_T_grows) 26 = .ok (.aload_n 0, 1) := zdal_p dlB_T_grows_144 (i := 12) rfl
theorem d_T_grows_27 : decode (zb m_T_grows) 27 = .ok (.getfield 28, 3) := zdal_p dlB_T_grows_144 (i := 13) rfl
theorem d_T_grows_30 : decode (zb m_T_grows) 30 = .ok (.getfield 85, 3) := zdal_p dlB_T_grows_144 (i := 14) rfl
theorem d_T_grows_33 : decode (zb m_T_grows) 33 = .ok (.iload_n 3, 1) := zdal_p dlB_T_grows_144 (i := 15) rfl
theorem d_T_grows_34 : decode (zb m_T_grows) 34 = .ok (.invokevirtual 143, 3) := zdal_p dlB_T_grows_144 (i := 16) rfl
theorem d_T_grows_37 : decode (zb m_T_grows) 37 = .ok (.ifCond .ne 7, 3) := zdal_p dlB_T_grows_144 (i := 17) rfl
theorem d_T_grows_40 : decode (zb m_T_grows) 40 = .ok (.ldc2_w 248, 3) := zdal_p dlB_T_grows_144 (i := 18) rfl
theorem d_T_grows_43 : decode (zb m_T_grows) 43 = .ok (.lreturn, 1) := zdal_p dlB_T_grows_144 (i := 19) rfl
theorem d_T_grows_44 : decode (zb m_T_grows) 44 = .ok (.aload_n 0, 1) := zdal_p dlB_T_grows_144 (i := 20) rfl
theorem d_T_grows_45 : decode (zb m_T_grows) 45 = .ok (.getfield 28, 3) := zdal_p dlB_T_grows_144 (i := 21) rfl
theorem d_T_grows_48 : decode (zb m_T_grows) 48 = .ok (.getfield 169, 3) := zdal_p dlB_T_grows_144 (i := 22) rfl
theorem d_T_grows_51 : decode (zb m_T_grows) 51 = .ok (.iload_n 1, 1) := zdal_p dlB_T_grows_144 (i := 23) rfl
theorem dlB_T_grows_145 : zdal (zb m_T_grows) [(52, (.iload_n 2, 1)), (53, (.iload_n 3, 1)), (54, (.invokevirtual 307, 3)), (57, (.aload_n 0, 1)), (58, (.getfield 28, 3)), (61, (.getfield 169, 3)), (64, (.bipush 39, 2)), (66, (.invokevirtual 311, 3)), (69, (.ifCond .ne 7, 3)), (72, (.ldc2_w 248, 3)), (75, (.lreturn, 1)), (76, (.aload_n 0, 1)), (77, (.getfield 28, 3)), (80, (.bipush 39, 2)), (82, (.invokevirtual 284, 3)), (85, (.aload_n 0, 1)), (86, (.getfield 28, 3)), (89, (.getfield 169, 3)), (92, (.iconst 0, 1)), (93, (.iload_n 3, 1)), (94, (.invokevirtual 179, 3)), (97, (.lreturn, 1))] = true := zDs 52 (by decide +kernel)
theorem d_T_grows_52 : decode (zb m_T_grows) 52 = .ok (.iload_n 2, 1) := zdal_p dlB_T_grows_145 (i := 0) rfl
theorem d_T_grows_53 : decode (zb m_T_grows) 53 = .ok (.iload_n 3, 1) := zdal_p dlB_T_grows_145 (i := 1) rfl
theorem d_T_grows_54 : decode (zb m_T_grows) 54 = .ok (.invokevirtual 307, 3) := zdal_p dlB_T_grows_145 (i := 2) rfl
theorem d_T_grows_57 : decode (zb m_T_grows) 57 = .ok (.aload_n 0, 1) := zdal_p dlB_T_grows_145 (i := 3) rfl
theorem d_T_grows_58 : decode (zb m_T_grows) 58 = .ok (.getfield 28, 3) := zdal_p dlB_T_grows_145 (i := 4) rfl
theorem d_T_grows_61 : decode (zb m_T_grows) 61 = .ok (.getfield 169, 3) := zdal_p dlB_T_grows_145 (i := 5) rfl
theorem d_T_grows_64 : decode (zb m_T_grows) 64 = .ok (.bipush 39, 2) := zdal_p dlB_T_grows_145 (i := 6) rfl
theorem d_T_grows_66 : decode (zb m_T_grows) 66 = .ok (.invokevirtual 311, 3) := zdal_p dlB_T_grows_145 (i := 7) rfl
theorem d_T_grows_69 : decode (zb m_T_grows) 69 = .ok (.ifCond .ne 7, 3) := zdal_p dlB_T_grows_145 (i := 8) rfl
theorem d_T_grows_72 : decode (zb m_T_grows) 72 = .ok (.ldc2_w 248, 3) := zdal_p dlB_T_grows_145 (i := 9) rfl
theorem d_T_grows_75 : decode (zb m_T_grows) 75 = .ok (.lreturn, 1) := zdal_p dlB_T_grows_145 (i := 10) rfl
theorem d_T_grows_76 : decode (zb m_T_grows) 76 = .ok (.aload_n 0, 1) := zdal_p dlB_T_grows_145 (i := 11) rfl
theorem d_T_grows_77 : decode (zb m_T_grows) 77 = .ok (.getfield 28, 3) := zdal_p dlB_T_grows_145 (i := 12) rfl
theorem d_T_grows_80 : decode (zb m_T_grows) 80 = .ok (.bipush 39, 2) := zdal_p dlB_T_grows_145 (i := 13) rfl
theorem d_T_grows_82 : decode (zb m_T_grows) 82 = .ok (.invokevirtual 284, 3) := zdal_p dlB_T_grows_145 (i := 14) rfl
theorem d_T_grows_85 : decode (zb m_T_grows) 85 = .ok (.aload_n 0, 1) := zdal_p dlB_T_grows_145 (i := 15) rfl
theorem d_T_grows_86 : decode (zb m_T_grows) 86 = .ok (.getfield 28, 3) := zdal_p dlB_T_grows_145 (i := 16) rfl
theorem d_T_grows_89 : decode (zb m_T_grows) 89 = .ok (.getfield 169, 3) := zdal_p dlB_T_grows_145 (i := 17) rfl
theorem d_T_grows_92 : decode (zb m_T_grows) 92 = .ok (.iconst 0, 1) := zdal_p dlB_T_grows_145 (i := 18) rfl
theorem d_T_grows_93 : decode (zb m_T_grows) 93 = .ok (.iload_n 3, 1) := zdal_p dlB_T_grows_145 (i := 19) rfl
theorem d_T_grows_94 : decode (zb m_T_grows) 94 = .ok (.invokevirtual 179, 3) := zdal_p dlB_T_grows_145 (i := 20) rfl
theorem d_T_grows_97 : decode (zb m_T_grows) 97 = .ok (.lreturn, 1) := zdal_p dlB_T_grows_145 (i := 21) rfl
theorem dlB_Sums_putGrown_146 : zdal (zb m_Sums_putGrown) [(0, (.iconst 0, 1)), (1, (.istore 4, 2)), (3, (.iload 4, 2)), (5, (.aload_n 0, 1)), (6, (.getfield 23, 3)), (9, (.getfield 35, 3)), (12, (.if_icmp .ge 40, 3)), (15, (.aload_n 0, 1)), (16, (.bipush 39, 2)), (18, (.iload 4, 2)), (20, (.iload_n 1, 1)), (21, (.i2l, 1)), (22, (.aload_n 0, 1)), (23, (.iconst 0, 1)), (24, (.iload 4, 2)), (26, (.invokevirtual 67, 3)), (29, (.lmul, 1)), (30, (.iload 4, 2)), (32, (.iload_n 3, 1)), (33, (.if_icmp .ne 7, 3)), (36, (.iload_n 2, 1)), (37, (.goto 4, 3)), (40, (.iconst 0, 1)), (41, (.i2l, 1))] = true := zDs 0 (by decide +kernel)
theorem d_Sums_putGrown_0 : decode (zb m_Sums_putGrown) 0 = .ok (.iconst 0, 1) := zdal_p dlB_Sums_putGrown_146 (i := 0) rfl
theorem d_Sums_putGrown_1 : decode (zb m_Sums_putGrown) 1 = .ok (.istore 4, 2) := zdal_p dlB_Sums_putGrown_146 (i := 1) rfl
theorem d_Sums_putGrown_3 : decode (zb m_Sums_putGrown) 3 = .ok (.iload 4, 2) := zdal_p dlB_Sums_putGrown_146 (i := 2) rfl
theorem d_Sums_putGrown_5 : decode (zb m_Sums_putGrown) 5 = .ok (.aload_n 0, 1) := zdal_p dlB_Sums_putGrown_146 (i := 3) rfl
theorem d_Sums_putGrown_6 : decode (zb m_Sums_putGrown) 6 = .ok (.getfield 23, 3) := zdal_p dlB_Sums_putGrown_146 (i := 4) rfl
theorem d_Sums_putGrown_9 : decode (zb m_Sums_putGrown) 9 = .ok (.getfield 35, 3) := zdal_p dlB_Sums_putGrown_146 (i := 5) rfl
theorem d_Sums_putGrown_12 : decode (zb m_Sums_putGrown) 12 = .ok (.if_icmp .ge 40, 3) := zdal_p dlB_Sums_putGrown_146 (i := 6) rfl
theorem d_Sums_putGrown_15 : decode (zb m_Sums_putGrown) 15 = .ok (.aload_n 0, 1) := zdal_p dlB_Sums_putGrown_146 (i := 7) rfl
theorem d_Sums_putGrown_16 : decode (zb m_Sums_putGrown) 16 = .ok (.bipush 39, 2) := zdal_p dlB_Sums_putGrown_146 (i := 8) rfl
theorem d_Sums_putGrown_18 : decode (zb m_Sums_putGrown) 18 = .ok (.iload 4, 2) := zdal_p dlB_Sums_putGrown_146 (i := 9) rfl
theorem d_Sums_putGrown_20 : decode (zb m_Sums_putGrown) 20 = .ok (.iload_n 1, 1) := zdal_p dlB_Sums_putGrown_146 (i := 10) rfl
theorem d_Sums_putGrown_21 : decode (zb m_Sums_putGrown) 21 = .ok (.i2l, 1) := zdal_p dlB_Sums_putGrown_146 (i := 11) rfl
theorem d_Sums_putGrown_22 : decode (zb m_Sums_putGrown) 22 = .ok (.aload_n 0, 1) := zdal_p dlB_Sums_putGrown_146 (i := 12) rfl
theorem d_Sums_putGrown_23 : decode (zb m_Sums_putGrown) 23 = .ok (.iconst 0, 1) := zdal_p dlB_Sums_putGrown_146 (i := 13) rfl
theorem d_Sums_putGrown_24 : decode (zb m_Sums_putGrown) 24 = .ok (.iload 4, 2) := zdal_p dlB_Sums_putGrown_146 (i := 14) rfl
theorem d_Sums_putGrown_26 : decode (zb m_Sums_putGrown) 26 = .ok (.invokevirtual 67, 3) := zdal_p dlB_Sums_putGrown_146 (i := 15) rfl
theorem d_Sums_putGrown_29 : decode (zb m_Sums_putGrown) 29 = .ok (.lmul, 1) := zdal_p dlB_Sums_putGrown_146 (i := 16) rfl
theorem d_Sums_putGrown_30 : decode (zb m_Sums_putGrown) 30 = .ok (.iload 4, 2) := zdal_p dlB_Sums_putGrown_146 (i := 17) rfl
theorem d_Sums_putGrown_32 : decode (zb m_Sums_putGrown) 32 = .ok (.iload_n 3, 1) := zdal_p dlB_Sums_putGrown_146 (i := 18) rfl
theorem d_Sums_putGrown_33 : decode (zb m_Sums_putGrown) 33 = .ok (.if_icmp .ne 7, 3) := zdal_p dlB_Sums_putGrown_146 (i := 19) rfl
theorem d_Sums_putGrown_36 : decode (zb m_Sums_putGrown) 36 = .ok (.iload_n 2, 1) := zdal_p dlB_Sums_putGrown_146 (i := 20) rfl
theorem d_Sums_putGrown_37 : decode (zb m_Sums_putGrown) 37 = .ok (.goto 4, 3) := zdal_p dlB_Sums_putGrown_146 (i := 21) rfl
theorem d_Sums_putGrown_40 : decode (zb m_Sums_putGrown) 40 = .ok (.iconst 0, 1) := zdal_p dlB_Sums_putGrown_146 (i := 22) rfl
theorem d_Sums_putGrown_41 : decode (zb m_Sums_putGrown) 41 = .ok (.i2l, 1) := zdal_p dlB_Sums_putGrown_146 (i := 23) rfl
theorem dlB_Sums_putGrown_147 : zdal (zb m_Sums_putGrown) [(42, (.ladd, 1)), (43, (.invokevirtual 70, 3)), (46, (.iinc 4 1, 3)), (49, (.goto (-46), 3)), (52, (.return_, 1))] = true := zDs 42 (by decide +kernel)
theorem d_Sums_putGrown_42 : decode (zb m_Sums_putGrown) 42 = .ok (.ladd, 1) := zdal_p dlB_Sums_putGrown_147 (i := 0) rfl
theorem d_Sums_putGrown_43 : decode (zb m_Sums_putGrown) 43 = .ok (.invokevirtual 70, 3) := zdal_p dlB_Sums_putGrown_147 (i := 1) rfl
theorem d_Sums_putGrown_46 : decode (zb m_Sums_putGrown) 46 = .ok (.iinc 4 1, 3) := zdal_p dlB_Sums_putGrown_147 (i := 2) rfl
theorem d_Sums_putGrown_49 : decode (zb m_Sums_putGrown) 49 = .ok (.goto (-46), 3) := zdal_p dlB_Sums_putGrown_147 (i := 3) rfl
theorem d_Sums_putGrown_52 : decode (zb m_Sums_putGrown) 52 = .ok (.return_, 1) := zdal_p dlB_Sums_putGrown_147 (i := 4) rfl
theorem dlB_T_undo_148 : zdal (zb m_T_undo) [(0, (.aload_n 0, 1)), (1, (.getfield 28, 3)), (4, (.getfield 105, 3)), (7, (.ifCond .le 13, 3)), (10, (.aload_n 0, 1)), (11, (.getfield 28, 3)), (14, (.invokevirtual 314, 3)), (17, (.goto 4, 3)), (20, (.iconst (-1), 1)), (21, (.ireturn, 1))] = true := zDs 0 (by decide +kernel)
theorem d_T_undo_0 : decode (zb m_T_undo) 0 = .ok (.aload_n 0, 1) := zdal_p dlB_T_undo_148 (i := 0) rfl
theorem d_T_undo_1 : decode (zb m_T_undo) 1 = .ok (.getfield 28, 3) := zdal_p dlB_T_undo_148 (i := 1) rfl
theorem d_T_undo_4 : decode (zb m_T_undo) 4 = .ok (.getfield 105, 3) := zdal_p dlB_T_undo_148 (i := 2) rfl
theorem d_T_undo_7 : decode (zb m_T_undo) 7 = .ok (.ifCond .le 13, 3) := zdal_p dlB_T_undo_148 (i := 3) rfl
theorem d_T_undo_10 : decode (zb m_T_undo) 10 = .ok (.aload_n 0, 1) := zdal_p dlB_T_undo_148 (i := 4) rfl
theorem d_T_undo_11 : decode (zb m_T_undo) 11 = .ok (.getfield 28, 3) := zdal_p dlB_T_undo_148 (i := 5) rfl
theorem d_T_undo_14 : decode (zb m_T_undo) 14 = .ok (.invokevirtual 314, 3) := zdal_p dlB_T_undo_148 (i := 6) rfl
theorem d_T_undo_17 : decode (zb m_T_undo) 17 = .ok (.goto 4, 3) := zdal_p dlB_T_undo_148 (i := 7) rfl
theorem d_T_undo_20 : decode (zb m_T_undo) 20 = .ok (.iconst (-1), 1) := zdal_p dlB_T_undo_148 (i := 8) rfl
theorem d_T_undo_21 : decode (zb m_T_undo) 21 = .ok (.ireturn, 1) := zdal_p dlB_T_undo_148 (i := 9) rfl
theorem dlB_Troupe_takeBack_149 : zdal (zb m_Troupe_takeBack) [(0, (.aload_n 0, 1)), (1, (.aload_n 0, 1)), (2, (.getfield 71, 3)), (5, (.bipush 12, 2)), (7, (.iadd, 1)), (8, (.iconst 1, 1)), (9, (.isub, 1)), (10, (.bipush 12, 2)), (12, (.irem, 1)), (13, (.putfield 71, 3)), (16, (.aload_n 0, 1)), (17, (.dup, 1)), (18, (.getfield 68, 3)), (21, (.iconst 1, 1)), (22, (.isub, 1)), (23, (.putfield 68, 3)), (26, (.aload_n 0, 1)), (27, (.getfield 32, 3)), (30, (.bipush 9, 2)), (32, (.aload_n 0, 1)), (33, (.getfield 71, 3)), (36, (.iadd, 1)), (37, (.iconst 0, 1)), (38, (.invokevirtual 93, 3))] = true := zDs 0 (by decide +kernel)
theorem d_Troupe_takeBack_0 : decode (zb m_Troupe_takeBack) 0 = .ok (.aload_n 0, 1) := zdal_p dlB_Troupe_takeBack_149 (i := 0) rfl
theorem d_Troupe_takeBack_1 : decode (zb m_Troupe_takeBack) 1 = .ok (.aload_n 0, 1) := zdal_p dlB_Troupe_takeBack_149 (i := 1) rfl
theorem d_Troupe_takeBack_2 : decode (zb m_Troupe_takeBack) 2 = .ok (.getfield 71, 3) := zdal_p dlB_Troupe_takeBack_149 (i := 2) rfl
theorem d_Troupe_takeBack_5 : decode (zb m_Troupe_takeBack) 5 = .ok (.bipush 12, 2) := zdal_p dlB_Troupe_takeBack_149 (i := 3) rfl
theorem d_Troupe_takeBack_7 : decode (zb m_Troupe_takeBack) 7 = .ok (.iadd, 1) := zdal_p dlB_Troupe_takeBack_149 (i := 4) rfl
theorem d_Troupe_takeBack_8 : decode (zb m_Troupe_takeBack) 8 = .ok (.iconst 1, 1) := zdal_p dlB_Troupe_takeBack_149 (i := 5) rfl
theorem d_Troupe_takeBack_9 : decode (zb m_Troupe_takeBack) 9 = .ok (.isub, 1) := zdal_p dlB_Troupe_takeBack_149 (i := 6) rfl
theorem d_Troupe_takeBack_10 : decode (zb m_Troupe_takeBack) 10 = .ok (.bipush 12, 2) := zdal_p dlB_Troupe_takeBack_149 (i := 7) rfl
theorem d_Troupe_takeBack_12 : decode (zb m_Troupe_takeBack) 12 = .ok (.irem, 1) := zdal_p dlB_Troupe_takeBack_149 (i := 8) rfl
theorem d_Troupe_takeBack_13 : decode (zb m_Troupe_takeBack) 13 = .ok (.putfield 71, 3) := zdal_p dlB_Troupe_takeBack_149 (i := 9) rfl
theorem d_Troupe_takeBack_16 : decode (zb m_Troupe_takeBack) 16 = .ok (.aload_n 0, 1) := zdal_p dlB_Troupe_takeBack_149 (i := 10) rfl
theorem d_Troupe_takeBack_17 : decode (zb m_Troupe_takeBack) 17 = .ok (.dup, 1) := zdal_p dlB_Troupe_takeBack_149 (i := 11) rfl
theorem d_Troupe_takeBack_18 : decode (zb m_Troupe_takeBack) 18 = .ok (.getfield 68, 3) := zdal_p dlB_Troupe_takeBack_149 (i := 12) rfl
theorem d_Troupe_takeBack_21 : decode (zb m_Troupe_takeBack) 21 = .ok (.iconst 1, 1) := zdal_p dlB_Troupe_takeBack_149 (i := 13) rfl
theorem d_Troupe_takeBack_22 : decode (zb m_Troupe_takeBack) 22 = .ok (.isub, 1) := zdal_p dlB_Troupe_takeBack_149 (i := 14) rfl
theorem d_Troupe_takeBack_23 : decode (zb m_Troupe_takeBack) 23 = .ok (.putfield 68, 3) := zdal_p dlB_Troupe_takeBack_149 (i := 15) rfl
theorem d_Troupe_takeBack_26 : decode (zb m_Troupe_takeBack) 26 = .ok (.aload_n 0, 1) := zdal_p dlB_Troupe_takeBack_149 (i := 16) rfl
theorem d_Troupe_takeBack_27 : decode (zb m_Troupe_takeBack) 27 = .ok (.getfield 32, 3) := zdal_p dlB_Troupe_takeBack_149 (i := 17) rfl
theorem d_Troupe_takeBack_30 : decode (zb m_Troupe_takeBack) 30 = .ok (.bipush 9, 2) := zdal_p dlB_Troupe_takeBack_149 (i := 18) rfl
theorem d_Troupe_takeBack_32 : decode (zb m_Troupe_takeBack) 32 = .ok (.aload_n 0, 1) := zdal_p dlB_Troupe_takeBack_149 (i := 19) rfl
theorem d_Troupe_takeBack_33 : decode (zb m_Troupe_takeBack) 33 = .ok (.getfield 71, 3) := zdal_p dlB_Troupe_takeBack_149 (i := 20) rfl
theorem d_Troupe_takeBack_36 : decode (zb m_Troupe_takeBack) 36 = .ok (.iadd, 1) := zdal_p dlB_Troupe_takeBack_149 (i := 21) rfl
theorem d_Troupe_takeBack_37 : decode (zb m_Troupe_takeBack) 37 = .ok (.iconst 0, 1) := zdal_p dlB_Troupe_takeBack_149 (i := 22) rfl
theorem d_Troupe_takeBack_38 : decode (zb m_Troupe_takeBack) 38 = .ok (.invokevirtual 93, 3) := zdal_p dlB_Troupe_takeBack_149 (i := 23) rfl
theorem dlB_Troupe_takeBack_150 : zdal (zb m_Troupe_takeBack) [(41, (.aload_n 0, 1)), (42, (.getfield 68, 3)), (45, (.ireturn, 1))] = true := zDs 41 (by decide +kernel)
theorem d_Troupe_takeBack_41 : decode (zb m_Troupe_takeBack) 41 = .ok (.aload_n 0, 1) := zdal_p dlB_Troupe_takeBack_150 (i := 0) rfl
theorem d_Troupe_takeBack_42 : decode (zb m_Troupe_takeBack) 42 = .ok (.getfield 68, 3) := zdal_p dlB_Troupe_takeBack_150 (i := 1) rfl
theorem d_Troupe_takeBack_45 : decode (zb m_Troupe_takeBack) 45 = .ok (.ireturn, 1) := zdal_p dlB_Troupe_takeBack_150 (i := 2) rfl
theorem dlB_Integer_bitCount_152 : zdal (zb m_Integer_bitCount) [(0, (.iload_n 0, 1)), (1, (.iload_n 0, 1)), (2, (.iconst 1, 1)), (3, (.iushr, 1)), (4, (.ldc_w 265, 3)), (7, (.iand, 1)), (8, (.isub, 1)), (9, (.istore_n 0, 1)), (10, (.iload_n 0, 1)), (11, (.ldc_w 266, 3)), (14, (.iand, 1)), (15, (.iload_n 0, 1)), (16, (.iconst 2, 1)), (17, (.iushr, 1)), (18, (.ldc_w 266, 3)), (21, (.iand, 1)), (22, (.iadd, 1)), (23, (.istore_n 0, 1)), (24, (.iload_n 0, 1)), (25, (.iload_n 0, 1)), (26, (.iconst 4, 1)), (27, (.iushr, 1)), (28, (.iadd, 1)), (29, (.ldc_w 267, 3))] = true := zDs 0 (by decide +kernel)
theorem d_Integer_bitCount_0 : decode (zb m_Integer_bitCount) 0 = .ok (.iload_n 0, 1) := zdal_p dlB_Integer_bitCount_152 (i := 0) rfl
theorem d_Integer_bitCount_1 : decode (zb m_Integer_bitCount) 1 = .ok (.iload_n 0, 1) := zdal_p dlB_Integer_bitCount_152 (i := 1) rfl
theorem d_Integer_bitCount_2 : decode (zb m_Integer_bitCount) 2 = .ok (.iconst 1, 1) := zdal_p dlB_Integer_bitCount_152 (i := 2) rfl
theorem d_Integer_bitCount_3 : decode (zb m_Integer_bitCount) 3 = .ok (.iushr, 1) := zdal_p dlB_Integer_bitCount_152 (i := 3) rfl
theorem d_Integer_bitCount_4 : decode (zb m_Integer_bitCount) 4 = .ok (.ldc_w 265, 3) := zdal_p dlB_Integer_bitCount_152 (i := 4) rfl
theorem d_Integer_bitCount_7 : decode (zb m_Integer_bitCount) 7 = .ok (.iand, 1) := zdal_p dlB_Integer_bitCount_152 (i := 5) rfl
theorem d_Integer_bitCount_8 : decode (zb m_Integer_bitCount) 8 = .ok (.isub, 1) := zdal_p dlB_Integer_bitCount_152 (i := 6) rfl
theorem d_Integer_bitCount_9 : decode (zb m_Integer_bitCount) 9 = .ok (.istore_n 0, 1) := zdal_p dlB_Integer_bitCount_152 (i := 7) rfl
theorem d_Integer_bitCount_10 : decode (zb m_Integer_bitCount) 10 = .ok (.iload_n 0, 1) := zdal_p dlB_Integer_bitCount_152 (i := 8) rfl
theorem d_Integer_bitCount_11 : decode (zb m_Integer_bitCount) 11 = .ok (.ldc_w 266, 3) := zdal_p dlB_Integer_bitCount_152 (i := 9) rfl
theorem d_Integer_bitCount_14 : decode (zb m_Integer_bitCount) 14 = .ok (.iand, 1) := zdal_p dlB_Integer_bitCount_152 (i := 10) rfl
theorem d_Integer_bitCount_15 : decode (zb m_Integer_bitCount) 15 = .ok (.iload_n 0, 1) := zdal_p dlB_Integer_bitCount_152 (i := 11) rfl
theorem d_Integer_bitCount_16 : decode (zb m_Integer_bitCount) 16 = .ok (.iconst 2, 1) := zdal_p dlB_Integer_bitCount_152 (i := 12) rfl
theorem d_Integer_bitCount_17 : decode (zb m_Integer_bitCount) 17 = .ok (.iushr, 1) := zdal_p dlB_Integer_bitCount_152 (i := 13) rfl
theorem d_Integer_bitCount_18 : decode (zb m_Integer_bitCount) 18 = .ok (.ldc_w 266, 3) := zdal_p dlB_Integer_bitCount_152 (i := 14) rfl
theorem d_Integer_bitCount_21 : decode (zb m_Integer_bitCount) 21 = .ok (.iand, 1) := zdal_p dlB_Integer_bitCount_152 (i := 15) rfl
theorem d_Integer_bitCount_22 : decode (zb m_Integer_bitCount) 22 = .ok (.iadd, 1) := zdal_p dlB_Integer_bitCount_152 (i := 16) rfl
theorem d_Integer_bitCount_23 : decode (zb m_Integer_bitCount) 23 = .ok (.istore_n 0, 1) := zdal_p dlB_Integer_bitCount_152 (i := 17) rfl
theorem d_Integer_bitCount_24 : decode (zb m_Integer_bitCount) 24 = .ok (.iload_n 0, 1) := zdal_p dlB_Integer_bitCount_152 (i := 18) rfl
theorem d_Integer_bitCount_25 : decode (zb m_Integer_bitCount) 25 = .ok (.iload_n 0, 1) := zdal_p dlB_Integer_bitCount_152 (i := 19) rfl
theorem d_Integer_bitCount_26 : decode (zb m_Integer_bitCount) 26 = .ok (.iconst 4, 1) := zdal_p dlB_Integer_bitCount_152 (i := 20) rfl
theorem d_Integer_bitCount_27 : decode (zb m_Integer_bitCount) 27 = .ok (.iushr, 1) := zdal_p dlB_Integer_bitCount_152 (i := 21) rfl
theorem d_Integer_bitCount_28 : decode (zb m_Integer_bitCount) 28 = .ok (.iadd, 1) := zdal_p dlB_Integer_bitCount_152 (i := 22) rfl
theorem d_Integer_bitCount_29 : decode (zb m_Integer_bitCount) 29 = .ok (.ldc_w 267, 3) := zdal_p dlB_Integer_bitCount_152 (i := 23) rfl
theorem dlB_Integer_bitCount_153 : zdal (zb m_Integer_bitCount) [(32, (.iand, 1)), (33, (.istore_n 0, 1)), (34, (.iload_n 0, 1)), (35, (.iload_n 0, 1)), (36, (.bipush 8, 2)), (38, (.iushr, 1)), (39, (.iadd, 1)), (40, (.istore_n 0, 1)), (41, (.iload_n 0, 1)), (42, (.iload_n 0, 1)), (43, (.bipush 16, 2)), (45, (.iushr, 1)), (46, (.iadd, 1)), (47, (.istore_n 0, 1)), (48, (.iload_n 0, 1)), (49, (.bipush 63, 2)), (51, (.iand, 1)), (52, (.ireturn, 1))] = true := zDs 32 (by decide +kernel)
theorem d_Integer_bitCount_32 : decode (zb m_Integer_bitCount) 32 = .ok (.iand, 1) := zdal_p dlB_Integer_bitCount_153 (i := 0) rfl
theorem d_Integer_bitCount_33 : decode (zb m_Integer_bitCount) 33 = .ok (.istore_n 0, 1) := zdal_p dlB_Integer_bitCount_153 (i := 1) rfl
theorem d_Integer_bitCount_34 : decode (zb m_Integer_bitCount) 34 = .ok (.iload_n 0, 1) := zdal_p dlB_Integer_bitCount_153 (i := 2) rfl
theorem d_Integer_bitCount_35 : decode (zb m_Integer_bitCount) 35 = .ok (.iload_n 0, 1) := zdal_p dlB_Integer_bitCount_153 (i := 3) rfl
theorem d_Integer_bitCount_36 : decode (zb m_Integer_bitCount) 36 = .ok (.bipush 8, 2) := zdal_p dlB_Integer_bitCount_153 (i := 4) rfl
theorem d_Integer_bitCount_38 : decode (zb m_Integer_bitCount) 38 = .ok (.iushr, 1) := zdal_p dlB_Integer_bitCount_153 (i := 5) rfl
theorem d_Integer_bitCount_39 : decode (zb m_Integer_bitCount) 39 = .ok (.iadd, 1) := zdal_p dlB_Integer_bitCount_153 (i := 6) rfl
theorem d_Integer_bitCount_40 : decode (zb m_Integer_bitCount) 40 = .ok (.istore_n 0, 1) := zdal_p dlB_Integer_bitCount_153 (i := 7) rfl
theorem d_Integer_bitCount_41 : decode (zb m_Integer_bitCount) 41 = .ok (.iload_n 0, 1) := zdal_p dlB_Integer_bitCount_153 (i := 8) rfl
theorem d_Integer_bitCount_42 : decode (zb m_Integer_bitCount) 42 = .ok (.iload_n 0, 1) := zdal_p dlB_Integer_bitCount_153 (i := 9) rfl
theorem d_Integer_bitCount_43 : decode (zb m_Integer_bitCount) 43 = .ok (.bipush 16, 2) := zdal_p dlB_Integer_bitCount_153 (i := 10) rfl
theorem d_Integer_bitCount_45 : decode (zb m_Integer_bitCount) 45 = .ok (.iushr, 1) := zdal_p dlB_Integer_bitCount_153 (i := 11) rfl
theorem d_Integer_bitCount_46 : decode (zb m_Integer_bitCount) 46 = .ok (.iadd, 1) := zdal_p dlB_Integer_bitCount_153 (i := 12) rfl
theorem d_Integer_bitCount_47 : decode (zb m_Integer_bitCount) 47 = .ok (.istore_n 0, 1) := zdal_p dlB_Integer_bitCount_153 (i := 13) rfl
theorem d_Integer_bitCount_48 : decode (zb m_Integer_bitCount) 48 = .ok (.iload_n 0, 1) := zdal_p dlB_Integer_bitCount_153 (i := 14) rfl
theorem d_Integer_bitCount_49 : decode (zb m_Integer_bitCount) 49 = .ok (.bipush 63, 2) := zdal_p dlB_Integer_bitCount_153 (i := 15) rfl
theorem d_Integer_bitCount_51 : decode (zb m_Integer_bitCount) 51 = .ok (.iand, 1) := zdal_p dlB_Integer_bitCount_153 (i := 16) rfl
theorem d_Integer_bitCount_52 : decode (zb m_Integer_bitCount) 52 = .ok (.ireturn, 1) := zdal_p dlB_Integer_bitCount_153 (i := 17) rfl
