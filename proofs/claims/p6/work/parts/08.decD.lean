theorem dlD_M_moves_0 : zdal (zb m_M_moves) [(0, (.aload_n 0, 1)), (1, (.iload_n 1, 1)), (2, (.invokevirtual 400, 3)), (5, (.ifCond .eq 33, 3)), (8, (.iload_n 2, 1)), (9, (.i2l, 1)), (10, (.lconst 0, 1)), (11, (.aload_n 0, 1)), (12, (.getfield 382, 3)), (15, (.iconst 1, 1)), (16, (.isub, 1)), (17, (.i2l, 1)), (18, (.invokestatic 131, 3)), (21, (.ifCond .eq 17, 3)), (24, (.aload_n 0, 1)), (25, (.getfield 26, 3)), (28, (.bipush 6, 2)), (30, (.iload_n 1, 1)), (31, (.imul, 1)), (32, (.iload_n 2, 1)), (33, (.iadd, 1)), (34, (.iaload, 1)), (35, (.goto 4, 3)), (38, (.iconst (-1), 1))] = true := zYQs 0 (by decide +kernel)
theorem dlD_M_moves_1 : zdal (zb m_M_moves) [(39, (.ireturn, 1))] = true := zYQs 39 (by decide +kernel)
theorem dlD_M_isMember_2 : zdal (zb m_M_isMember) [(0, (.iload_n 1, 1)), (1, (.i2l, 1)), (2, (.lconst 0, 1)), (3, (.aload_n 0, 1)), (4, (.getfield 196, 3)), (7, (.iconst 1, 1)), (8, (.isub, 1)), (9, (.i2l, 1)), (10, (.invokestatic 131, 3)), (13, (.ireturn, 1))] = true := zYQs 0 (by decide +kernel)
theorem dlD_M_times_3 : zdal (zb m_M_times) [(0, (.aload_n 0, 1)), (1, (.iload_n 1, 1)), (2, (.invokevirtual 400, 3)), (5, (.ifCond .eq 20, 3)), (8, (.aload_n 0, 1)), (9, (.iload_n 2, 1)), (10, (.invokevirtual 400, 3)), (13, (.ifCond .eq 12, 3)), (16, (.aload_n 0, 1)), (17, (.iload_n 1, 1)), (18, (.iload_n 2, 1)), (19, (.invokevirtual 216, 3)), (22, (.goto 4, 3)), (25, (.iconst (-1), 1)), (26, (.ireturn, 1))] = true := zYQs 0 (by decide +kernel)
theorem dlD_M_order_4 : zdal (zb m_M_order) [(0, (.aload_n 0, 1)), (1, (.iload_n 1, 1)), (2, (.invokevirtual 400, 3)), (5, (.ifCond .eq 11, 3)), (8, (.aload_n 0, 1)), (9, (.iload_n 1, 1)), (10, (.invokevirtual 403, 3)), (13, (.goto 4, 3)), (16, (.iconst (-1), 1)), (17, (.ireturn, 1))] = true := zYQs 0 (by decide +kernel)
theorem dlD_M_timesOf_5 : zdal (zb m_M_timesOf) [(0, (.iconst 1, 1)), (1, (.istore_n 2, 1)), (2, (.iload_n 1, 1)), (3, (.istore_n 3, 1)), (4, (.iload_n 3, 1)), (5, (.ifCond .eq 16, 3)), (8, (.iinc 2 1, 3)), (11, (.aload_n 0, 1)), (12, (.iload_n 3, 1)), (13, (.iload_n 1, 1)), (14, (.invokevirtual 216, 3)), (17, (.istore_n 3, 1)), (18, (.goto (-14), 3)), (21, (.iload_n 2, 1)), (22, (.ireturn, 1))] = true := zYQs 0 (by decide +kernel)
theorem dlD_M_orders_6 : zdal (zb m_M_orders) [(0, (.iload_n 1, 1)), (1, (.i2l, 1)), (2, (.lconst 1, 1)), (3, (.ldc2_w 406, 3)), (6, (.invokestatic 131, 3)), (9, (.ifCond .ne 5, 3)), (12, (.iconst (-1), 1)), (13, (.ireturn, 1)), (14, (.iconst 0, 1)), (15, (.istore_n 2, 1)), (16, (.iconst 0, 1)), (17, (.istore_n 3, 1)), (18, (.iload_n 3, 1)), (19, (.aload_n 0, 1)), (20, (.getfield 196, 3)), (23, (.if_icmp .ge 29, 3)), (26, (.iload_n 2, 1)), (27, (.aload_n 0, 1)), (28, (.iload_n 3, 1)), (29, (.invokevirtual 403, 3)), (32, (.iload_n 1, 1)), (33, (.if_icmp .ne 7, 3)), (36, (.iconst 1, 1)), (37, (.goto 4, 3))] = true := zYQs 0 (by decide +kernel)
theorem dlD_M_orders_7 : zdal (zb m_M_orders) [(40, (.iconst 0, 1)), (41, (.invokestatic 256, 3)), (44, (.iadd, 1)), (45, (.istore_n 2, 1)), (46, (.iinc 3 1, 3)), (49, (.goto (-31), 3)), (52, (.iload_n 2, 1)), (53, (.ireturn, 1))] = true := zYQs 40 (by decide +kernel)
theorem dlD_M_alike_8 : zdal (zb m_M_alike) [(0, (.iconst 0, 1)), (1, (.istore_n 1, 1)), (2, (.iconst 0, 1)), (3, (.istore_n 2, 1)), (4, (.iload_n 2, 1)), (5, (.aload_n 0, 1)), (6, (.getfield 196, 3)), (9, (.if_icmp .ge 51, 3)), (12, (.iconst 0, 1)), (13, (.istore_n 3, 1)), (14, (.iload_n 3, 1)), (15, (.aload_n 0, 1)), (16, (.getfield 196, 3)), (19, (.if_icmp .ge 35, 3)), (22, (.iload_n 1, 1)), (23, (.aload_n 0, 1)), (24, (.iload_n 2, 1)), (25, (.iload_n 3, 1)), (26, (.invokevirtual 216, 3)), (29, (.aload_n 0, 1)), (30, (.iload_n 3, 1)), (31, (.iload_n 2, 1)), (32, (.invokevirtual 216, 3)), (35, (.if_icmp .ne 7, 3))] = true := zYQs 0 (by decide +kernel)
theorem dlD_M_alike_9 : zdal (zb m_M_alike) [(38, (.iconst 1, 1)), (39, (.goto 4, 3)), (42, (.iconst 0, 1)), (43, (.invokestatic 256, 3)), (46, (.iadd, 1)), (47, (.istore_n 1, 1)), (48, (.iinc 3 1, 3)), (51, (.goto (-37), 3)), (54, (.iinc 2 1, 3)), (57, (.goto (-53), 3)), (60, (.iload_n 1, 1)), (61, (.ireturn, 1))] = true := zYQs 38 (by decide +kernel)
theorem dlD_M_makesOf_10 : zdal (zb m_M_makesOf) [(0, (.aload_n 0, 1)), (1, (.iload_n 1, 1)), (2, (.invokevirtual 408, 3)), (5, (.ifCond .eq 11, 3)), (8, (.aload_n 0, 1)), (9, (.iload_n 1, 1)), (10, (.invokevirtual 229, 3)), (13, (.goto 4, 3)), (16, (.iconst (-1), 1)), (17, (.ireturn, 1))] = true := zYQs 0 (by decide +kernel)
theorem dlD_M_areMembers_11 : zdal (zb m_M_areMembers) [(0, (.iload_n 1, 1)), (1, (.i2l, 1)), (2, (.lconst 0, 1)), (3, (.iconst 1, 1)), (4, (.aload_n 0, 1)), (5, (.getfield 196, 3)), (8, (.ishl, 1)), (9, (.iconst 1, 1)), (10, (.isub, 1)), (11, (.i2l, 1)), (12, (.invokestatic 131, 3)), (15, (.ireturn, 1))] = true := zYQs 0 (by decide +kernel)
theorem dlD_M_sortOf_12 : zdal (zb m_M_sortOf) [(0, (.aload_n 0, 1)), (1, (.iload_n 1, 1)), (2, (.invokevirtual 408, 3)), (5, (.ifCond .eq 15, 3)), (8, (.aload_n 0, 1)), (9, (.aload_n 0, 1)), (10, (.iload_n 1, 1)), (11, (.invokevirtual 229, 3)), (14, (.invokevirtual 411, 3)), (17, (.goto 4, 3)), (20, (.iconst (-1), 1)), (21, (.ireturn, 1))] = true := zYQs 0 (by decide +kernel)
theorem dlD_M_sortOfSet_13 : zdal (zb m_M_sortOfSet) [(0, (.aload_n 0, 1)), (1, (.getfield 41, 3)), (4, (.aload_n 0, 1)), (5, (.iload_n 1, 1)), (6, (.invokevirtual 232, 3)), (9, (.iaload, 1)), (10, (.ireturn, 1))] = true := zYQs 0 (by decide +kernel)
theorem dlD_M_sort_14 : zdal (zb m_M_sort) [(0, (.aload_n 0, 1)), (1, (.iload_n 1, 1)), (2, (.invokevirtual 414, 3)), (5, (.ifCond .ne 5, 3)), (8, (.iconst (-1), 1)), (9, (.ireturn, 1)), (10, (.iload_n 2, 1)), (11, (.tableswitch 103 0 5 #[37, 47, 54, 61, 75, 89], 37)), (48, (.aload_n 0, 1)), (49, (.getfield 44, 3)), (52, (.iload_n 1, 1)), (53, (.iaload, 1)), (54, (.invokestatic 253, 3)), (57, (.ireturn, 1)), (58, (.aload_n 0, 1)), (59, (.getfield 47, 3)), (62, (.iload_n 1, 1)), (63, (.iaload, 1)), (64, (.ireturn, 1)), (65, (.aload_n 0, 1)), (66, (.getfield 44, 3)), (69, (.iload_n 1, 1)), (70, (.iaload, 1)), (71, (.ireturn, 1))] = true := zYQs 0 (by decide +kernel)
theorem d_M_sort_11 : decode (zb m_M_sort) 11 = .ok (.tableswitch 103 0 5 #[37, 47, 54, 61, 75, 89], 37) := zdal_p dlD_M_sort_14 (i := 7) rfl
theorem dlD_M_sort_15 : zdal (zb m_M_sort) [(72, (.aload_n 0, 1)), (73, (.aload_n 0, 1)), (74, (.getfield 44, 3)), (77, (.iload_n 1, 1)), (78, (.iaload, 1)), (79, (.invokevirtual 417, 3)), (82, (.invokestatic 253, 3)), (85, (.ireturn, 1)), (86, (.aload_n 0, 1)), (87, (.aload_n 0, 1)), (88, (.getfield 44, 3)), (91, (.iload_n 1, 1)), (92, (.iaload, 1)), (93, (.invokevirtual 420, 3)), (96, (.invokestatic 256, 3)), (99, (.ireturn, 1)), (100, (.aload_n 0, 1)), (101, (.aload_n 0, 1)), (102, (.getfield 44, 3)), (105, (.iload_n 1, 1)), (106, (.iaload, 1)), (107, (.invokevirtual 397, 3)), (110, (.invokestatic 256, 3)), (113, (.ireturn, 1))] = true := zYQs 72 (by decide +kernel)
theorem dlD_M_sort_16 : zdal (zb m_M_sort) [(114, (.iconst (-1), 1)), (115, (.ireturn, 1))] = true := zYQs 114 (by decide +kernel)
theorem dlD_M_isSort_17 : zdal (zb m_M_isSort) [(0, (.iload_n 1, 1)), (1, (.i2l, 1)), (2, (.lconst 0, 1)), (3, (.aload_n 0, 1)), (4, (.getfield 235, 3)), (7, (.iconst 1, 1)), (8, (.isub, 1)), (9, (.i2l, 1)), (10, (.invokestatic 131, 3)), (13, (.ireturn, 1))] = true := zYQs 0 (by decide +kernel)
theorem dlD_M_normOf_18 : zdal (zb m_M_normOf) [(0, (.iconst 0, 1)), (1, (.istore_n 2, 1)), (2, (.iconst 0, 1)), (3, (.istore_n 3, 1)), (4, (.iload_n 3, 1)), (5, (.aload_n 0, 1)), (6, (.getfield 196, 3)), (9, (.if_icmp .ge 32, 3)), (12, (.iload_n 2, 1)), (13, (.aload_n 0, 1)), (14, (.iload_n 1, 1)), (15, (.iload_n 3, 1)), (16, (.invokevirtual 223, 3)), (19, (.iload_n 1, 1)), (20, (.if_icmp .ne 7, 3)), (23, (.iconst 1, 1)), (24, (.goto 4, 3)), (27, (.iconst 0, 1)), (28, (.invokestatic 256, 3)), (31, (.iload_n 3, 1)), (32, (.ishl, 1)), (33, (.ior, 1)), (34, (.istore_n 2, 1)), (35, (.iinc 3 1, 3))] = true := zYQs 0 (by decide +kernel)
theorem dlD_M_normOf_19 : zdal (zb m_M_normOf) [(38, (.goto (-34), 3)), (41, (.iload_n 2, 1)), (42, (.ireturn, 1))] = true := zYQs 38 (by decide +kernel)
theorem dlD_M_isOfOne_20 : zdal (zb m_M_isOfOne) [(0, (.iconst 0, 1)), (1, (.istore_n 2, 1)), (2, (.iload_n 2, 1)), (3, (.aload_n 0, 1)), (4, (.getfield 196, 3)), (7, (.if_icmp .ge 30, 3)), (10, (.iload_n 1, 1)), (11, (.iload_n 2, 1)), (12, (.invokestatic 213, 3)), (15, (.ifCond .eq 16, 3)), (18, (.aload_n 0, 1)), (19, (.iconst 1, 1)), (20, (.iload_n 2, 1)), (21, (.ishl, 1)), (22, (.invokevirtual 229, 3)), (25, (.iload_n 1, 1)), (26, (.if_icmp .ne 5, 3)), (29, (.iconst 1, 1)), (30, (.ireturn, 1)), (31, (.iinc 2 1, 3)), (34, (.goto (-32), 3)), (37, (.iconst 0, 1)), (38, (.ireturn, 1))] = true := zYQs 0 (by decide +kernel)
theorem dlD_M_meet_21 : zdal (zb m_M_meet) [(0, (.aload_n 0, 1)), (1, (.iload_n 1, 1)), (2, (.invokevirtual 414, 3)), (5, (.ifCond .eq 11, 3)), (8, (.aload_n 0, 1)), (9, (.iload_n 2, 1)), (10, (.invokevirtual 414, 3)), (13, (.ifCond .ne 5, 3)), (16, (.iconst (-1), 1)), (17, (.ireturn, 1)), (18, (.aload_n 0, 1)), (19, (.aload_n 0, 1)), (20, (.getfield 44, 3)), (23, (.iload_n 1, 1)), (24, (.iaload, 1)), (25, (.aload_n 0, 1)), (26, (.getfield 44, 3)), (29, (.iload_n 2, 1)), (30, (.iaload, 1)), (31, (.iand, 1)), (32, (.invokevirtual 411, 3)), (35, (.ireturn, 1))] = true := zYQs 0 (by decide +kernel)
theorem dlD_M_join_22 : zdal (zb m_M_join) [(0, (.aload_n 0, 1)), (1, (.iload_n 1, 1)), (2, (.invokevirtual 414, 3)), (5, (.ifCond .eq 11, 3)), (8, (.aload_n 0, 1)), (9, (.iload_n 2, 1)), (10, (.invokevirtual 414, 3)), (13, (.ifCond .ne 5, 3)), (16, (.iconst (-1), 1)), (17, (.ireturn, 1)), (18, (.aload_n 0, 1)), (19, (.aload_n 0, 1)), (20, (.aload_n 0, 1)), (21, (.getfield 44, 3)), (24, (.iload_n 1, 1)), (25, (.iaload, 1)), (26, (.aload_n 0, 1)), (27, (.getfield 44, 3)), (30, (.iload_n 2, 1)), (31, (.iaload, 1)), (32, (.ior, 1)), (33, (.invokevirtual 229, 3)), (36, (.invokevirtual 411, 3)), (39, (.ireturn, 1))] = true := zYQs 0 (by decide +kernel)
theorem dlD_M_within_23 : zdal (zb m_M_within) [(0, (.aload_n 0, 1)), (1, (.iload_n 1, 1)), (2, (.invokevirtual 414, 3)), (5, (.ifCond .eq 11, 3)), (8, (.aload_n 0, 1)), (9, (.iload_n 2, 1)), (10, (.invokevirtual 414, 3)), (13, (.ifCond .ne 5, 3)), (16, (.iconst (-1), 1)), (17, (.ireturn, 1)), (18, (.iconst 0, 1)), (19, (.istore_n 3, 1)), (20, (.iconst 0, 1)), (21, (.istore 4, 2)), (23, (.iload 4, 2)), (25, (.aload_n 0, 1)), (26, (.getfield 220, 3)), (29, (.if_icmp .ge 50, 3)), (32, (.iload_n 3, 1)), (33, (.aload_n 0, 1)), (34, (.getfield 41, 3)), (37, (.iload 4, 2)), (39, (.iaload, 1)), (40, (.iload_n 1, 1))] = true := zYQs 0 (by decide +kernel)
theorem dlD_M_within_24 : zdal (zb m_M_within) [(41, (.if_icmp .ne 26, 3)), (44, (.aload_n 0, 1)), (45, (.getfield 38, 3)), (48, (.iload 4, 2)), (50, (.iaload, 1)), (51, (.aload_n 0, 1)), (52, (.getfield 44, 3)), (55, (.iload_n 2, 1)), (56, (.iaload, 1)), (57, (.iconst (-1), 1)), (58, (.ixor, 1)), (59, (.iand, 1)), (60, (.ifCond .ne 7, 3)), (63, (.iconst 1, 1)), (64, (.goto 4, 3)), (67, (.iconst 0, 1)), (68, (.invokestatic 256, 3)), (71, (.iadd, 1)), (72, (.istore_n 3, 1)), (73, (.iinc 4 1, 3)), (76, (.goto (-53), 3)), (79, (.iload_n 3, 1)), (80, (.ireturn, 1))] = true := zYQs 41 (by decide +kernel)
theorem dlD_M_mark_25 : zdal (zb m_M_mark) [(0, (.aload_n 0, 1)), (1, (.iload_n 1, 1)), (2, (.invokevirtual 414, 3)), (5, (.ifCond .eq 25, 3)), (8, (.aload_n 0, 1)), (9, (.iload_n 2, 1)), (10, (.invokevirtual 414, 3)), (13, (.ifCond .eq 17, 3)), (16, (.aload_n 0, 1)), (17, (.getfield 50, 3)), (20, (.bipush 64, 2)), (22, (.iload_n 1, 1)), (23, (.imul, 1)), (24, (.iload_n 2, 1)), (25, (.iadd, 1)), (26, (.iaload, 1)), (27, (.goto 4, 3)), (30, (.iconst (-1), 1)), (31, (.ireturn, 1))] = true := zYQs 0 (by decide +kernel)
theorem dlD_M_product_26 : zdal (zb m_M_product) [(0, (.aload_n 0, 1)), (1, (.iload_n 1, 1)), (2, (.invokevirtual 414, 3)), (5, (.ifCond .eq 19, 3)), (8, (.aload_n 0, 1)), (9, (.iload_n 2, 1)), (10, (.invokevirtual 414, 3)), (13, (.ifCond .eq 11, 3)), (16, (.aload_n 0, 1)), (17, (.iload_n 3, 1)), (18, (.invokevirtual 414, 3)), (21, (.ifCond .ne 5, 3)), (24, (.iconst (-1), 1)), (25, (.ireturn, 1)), (26, (.aload_n 0, 1)), (27, (.iload_n 1, 1)), (28, (.iload_n 2, 1)), (29, (.invokevirtual 423, 3)), (32, (.aload_n 0, 1)), (33, (.getfield 87, 3)), (36, (.iload_n 3, 1)), (37, (.laload, 1)), (38, (.l2i, 1)), (39, (.ireturn, 1))] = true := zYQs 0 (by decide +kernel)
theorem dlD_M_worksProduct_27 : zdal (zb m_M_worksProduct) [(0, (.iconst 0, 1)), (1, (.istore_n 3, 1)), (2, (.iload_n 3, 1)), (3, (.aload_n 0, 1)), (4, (.getfield 235, 3)), (7, (.if_icmp .ge 40, 3)), (10, (.aload_n 0, 1)), (11, (.getfield 60, 3)), (14, (.iload_n 3, 1)), (15, (.aload_n 0, 1)), (16, (.getfield 50, 3)), (19, (.bipush 64, 2)), (21, (.iload_n 1, 1)), (22, (.imul, 1)), (23, (.iload_n 3, 1)), (24, (.iadd, 1)), (25, (.iaload, 1)), (26, (.i2l, 1)), (27, (.aload_n 0, 1)), (28, (.getfield 50, 3)), (31, (.bipush 64, 2)), (33, (.iload_n 2, 1)), (34, (.imul, 1)), (35, (.iload_n 3, 1))] = true := zYQs 0 (by decide +kernel)
theorem dlD_M_worksProduct_28 : zdal (zb m_M_worksProduct) [(36, (.iadd, 1)), (37, (.iaload, 1)), (38, (.i2l, 1)), (39, (.lmul, 1)), (40, (.lastore, 1)), (41, (.iinc 3 1, 3)), (44, (.goto (-42), 3)), (47, (.aload_n 0, 1)), (48, (.aload_n 0, 1)), (49, (.getfield 60, 3)), (52, (.aload_n 0, 1)), (53, (.getfield 87, 3)), (56, (.iconst 0, 1)), (57, (.invokevirtual 289, 3)), (60, (.return_, 1))] = true := zYQs 36 (by decide +kernel)
theorem dlD_M_pairs_29 : zdal (zb m_M_pairs) [(0, (.aload_n 0, 1)), (1, (.iload_n 1, 1)), (2, (.invokevirtual 414, 3)), (5, (.ifCond .eq 11, 3)), (8, (.aload_n 0, 1)), (9, (.iload_n 2, 1)), (10, (.invokevirtual 414, 3)), (13, (.ifCond .ne 5, 3)), (16, (.iconst (-1), 1)), (17, (.ireturn, 1)), (18, (.aload_n 0, 1)), (19, (.iload_n 1, 1)), (20, (.iload_n 2, 1)), (21, (.invokevirtual 423, 3)), (24, (.lconst 0, 1)), (25, (.lstore_n 3, 1)), (26, (.iconst 0, 1)), (27, (.istore 5, 2)), (29, (.iload 5, 2)), (31, (.aload_n 0, 1)), (32, (.getfield 235, 3)), (35, (.if_icmp .ge 19, 3)), (38, (.lload_n 3, 1)), (39, (.aload_n 0, 1))] = true := zYQs 0 (by decide +kernel)
theorem dlD_M_pairs_30 : zdal (zb m_M_pairs) [(40, (.getfield 87, 3)), (43, (.iload 5, 2)), (45, (.laload, 1)), (46, (.ladd, 1)), (47, (.lstore_n 3, 1)), (48, (.iinc 5 1, 3)), (51, (.goto (-22), 3)), (54, (.lload_n 3, 1)), (55, (.l2i, 1)), (56, (.ireturn, 1))] = true := zYQs 40 (by decide +kernel)
theorem dlD_M_residue_31 : zdal (zb m_M_residue) [(0, (.aload_n 0, 1)), (1, (.iload_n 1, 1)), (2, (.invokevirtual 414, 3)), (5, (.ifCond .eq 19, 3)), (8, (.iload_n 2, 1)), (9, (.invokestatic 426, 3)), (12, (.ifCond .eq 12, 3)), (15, (.aload_n 0, 1)), (16, (.iload_n 1, 1)), (17, (.iload_n 2, 1)), (18, (.invokevirtual 429, 3)), (21, (.goto 4, 3)), (24, (.iconst (-1), 1)), (25, (.ireturn, 1))] = true := zYQs 0 (by decide +kernel)
theorem dlD_M_isPrime_32 : zdal (zb m_M_isPrime) [(0, (.iload_n 0, 1)), (1, (.iconst 2, 1)), (2, (.if_icmp .eq 13, 3)), (5, (.iload_n 0, 1)), (6, (.iconst 3, 1)), (7, (.if_icmp .eq 8, 3)), (10, (.iload_n 0, 1)), (11, (.iconst 5, 1)), (12, (.if_icmp .ne 7, 3)), (15, (.iconst 1, 1)), (16, (.goto 4, 3)), (19, (.iconst 0, 1)), (20, (.ireturn, 1))] = true := zYQs 0 (by decide +kernel)
theorem dlD_M_residueOf_33 : zdal (zb m_M_residueOf) [(0, (.aload_n 0, 1)), (1, (.getfield 44, 3)), (4, (.iload_n 1, 1)), (5, (.iaload, 1)), (6, (.istore_n 3, 1)), (7, (.iload_n 3, 1)), (8, (.istore 4, 2)), (10, (.iconst 0, 1)), (11, (.istore 5, 2)), (13, (.iload 5, 2)), (15, (.aload_n 0, 1)), (16, (.getfield 220, 3)), (19, (.if_icmp .ge 166, 3)), (22, (.aload_n 0, 1)), (23, (.getfield 38, 3)), (26, (.iload 5, 2)), (28, (.iaload, 1)), (29, (.iload_n 3, 1)), (30, (.iconst (-1), 1)), (31, (.ixor, 1)), (32, (.iand, 1)), (33, (.ifCond .ne 146, 3)), (36, (.aload_n 0, 1)), (37, (.getfield 38, 3))] = true := zYQs 0 (by decide +kernel)
theorem dlD_M_residueOf_34 : zdal (zb m_M_residueOf) [(40, (.iload 5, 2)), (42, (.iaload, 1)), (43, (.invokestatic 253, 3)), (46, (.iload 4, 2)), (48, (.invokestatic 253, 3)), (51, (.if_icmp .lt 6, 3)), (54, (.goto 125, 3)), (57, (.iload_n 3, 1)), (58, (.invokestatic 253, 3)), (61, (.aload_n 0, 1)), (62, (.getfield 38, 3)), (65, (.iload 5, 2)), (67, (.iaload, 1)), (68, (.invokestatic 253, 3)), (71, (.idiv, 1)), (72, (.istore 6, 2)), (74, (.iload 6, 2)), (76, (.iload_n 2, 1)), (77, (.irem, 1)), (78, (.ifCond .ne 12, 3)), (81, (.iload 6, 2)), (83, (.iload_n 2, 1)), (84, (.idiv, 1)), (85, (.istore 6, 2))] = true := zYQs 40 (by decide +kernel)
theorem dlD_M_residueOf_35 : zdal (zb m_M_residueOf) [(87, (.goto (-13), 3)), (90, (.iload 6, 2)), (92, (.iconst 1, 1)), (93, (.if_icmp .ne 7, 3)), (96, (.iconst 1, 1)), (97, (.goto 4, 3)), (100, (.iconst 0, 1)), (101, (.istore 7, 2)), (103, (.iconst 0, 1)), (104, (.istore 8, 2)), (106, (.iload 8, 2)), (108, (.aload_n 0, 1)), (109, (.getfield 196, 3)), (112, (.if_icmp .ge 53, 3)), (115, (.iload 7, 2)), (117, (.ifCond .eq 48, 3)), (120, (.iload_n 3, 1)), (121, (.iload 8, 2)), (123, (.invokestatic 213, 3)), (126, (.ifCond .eq 26, 3)), (129, (.aload_n 0, 1)), (130, (.aload_n 0, 1)), (131, (.getfield 38, 3)), (134, (.iload 5, 2))] = true := zYQs 87 (by decide +kernel)
theorem dlD_M_residueOf_36 : zdal (zb m_M_residueOf) [(136, (.iaload, 1)), (137, (.iload 8, 2)), (139, (.invokevirtual 223, 3)), (142, (.aload_n 0, 1)), (143, (.getfield 38, 3)), (146, (.iload 5, 2)), (148, (.iaload, 1)), (149, (.if_icmp .ne 7, 3)), (152, (.iconst 1, 1)), (153, (.goto 4, 3)), (156, (.iconst 0, 1)), (157, (.istore 7, 2)), (159, (.iinc 8 1, 3)), (162, (.goto (-56), 3)), (165, (.iload 7, 2)), (167, (.ifCond .eq 12, 3)), (170, (.aload_n 0, 1)), (171, (.getfield 38, 3)), (174, (.iload 5, 2)), (176, (.iaload, 1)), (177, (.istore 4, 2)), (179, (.iinc 5 1, 3)), (182, (.goto (-169), 3)), (185, (.aload_n 0, 1))] = true := zYQs 136 (by decide +kernel)
theorem d_M_residueOf_179 : decode (zb m_M_residueOf) 179 = .ok (.iinc 5 1, 3) := zdal_p dlD_M_residueOf_36 (i := 21) rfl
theorem d_M_residueOf_182 : decode (zb m_M_residueOf) 182 = .ok (.goto (-169), 3) := zdal_p dlD_M_residueOf_36 (i := 22) rfl
theorem dlD_M_residueOf_37 : zdal (zb m_M_residueOf) [(186, (.iload 4, 2)), (188, (.invokevirtual 411, 3)), (191, (.ireturn, 1))] = true := zYQs 186 (by decide +kernel)
theorem dlD_M_block_38 : zdal (zb m_M_block) [(0, (.aload_n 0, 1)), (1, (.iload_n 1, 1)), (2, (.invokevirtual 414, 3)), (5, (.ifCond .eq 19, 3)), (8, (.iload_n 2, 1)), (9, (.invokestatic 426, 3)), (12, (.ifCond .eq 12, 3)), (15, (.aload_n 0, 1)), (16, (.iload_n 1, 1)), (17, (.iload_n 2, 1)), (18, (.invokevirtual 432, 3)), (21, (.goto 4, 3)), (24, (.iconst (-1), 1)), (25, (.ireturn, 1))] = true := zYQs 0 (by decide +kernel)
theorem dlD_M_blockOf_39 : zdal (zb m_M_blockOf) [(0, (.aload_n 0, 1)), (1, (.iload_n 1, 1)), (2, (.iload_n 2, 1)), (3, (.invokevirtual 429, 3)), (6, (.istore_n 3, 1)), (7, (.iconst 0, 1)), (8, (.istore 4, 2)), (10, (.iconst 0, 1)), (11, (.istore 5, 2)), (13, (.iload 5, 2)), (15, (.aload_n 0, 1)), (16, (.getfield 235, 3)), (19, (.if_icmp .ge 36, 3)), (22, (.iload 4, 2)), (24, (.aload_n 0, 1)), (25, (.iload 5, 2)), (27, (.iload_n 2, 1)), (28, (.invokevirtual 429, 3)), (31, (.iload_n 3, 1)), (32, (.if_icmp .ne 7, 3)), (35, (.iconst 1, 1)), (36, (.goto 4, 3)), (39, (.iconst 0, 1)), (40, (.invokestatic 256, 3))] = true := zYQs 0 (by decide +kernel)
theorem dlD_M_blockOf_40 : zdal (zb m_M_blockOf) [(43, (.iload 5, 2)), (45, (.ishl, 1)), (46, (.ior, 1)), (47, (.istore 4, 2)), (49, (.iinc 5 1, 3)), (52, (.goto (-39), 3)), (55, (.iload 4, 2)), (57, (.ireturn, 1))] = true := zYQs 43 (by decide +kernel)
theorem dlD_M_keeper_41 : zdal (zb m_M_keeper) [(0, (.iload_n 1, 1)), (1, (.i2l, 1)), (2, (.lconst 0, 1)), (3, (.aload_n 0, 1)), (4, (.getfield 382, 3)), (7, (.iconst 1, 1)), (8, (.isub, 1)), (9, (.i2l, 1)), (10, (.invokestatic 131, 3)), (13, (.ifCond .ne 5, 3)), (16, (.iconst (-1), 1)), (17, (.ireturn, 1)), (18, (.iconst 0, 1)), (19, (.istore_n 2, 1)), (20, (.iconst 0, 1)), (21, (.istore_n 3, 1)), (22, (.iload_n 3, 1)), (23, (.aload_n 0, 1)), (24, (.getfield 196, 3)), (27, (.if_icmp .ge 37, 3)), (30, (.iload_n 2, 1)), (31, (.aload_n 0, 1)), (32, (.getfield 26, 3)), (35, (.bipush 6, 2))] = true := zYQs 0 (by decide +kernel)
theorem dlD_M_keeper_42 : zdal (zb m_M_keeper) [(37, (.iload_n 3, 1)), (38, (.imul, 1)), (39, (.iload_n 1, 1)), (40, (.iadd, 1)), (41, (.iaload, 1)), (42, (.iload_n 1, 1)), (43, (.if_icmp .ne 7, 3)), (46, (.iconst 1, 1)), (47, (.goto 4, 3)), (50, (.iconst 0, 1)), (51, (.invokestatic 256, 3)), (54, (.iload_n 3, 1)), (55, (.ishl, 1)), (56, (.ior, 1)), (57, (.istore_n 2, 1)), (58, (.iinc 3 1, 3)), (61, (.goto (-39), 3)), (64, (.iload_n 2, 1)), (65, (.ireturn, 1))] = true := zYQs 37 (by decide +kernel)
theorem dlD_M_orbit_43 : zdal (zb m_M_orbit) [(0, (.iload_n 1, 1)), (1, (.i2l, 1)), (2, (.lconst 0, 1)), (3, (.aload_n 0, 1)), (4, (.getfield 382, 3)), (7, (.iconst 1, 1)), (8, (.isub, 1)), (9, (.i2l, 1)), (10, (.invokestatic 131, 3)), (13, (.ifCond .ne 5, 3)), (16, (.iconst (-1), 1)), (17, (.ireturn, 1)), (18, (.iconst 0, 1)), (19, (.istore_n 2, 1)), (20, (.iconst 0, 1)), (21, (.istore_n 3, 1)), (22, (.iload_n 3, 1)), (23, (.aload_n 0, 1)), (24, (.getfield 196, 3)), (27, (.if_icmp .ge 25, 3)), (30, (.iload_n 2, 1)), (31, (.iconst 1, 1)), (32, (.aload_n 0, 1)), (33, (.getfield 26, 3))] = true := zYQs 0 (by decide +kernel)
theorem dlD_M_orbit_44 : zdal (zb m_M_orbit) [(36, (.bipush 6, 2)), (38, (.iload_n 3, 1)), (39, (.imul, 1)), (40, (.iload_n 1, 1)), (41, (.iadd, 1)), (42, (.iaload, 1)), (43, (.ishl, 1)), (44, (.ior, 1)), (45, (.istore_n 2, 1)), (46, (.iinc 3 1, 3)), (49, (.goto (-27), 3)), (52, (.iload_n 2, 1)), (53, (.ireturn, 1))] = true := zYQs 36 (by decide +kernel)
theorem dlD_M_coset_45 : zdal (zb m_M_coset) [(0, (.aload_n 0, 1)), (1, (.iload_n 1, 1)), (2, (.invokevirtual 414, 3)), (5, (.ifCond .eq 25, 3)), (8, (.aload_n 0, 1)), (9, (.iload_n 2, 1)), (10, (.invokevirtual 400, 3)), (13, (.ifCond .eq 17, 3)), (16, (.aload_n 0, 1)), (17, (.getfield 53, 3)), (20, (.bipush 24, 2)), (22, (.iload_n 1, 1)), (23, (.imul, 1)), (24, (.iload_n 2, 1)), (25, (.iadd, 1)), (26, (.iaload, 1)), (27, (.goto 4, 3)), (30, (.iconst (-1), 1)), (31, (.ireturn, 1))] = true := zYQs 0 (by decide +kernel)
theorem dlD_M_takes_46 : zdal (zb m_M_takes) [(0, (.aload_n 0, 1)), (1, (.iload_n 1, 1)), (2, (.invokevirtual 414, 3)), (5, (.ifCond .eq 38, 3)), (8, (.aload_n 0, 1)), (9, (.iload_n 2, 1)), (10, (.invokevirtual 400, 3)), (13, (.ifCond .eq 30, 3)), (16, (.aload_n 0, 1)), (17, (.iload_n 3, 1)), (18, (.invokevirtual 400, 3)), (21, (.ifCond .eq 22, 3)), (24, (.aload_n 0, 1)), (25, (.getfield 53, 3)), (28, (.bipush 24, 2)), (30, (.iload_n 1, 1)), (31, (.imul, 1)), (32, (.aload_n 0, 1)), (33, (.iload_n 2, 1)), (34, (.iload_n 3, 1)), (35, (.invokevirtual 216, 3)), (38, (.iadd, 1)), (39, (.iaload, 1)), (40, (.goto 4, 3))] = true := zYQs 0 (by decide +kernel)
theorem dlD_M_takes_47 : zdal (zb m_M_takes) [(43, (.iconst (-1), 1)), (44, (.ireturn, 1))] = true := zYQs 43 (by decide +kernel)
theorem dlD_M_moebius_48 : zdal (zb m_M_moebius) [(0, (.aload_n 0, 1)), (1, (.iload_n 1, 1)), (2, (.invokevirtual 414, 3)), (5, (.ifCond .ne 7, 3)), (8, (.ldc_w 435, 3)), (11, (.ireturn, 1)), (12, (.aload_n 0, 1)), (13, (.getfield 196, 3)), (16, (.istore_n 2, 1)), (17, (.iload_n 2, 1)), (18, (.ifCond .le 130, 3)), (21, (.iconst 0, 1)), (22, (.istore_n 3, 1)), (23, (.iload_n 3, 1)), (24, (.aload_n 0, 1)), (25, (.getfield 220, 3)), (28, (.if_icmp .ge 114, 3)), (31, (.aload_n 0, 1)), (32, (.getfield 38, 3)), (35, (.iload_n 3, 1)), (36, (.iaload, 1)), (37, (.invokestatic 253, 3)), (40, (.iload_n 2, 1)), (41, (.if_icmp .eq 6, 3))] = true := zYQs 0 (by decide +kernel)
theorem dlD_M_moebius_49 : zdal (zb m_M_moebius) [(44, (.goto 92, 3)), (47, (.aload_n 0, 1)), (48, (.getfield 90, 3)), (51, (.iload_n 3, 1)), (52, (.iload_n 2, 1)), (53, (.aload_n 0, 1)), (54, (.getfield 196, 3)), (57, (.if_icmp .ne 7, 3)), (60, (.iconst 1, 1)), (61, (.goto 4, 3)), (64, (.iconst 0, 1)), (65, (.invokestatic 256, 3)), (68, (.iastore, 1)), (69, (.iconst 0, 1)), (70, (.istore 4, 2)), (72, (.iload 4, 2)), (74, (.aload_n 0, 1)), (75, (.getfield 220, 3)), (78, (.if_icmp .ge 58, 3)), (81, (.aload_n 0, 1)), (82, (.getfield 38, 3)), (85, (.iload 4, 2)), (87, (.iaload, 1)), (88, (.invokestatic 253, 3))] = true := zYQs 44 (by decide +kernel)
theorem dlD_M_moebius_50 : zdal (zb m_M_moebius) [(91, (.iload_n 2, 1)), (92, (.if_icmp .le 38, 3)), (95, (.aload_n 0, 1)), (96, (.getfield 38, 3)), (99, (.iload_n 3, 1)), (100, (.iaload, 1)), (101, (.aload_n 0, 1)), (102, (.getfield 38, 3)), (105, (.iload 4, 2)), (107, (.iaload, 1)), (108, (.iconst (-1), 1)), (109, (.ixor, 1)), (110, (.iand, 1)), (111, (.ifCond .ne 19, 3)), (114, (.aload_n 0, 1)), (115, (.getfield 90, 3)), (118, (.iload_n 3, 1)), (119, (.dup2, 1)), (120, (.iaload, 1)), (121, (.aload_n 0, 1)), (122, (.getfield 90, 3)), (125, (.iload 4, 2)), (127, (.iaload, 1)), (128, (.isub, 1))] = true := zYQs 91 (by decide +kernel)
theorem dlD_M_moebius_51 : zdal (zb m_M_moebius) [(129, (.iastore, 1)), (130, (.iinc 4 1, 3)), (133, (.goto (-61), 3)), (136, (.iinc 3 1, 3)), (139, (.goto (-116), 3)), (142, (.iinc 2 (-1), 3)), (145, (.goto (-128), 3)), (148, (.aload_n 0, 1)), (149, (.getfield 90, 3)), (152, (.aload_n 0, 1)), (153, (.aload_n 0, 1)), (154, (.getfield 44, 3)), (157, (.iload_n 1, 1)), (158, (.iaload, 1)), (159, (.invokevirtual 232, 3)), (162, (.iaload, 1)), (163, (.ireturn, 1))] = true := zYQs 129 (by decide +kernel)
theorem d_M_moebius_130 : decode (zb m_M_moebius) 130 = .ok (.iinc 4 1, 3) := zdal_p dlD_M_moebius_51 (i := 1) rfl
theorem d_M_moebius_133 : decode (zb m_M_moebius) 133 = .ok (.goto (-61), 3) := zdal_p dlD_M_moebius_51 (i := 2) rfl
theorem dlD_M_mixed_52 : zdal (zb m_M_mixed) [(0, (.aload_n 0, 1)), (1, (.iload_n 1, 1)), (2, (.invokevirtual 414, 3)), (5, (.ifCond .ne 5, 3)), (8, (.iconst (-1), 1)), (9, (.ireturn, 1)), (10, (.iconst 0, 1)), (11, (.istore_n 2, 1)), (12, (.iconst 0, 1)), (13, (.istore_n 3, 1)), (14, (.iload_n 3, 1)), (15, (.aload_n 0, 1)), (16, (.getfield 196, 3)), (19, (.if_icmp .ge 87, 3)), (22, (.iconst 0, 1)), (23, (.istore 4, 2)), (25, (.iload 4, 2)), (27, (.aload_n 0, 1)), (28, (.getfield 196, 3)), (31, (.if_icmp .ge 69, 3)), (34, (.aload_n 0, 1)), (35, (.getfield 44, 3)), (38, (.iload_n 1, 1)), (39, (.iaload, 1))] = true := zYQs 0 (by decide +kernel)
theorem dlD_M_mixed_53 : zdal (zb m_M_mixed) [(40, (.iload_n 3, 1)), (41, (.invokestatic 213, 3)), (44, (.ifCond .eq 50, 3)), (47, (.aload_n 0, 1)), (48, (.getfield 44, 3)), (51, (.iload_n 1, 1)), (52, (.iaload, 1)), (53, (.iload 4, 2)), (55, (.invokestatic 213, 3)), (58, (.ifCond .eq 36, 3)), (61, (.iload_n 2, 1)), (62, (.iconst 1, 1)), (63, (.aload_n 0, 1)), (64, (.aload_n 0, 1)), (65, (.aload_n 0, 1)), (66, (.aload_n 0, 1)), (67, (.getfield 35, 3)), (70, (.iload_n 3, 1)), (71, (.iaload, 1)), (72, (.aload_n 0, 1)), (73, (.getfield 35, 3)), (76, (.iload 4, 2)), (78, (.iaload, 1)), (79, (.invokevirtual 216, 3))] = true := zYQs 40 (by decide +kernel)
theorem dlD_M_mixed_54 : zdal (zb m_M_mixed) [(82, (.iload_n 3, 1)), (83, (.invokevirtual 216, 3)), (86, (.iload 4, 2)), (88, (.invokevirtual 216, 3)), (91, (.ishl, 1)), (92, (.ior, 1)), (93, (.istore_n 2, 1)), (94, (.iinc 4 1, 3)), (97, (.goto (-72), 3)), (100, (.iinc 3 1, 3)), (103, (.goto (-89), 3)), (106, (.aload_n 0, 1)), (107, (.aload_n 0, 1)), (108, (.iload_n 2, 1)), (109, (.invokevirtual 229, 3)), (112, (.invokevirtual 411, 3)), (115, (.ireturn, 1))] = true := zYQs 82 (by decide +kernel)
theorem dlD_M_centre_55 : zdal (zb m_M_centre) [(0, (.aload_n 0, 1)), (1, (.iload_n 1, 1)), (2, (.invokevirtual 414, 3)), (5, (.ifCond .ne 5, 3)), (8, (.iconst (-1), 1)), (9, (.ireturn, 1)), (10, (.iconst 0, 1)), (11, (.istore_n 2, 1)), (12, (.iconst 0, 1)), (13, (.istore_n 3, 1)), (14, (.iload_n 3, 1)), (15, (.aload_n 0, 1)), (16, (.getfield 196, 3)), (19, (.if_icmp .ge 92, 3)), (22, (.aload_n 0, 1)), (23, (.getfield 44, 3)), (26, (.iload_n 1, 1)), (27, (.iaload, 1)), (28, (.iload_n 3, 1)), (29, (.invokestatic 213, 3)), (32, (.istore 4, 2)), (34, (.iconst 0, 1)), (35, (.istore 5, 2)), (37, (.iload 5, 2))] = true := zYQs 0 (by decide +kernel)
theorem dlD_M_centre_56 : zdal (zb m_M_centre) [(39, (.aload_n 0, 1)), (40, (.getfield 196, 3)), (43, (.if_icmp .ge 52, 3)), (46, (.iload 4, 2)), (48, (.ifCond .eq 47, 3)), (51, (.aload_n 0, 1)), (52, (.getfield 44, 3)), (55, (.iload_n 1, 1)), (56, (.iaload, 1)), (57, (.iload 5, 2)), (59, (.invokestatic 213, 3)), (62, (.ifCond .eq 20, 3)), (65, (.aload_n 0, 1)), (66, (.iload_n 3, 1)), (67, (.iload 5, 2)), (69, (.invokevirtual 216, 3)), (72, (.aload_n 0, 1)), (73, (.iload 5, 2)), (75, (.iload_n 3, 1)), (76, (.invokevirtual 216, 3)), (79, (.if_icmp .ne 7, 3)), (82, (.iconst 1, 1)), (83, (.goto 4, 3)), (86, (.iconst 0, 1))] = true := zYQs 39 (by decide +kernel)
theorem dlD_M_centre_57 : zdal (zb m_M_centre) [(87, (.istore 4, 2)), (89, (.iinc 5 1, 3)), (92, (.goto (-55), 3)), (95, (.iload_n 2, 1)), (96, (.iload 4, 2)), (98, (.invokestatic 256, 3)), (101, (.iload_n 3, 1)), (102, (.ishl, 1)), (103, (.ior, 1)), (104, (.istore_n 2, 1)), (105, (.iinc 3 1, 3)), (108, (.goto (-94), 3)), (111, (.iload_n 2, 1)), (112, (.ireturn, 1))] = true := zYQs 87 (by decide +kernel)
theorem d_M_centre_87 : decode (zb m_M_centre) 87 = .ok (.istore 4, 2) := zdal_p dlD_M_centre_57 (i := 0) rfl
theorem d_M_centre_89 : decode (zb m_M_centre) 89 = .ok (.iinc 5 1, 3) := zdal_p dlD_M_centre_57 (i := 1) rfl
theorem d_M_centre_92 : decode (zb m_M_centre) 92 = .ok (.goto (-55), 3) := zdal_p dlD_M_centre_57 (i := 2) rfl
theorem dlD_M_likes_58 : zdal (zb m_M_likes) [(0, (.aload_n 0, 1)), (1, (.iload_n 1, 1)), (2, (.invokevirtual 400, 3)), (5, (.ifCond .ne 5, 3)), (8, (.iconst (-1), 1)), (9, (.ireturn, 1)), (10, (.iconst 0, 1)), (11, (.istore_n 2, 1)), (12, (.iconst 0, 1)), (13, (.istore_n 3, 1)), (14, (.iload_n 3, 1)), (15, (.aload_n 0, 1)), (16, (.getfield 196, 3)), (19, (.if_icmp .ge 30, 3)), (22, (.iload_n 2, 1)), (23, (.iconst 1, 1)), (24, (.aload_n 0, 1)), (25, (.aload_n 0, 1)), (26, (.aload_n 0, 1)), (27, (.getfield 35, 3)), (30, (.iload_n 3, 1)), (31, (.iaload, 1)), (32, (.iload_n 1, 1)), (33, (.invokevirtual 216, 3))] = true := zYQs 0 (by decide +kernel)
theorem dlD_M_likes_59 : zdal (zb m_M_likes) [(36, (.iload_n 3, 1)), (37, (.invokevirtual 216, 3)), (40, (.ishl, 1)), (41, (.ior, 1)), (42, (.istore_n 2, 1)), (43, (.iinc 3 1, 3)), (46, (.goto (-32), 3)), (49, (.iload_n 2, 1)), (50, (.invokestatic 253, 3)), (53, (.ireturn, 1))] = true := zYQs 36 (by decide +kernel)
theorem dlD_M_peak_60 : zdal (zb m_M_peak) [(0, (.aload_n 0, 1)), (1, (.iload_n 1, 1)), (2, (.invokevirtual 414, 3)), (5, (.ifCond .eq 21, 3)), (8, (.aload_n 0, 1)), (9, (.iload_n 2, 1)), (10, (.invokevirtual 414, 3)), (13, (.ifCond .eq 13, 3)), (16, (.iload_n 3, 1)), (17, (.i2l, 1)), (18, (.lconst 0, 1)), (19, (.lconst 1, 1)), (20, (.invokestatic 131, 3)), (23, (.ifCond .ne 7, 3)), (26, (.ldc_w 435, 3)), (29, (.ireturn, 1)), (30, (.aload_n 0, 1)), (31, (.iload_n 1, 1)), (32, (.invokevirtual 450, 3)), (35, (.iload_n 3, 1)), (36, (.ifCond .ne 12, 3)), (39, (.aload_n 0, 1)), (40, (.getfield 93, 3)), (43, (.iload_n 2, 1))] = true := zYQs 0 (by decide +kernel)
theorem dlD_M_peak_61 : zdal (zb m_M_peak) [(44, (.laload, 1)), (45, (.goto 9, 3)), (48, (.aload_n 0, 1)), (49, (.getfield 96, 3)), (52, (.iload_n 2, 1)), (53, (.laload, 1)), (54, (.l2i, 1)), (55, (.ireturn, 1))] = true := zYQs 44 (by decide +kernel)
theorem dlD_M_peaks_62 : zdal (zb m_M_peaks) [(0, (.aload_n 0, 1)), (1, (.getfield 235, 3)), (4, (.iconst 1, 1)), (5, (.isub, 1)), (6, (.istore_n 2, 1)), (7, (.iload_n 2, 1)), (8, (.ifCond .lt 158, 3)), (11, (.aload_n 0, 1)), (12, (.iload_n 2, 1)), (13, (.iload_n 1, 1)), (14, (.if_icmp .ne 7, 3)), (17, (.iconst 1, 1)), (18, (.goto 4, 3)), (21, (.iconst 0, 1)), (22, (.invokestatic 256, 3)), (25, (.i2l, 1)), (26, (.putfield 436, 3)), (29, (.aload_n 0, 1)), (30, (.lconst 1, 1)), (31, (.putfield 439, 3)), (34, (.iload_n 2, 1)), (35, (.iconst 1, 1)), (36, (.iadd, 1)), (37, (.istore_n 3, 1))] = true := zYQs 0 (by decide +kernel)
theorem dlD_M_peaks_63 : zdal (zb m_M_peaks) [(38, (.iload_n 3, 1)), (39, (.aload_n 0, 1)), (40, (.getfield 235, 3)), (43, (.if_icmp .ge 64, 3)), (46, (.aload_n 0, 1)), (47, (.getfield 93, 3)), (50, (.iload_n 3, 1)), (51, (.laload, 1)), (52, (.lconst 0, 1)), (53, (.lcmp, 1)), (54, (.ifCond .eq 47, 3)), (57, (.aload_n 0, 1)), (58, (.getfield 50, 3)), (61, (.bipush 64, 2)), (63, (.iload_n 3, 1)), (64, (.imul, 1)), (65, (.iload_n 2, 1)), (66, (.iadd, 1)), (67, (.iaload, 1)), (68, (.ifCond .eq 33, 3)), (71, (.aload_n 0, 1)), (72, (.aload_n 0, 1)), (73, (.getfield 93, 3)), (76, (.iload_n 3, 1))] = true := zYQs 38 (by decide +kernel)
theorem dlD_M_peaks_64 : zdal (zb m_M_peaks) [(77, (.laload, 1)), (78, (.lneg, 1)), (79, (.aload_n 0, 1)), (80, (.getfield 50, 3)), (83, (.bipush 64, 2)), (85, (.iload_n 3, 1)), (86, (.imul, 1)), (87, (.iload_n 2, 1)), (88, (.iadd, 1)), (89, (.iaload, 1)), (90, (.i2l, 1)), (91, (.lmul, 1)), (92, (.aload_n 0, 1)), (93, (.getfield 96, 3)), (96, (.iload_n 3, 1)), (97, (.laload, 1)), (98, (.invokevirtual 446, 3)), (101, (.iinc 3 1, 3)), (104, (.goto (-66), 3)), (107, (.aload_n 0, 1)), (108, (.getfield 436, 3)), (111, (.lstore_n 3, 1)), (112, (.aload_n 0, 1)), (113, (.getfield 439, 3))] = true := zYQs 77 (by decide +kernel)
theorem dlD_M_peaks_65 : zdal (zb m_M_peaks) [(116, (.aload_n 0, 1)), (117, (.getfield 50, 3)), (120, (.bipush 64, 2)), (122, (.iload_n 2, 1)), (123, (.imul, 1)), (124, (.iload_n 2, 1)), (125, (.iadd, 1)), (126, (.iaload, 1)), (127, (.i2l, 1)), (128, (.lmul, 1)), (129, (.lstore 5, 2)), (131, (.lload_n 3, 1)), (132, (.lload 5, 2)), (134, (.invokestatic 442, 3)), (137, (.lstore 7, 2)), (139, (.aload_n 0, 1)), (140, (.getfield 93, 3)), (143, (.iload_n 2, 1)), (144, (.lload_n 3, 1)), (145, (.lload 7, 2)), (147, (.ldiv, 1)), (148, (.lastore, 1)), (149, (.aload_n 0, 1)), (150, (.getfield 96, 3))] = true := zYQs 116 (by decide +kernel)
theorem dlD_M_peaks_66 : zdal (zb m_M_peaks) [(153, (.iload_n 2, 1)), (154, (.lload 5, 2)), (156, (.lload 7, 2)), (158, (.ldiv, 1)), (159, (.lastore, 1)), (160, (.iinc 2 (-1), 3)), (163, (.goto (-156), 3)), (166, (.return_, 1))] = true := zYQs 153 (by decide +kernel)
theorem dlD_M_sumWith_67 : zdal (zb m_M_sumWith) [(0, (.aload_n 0, 1)), (1, (.getfield 436, 3)), (4, (.lload_n 3, 1)), (5, (.lmul, 1)), (6, (.lload_n 1, 1)), (7, (.aload_n 0, 1)), (8, (.getfield 439, 3)), (11, (.lmul, 1)), (12, (.ladd, 1)), (13, (.lstore 5, 2)), (15, (.aload_n 0, 1)), (16, (.getfield 439, 3)), (19, (.lload_n 3, 1)), (20, (.lmul, 1)), (21, (.lstore 7, 2)), (23, (.lload 5, 2)), (25, (.lload 7, 2)), (27, (.invokestatic 442, 3)), (30, (.lstore 9, 2)), (32, (.aload_n 0, 1)), (33, (.lload 5, 2)), (35, (.lload 9, 2)), (37, (.ldiv, 1)), (38, (.putfield 436, 3))] = true := zYQs 0 (by decide +kernel)
theorem dlD_M_sumWith_68 : zdal (zb m_M_sumWith) [(41, (.aload_n 0, 1)), (42, (.lload 7, 2)), (44, (.lload 9, 2)), (46, (.ldiv, 1)), (47, (.putfield 439, 3)), (50, (.return_, 1))] = true := zYQs 41 (by decide +kernel)
theorem dlD_M_divisor_69 : zdal (zb m_M_divisor) [(0, (.lload_n 0, 1)), (1, (.lconst 0, 1)), (2, (.lcmp, 1)), (3, (.ifCond .ge 8, 3)), (6, (.lload_n 0, 1)), (7, (.lneg, 1)), (8, (.goto 4, 3)), (11, (.lload_n 0, 1)), (12, (.lstore 4, 2)), (14, (.lload_n 2, 1)), (15, (.lstore 6, 2)), (17, (.lload 6, 2)), (19, (.lconst 0, 1)), (20, (.lcmp, 1)), (21, (.ifCond .eq 21, 3)), (24, (.lload 4, 2)), (26, (.lload 6, 2)), (28, (.lrem, 1)), (29, (.lstore 8, 2)), (31, (.lload 6, 2)), (33, (.lstore 4, 2)), (35, (.lload 8, 2)), (37, (.lstore 6, 2)), (39, (.goto (-22), 3))] = true := zYQs 0 (by decide +kernel)
theorem dlD_M_divisor_70 : zdal (zb m_M_divisor) [(42, (.lload 4, 2)), (44, (.lreturn, 1))] = true := zYQs 42 (by decide +kernel)
theorem dlD_M_local_71 : zdal (zb m_M_local) [(0, (.iload_n 1, 1)), (1, (.invokestatic 426, 3)), (4, (.ifCond .eq 30, 3)), (7, (.aload_n 0, 1)), (8, (.iload_n 2, 1)), (9, (.invokevirtual 414, 3)), (12, (.ifCond .eq 22, 3)), (15, (.aload_n 0, 1)), (16, (.iload_n 3, 1)), (17, (.invokevirtual 414, 3)), (20, (.ifCond .eq 14, 3)), (23, (.iload 4, 2)), (25, (.i2l, 1)), (26, (.lconst 0, 1)), (27, (.lconst 1, 1)), (28, (.invokestatic 131, 3)), (31, (.ifCond .ne 7, 3)), (34, (.ldc_w 435, 3)), (37, (.ireturn, 1)), (38, (.aload_n 0, 1)), (39, (.iload_n 2, 1)), (40, (.iload_n 1, 1)), (41, (.invokevirtual 432, 3)), (44, (.istore 5, 2))] = true := zYQs 0 (by decide +kernel)
theorem dlD_M_local_72 : zdal (zb m_M_local) [(46, (.lconst 0, 1)), (47, (.lstore 6, 2)), (49, (.lconst 1, 1)), (50, (.lstore 8, 2)), (52, (.iconst 0, 1)), (53, (.istore 10, 2)), (55, (.iload 10, 2)), (57, (.aload_n 0, 1)), (58, (.getfield 235, 3)), (61, (.if_icmp .ge 68, 3)), (64, (.iload 5, 2)), (66, (.iload 10, 2)), (68, (.invokestatic 213, 3)), (71, (.ifCond .ne 6, 3)), (74, (.goto 49, 3)), (77, (.aload_n 0, 1)), (78, (.iload 10, 2)), (80, (.invokevirtual 450, 3)), (83, (.aload_n 0, 1)), (84, (.lload 6, 2)), (86, (.putfield 436, 3)), (89, (.aload_n 0, 1)), (90, (.lload 8, 2)), (92, (.putfield 439, 3))] = true := zYQs 46 (by decide +kernel)
theorem dlD_M_local_73 : zdal (zb m_M_local) [(95, (.aload_n 0, 1)), (96, (.aload_n 0, 1)), (97, (.getfield 93, 3)), (100, (.iload_n 3, 1)), (101, (.laload, 1)), (102, (.aload_n 0, 1)), (103, (.getfield 96, 3)), (106, (.iload_n 3, 1)), (107, (.laload, 1)), (108, (.invokevirtual 446, 3)), (111, (.aload_n 0, 1)), (112, (.getfield 436, 3)), (115, (.lstore 6, 2)), (117, (.aload_n 0, 1)), (118, (.getfield 439, 3)), (121, (.lstore 8, 2)), (123, (.iinc 10 1, 3)), (126, (.goto (-71), 3)), (129, (.iload 4, 2)), (131, (.ifCond .ne 8, 3)), (134, (.lload 6, 2)), (136, (.goto 5, 3)), (139, (.lload 8, 2)), (141, (.l2i, 1))] = true := zYQs 95 (by decide +kernel)
theorem dlD_M_local_74 : zdal (zb m_M_local) [(142, (.ireturn, 1))] = true := zYQs 142 (by decide +kernel)
theorem dlD_M_units_75 : zdal (zb m_M_units) [(0, (.aload_n 0, 1)), (1, (.invokevirtual 465, 3)), (4, (.aload_n 0, 1)), (5, (.getfield 459, 3)), (8, (.ireturn, 1))] = true := zYQs 0 (by decide +kernel)
theorem dlD_M_laysUnits_76 : zdal (zb m_M_laysUnits) [(0, (.aload_n 0, 1)), (1, (.getfield 394, 3)), (4, (.ifCond .eq 4, 3)), (7, (.return_, 1)), (8, (.aload_n 0, 1)), (9, (.iconst 1, 1)), (10, (.putfield 394, 3)), (13, (.aload_n 0, 1)), (14, (.iconst 1, 1)), (15, (.putfield 459, 3)), (18, (.aload_n 0, 1)), (19, (.getfield 103, 3)), (22, (.iconst 0, 1)), (23, (.iconst 0, 1)), (24, (.iastore, 1)), (25, (.aload_n 0, 1)), (26, (.getfield 235, 3)), (29, (.iconst 1, 1)), (30, (.isub, 1)), (31, (.istore_n 1, 1)), (32, (.iload_n 1, 1)), (33, (.ifCond .lt 182, 3)), (36, (.aload_n 0, 1)), (37, (.iload_n 1, 1))] = true := zYQs 0 (by decide +kernel)
theorem dlD_M_laysUnits_77 : zdal (zb m_M_laysUnits) [(38, (.invokevirtual 456, 3)), (41, (.iconst 1, 1)), (42, (.aload_n 0, 1)), (43, (.getfield 235, 3)), (46, (.iconst 1, 1)), (47, (.isub, 1)), (48, (.iload_n 1, 1)), (49, (.isub, 1)), (50, (.ishl, 1)), (51, (.istore_n 2, 1)), (52, (.iconst 0, 1)), (53, (.istore_n 3, 1)), (54, (.aload_n 0, 1)), (55, (.getfield 459, 3)), (58, (.istore 4, 2)), (60, (.iconst 0, 1)), (61, (.istore 5, 2)), (63, (.iload 5, 2)), (65, (.aload_n 0, 1)), (66, (.getfield 459, 3)), (69, (.if_icmp .ge 48, 3)), (72, (.aload_n 0, 1)), (73, (.aload_n 0, 1)), (74, (.getfield 103, 3))] = true := zYQs 38 (by decide +kernel)
theorem dlD_M_laysUnits_78 : zdal (zb m_M_laysUnits) [(77, (.iload 5, 2)), (79, (.iaload, 1)), (80, (.iload_n 2, 1)), (81, (.ior, 1)), (82, (.iload_n 1, 1)), (83, (.invokevirtual 462, 3)), (86, (.ifCond .ne 6, 3)), (89, (.goto 22, 3)), (92, (.aload_n 0, 1)), (93, (.getfield 103, 3)), (96, (.iload 4, 2)), (98, (.aload_n 0, 1)), (99, (.getfield 103, 3)), (102, (.iload 5, 2)), (104, (.iaload, 1)), (105, (.iload_n 2, 1)), (106, (.ior, 1)), (107, (.iastore, 1)), (108, (.iinc 4 1, 3)), (111, (.iinc 5 1, 3)), (114, (.goto (-51), 3)), (117, (.iconst 0, 1)), (118, (.istore 5, 2)), (120, (.iload 5, 2))] = true := zYQs 77 (by decide +kernel)
theorem dlD_M_laysUnits_79 : zdal (zb m_M_laysUnits) [(122, (.aload_n 0, 1)), (123, (.getfield 459, 3)), (126, (.if_icmp .ge 43, 3)), (129, (.aload_n 0, 1)), (130, (.aload_n 0, 1)), (131, (.getfield 103, 3)), (134, (.iload 5, 2)), (136, (.iaload, 1)), (137, (.iload_n 1, 1)), (138, (.invokevirtual 462, 3)), (141, (.ifCond .ne 6, 3)), (144, (.goto 19, 3)), (147, (.aload_n 0, 1)), (148, (.getfield 103, 3)), (151, (.iload_n 3, 1)), (152, (.aload_n 0, 1)), (153, (.getfield 103, 3)), (156, (.iload 5, 2)), (158, (.iaload, 1)), (159, (.iastore, 1)), (160, (.iinc 3 1, 3)), (163, (.iinc 5 1, 3)), (166, (.goto (-46), 3)), (169, (.aload_n 0, 1))] = true := zYQs 122 (by decide +kernel)
theorem dlD_M_laysUnits_80 : zdal (zb m_M_laysUnits) [(170, (.getfield 459, 3)), (173, (.istore 5, 2)), (175, (.iload 5, 2)), (177, (.iload 4, 2)), (179, (.if_icmp .ge 25, 3)), (182, (.aload_n 0, 1)), (183, (.getfield 103, 3)), (186, (.iload_n 3, 1)), (187, (.aload_n 0, 1)), (188, (.getfield 103, 3)), (191, (.iload 5, 2)), (193, (.iaload, 1)), (194, (.iastore, 1)), (195, (.iinc 3 1, 3)), (198, (.iinc 5 1, 3)), (201, (.goto (-26), 3)), (204, (.aload_n 0, 1)), (205, (.iload_n 3, 1)), (206, (.putfield 459, 3)), (209, (.iinc 1 (-1), 3)), (212, (.goto (-180), 3)), (215, (.return_, 1))] = true := zYQs 170 (by decide +kernel)
theorem dlD_M_laysMade_81 : zdal (zb m_M_laysMade) [(0, (.aload_n 0, 1)), (1, (.getfield 44, 3)), (4, (.iload_n 1, 1)), (5, (.iaload, 1)), (6, (.istore_n 2, 1)), (7, (.aload_n 0, 1)), (8, (.iload_n 2, 1)), (9, (.invokevirtual 417, 3)), (12, (.istore_n 3, 1)), (13, (.aload_n 0, 1)), (14, (.iconst 0, 1)), (15, (.putfield 453, 3)), (18, (.iconst 0, 1)), (19, (.istore 4, 2)), (21, (.iload 4, 2)), (23, (.aload_n 0, 1)), (24, (.getfield 196, 3)), (27, (.if_icmp .ge 66, 3)), (30, (.iload_n 3, 1)), (31, (.iload 4, 2)), (33, (.invokestatic 213, 3)), (36, (.ifCond .eq 51, 3)), (39, (.aload_n 0, 1)), (40, (.iload_n 2, 1))] = true := zYQs 0 (by decide +kernel)
theorem dlD_M_laysMade_82 : zdal (zb m_M_laysMade) [(41, (.iload 4, 2)), (43, (.invokevirtual 247, 3)), (46, (.iload 4, 2)), (48, (.if_icmp .eq 6, 3)), (51, (.goto 36, 3)), (54, (.aload_n 0, 1)), (55, (.getfield 99, 3)), (58, (.aload_n 0, 1)), (59, (.getfield 453, 3)), (62, (.aload_n 0, 1)), (63, (.aload_n 0, 1)), (64, (.iload_n 2, 1)), (65, (.iconst 1, 1)), (66, (.iload 4, 2)), (68, (.ishl, 1)), (69, (.ior, 1)), (70, (.invokevirtual 229, 3)), (73, (.invokevirtual 411, 3)), (76, (.iastore, 1)), (77, (.aload_n 0, 1)), (78, (.dup, 1)), (79, (.getfield 453, 3)), (82, (.iconst 1, 1)), (83, (.iadd, 1))] = true := zYQs 41 (by decide +kernel)
theorem dlD_M_laysMade_83 : zdal (zb m_M_laysMade) [(84, (.putfield 453, 3)), (87, (.iinc 4 1, 3)), (90, (.goto (-69), 3)), (93, (.return_, 1))] = true := zYQs 84 (by decide +kernel)
theorem d_M_laysMade_87 : decode (zb m_M_laysMade) 87 = .ok (.iinc 4 1, 3) := zdal_p dlD_M_laysMade_83 (i := 1) rfl
theorem d_M_laysMade_90 : decode (zb m_M_laysMade) 90 = .ok (.goto (-69), 3) := zdal_p dlD_M_laysMade_83 (i := 2) rfl
theorem dlD_M_isUnitAt_84 : zdal (zb m_M_isUnitAt) [(0, (.iconst 0, 1)), (1, (.istore_n 3, 1)), (2, (.iconst 0, 1)), (3, (.istore 4, 2)), (5, (.iload 4, 2)), (7, (.aload_n 0, 1)), (8, (.getfield 453, 3)), (11, (.if_icmp .ge 38, 3)), (14, (.iload_n 3, 1)), (15, (.iload_n 1, 1)), (16, (.aload_n 0, 1)), (17, (.getfield 235, 3)), (20, (.iconst 1, 1)), (21, (.isub, 1)), (22, (.aload_n 0, 1)), (23, (.getfield 99, 3)), (26, (.iload 4, 2)), (28, (.iaload, 1)), (29, (.isub, 1)), (30, (.invokestatic 213, 3)), (33, (.ifCond .eq 7, 3)), (36, (.iconst (-1), 1)), (37, (.goto 4, 3)), (40, (.iconst 1, 1))] = true := zYQs 0 (by decide +kernel)
theorem dlD_M_isUnitAt_85 : zdal (zb m_M_isUnitAt) [(41, (.iadd, 1)), (42, (.istore_n 3, 1)), (43, (.iinc 4 1, 3)), (46, (.goto (-41), 3)), (49, (.iload_n 3, 1)), (50, (.aload_n 0, 1)), (51, (.getfield 453, 3)), (54, (.irem, 1)), (55, (.ifCond .ne 7, 3)), (58, (.iconst 1, 1)), (59, (.goto 4, 3)), (62, (.iconst 0, 1)), (63, (.ireturn, 1))] = true := zYQs 41 (by decide +kernel)
theorem dlD_M_unit_86 : zdal (zb m_M_unit) [(0, (.aload_n 0, 1)), (1, (.iload_n 2, 1)), (2, (.invokevirtual 414, 3)), (5, (.ifCond .ne 7, 3)), (8, (.ldc_w 435, 3)), (11, (.ireturn, 1)), (12, (.aload_n 0, 1)), (13, (.invokevirtual 465, 3)), (16, (.iload_n 1, 1)), (17, (.i2l, 1)), (18, (.lconst 0, 1)), (19, (.aload_n 0, 1)), (20, (.getfield 459, 3)), (23, (.iconst 1, 1)), (24, (.isub, 1)), (25, (.i2l, 1)), (26, (.invokestatic 131, 3)), (29, (.ifCond .ne 7, 3)), (32, (.ldc_w 435, 3)), (35, (.ireturn, 1)), (36, (.iconst 0, 1)), (37, (.istore_n 3, 1)), (38, (.iload_n 3, 1)), (39, (.aload_n 0, 1))] = true := zYQs 0 (by decide +kernel)
theorem dlD_M_unit_87 : zdal (zb m_M_unit) [(40, (.getfield 235, 3)), (43, (.if_icmp .ge 42, 3)), (46, (.aload_n 0, 1)), (47, (.getfield 60, 3)), (50, (.iload_n 3, 1)), (51, (.aload_n 0, 1)), (52, (.getfield 103, 3)), (55, (.iload_n 1, 1)), (56, (.iaload, 1)), (57, (.aload_n 0, 1)), (58, (.getfield 235, 3)), (61, (.iconst 1, 1)), (62, (.isub, 1)), (63, (.iload_n 3, 1)), (64, (.isub, 1)), (65, (.invokestatic 213, 3)), (68, (.ifCond .eq 9, 3)), (71, (.ldc2_w 468, 3)), (74, (.goto 4, 3)), (77, (.lconst 1, 1)), (78, (.lastore, 1)), (79, (.iinc 3 1, 3)), (82, (.goto (-44), 3)), (85, (.aload_n 0, 1))] = true := zYQs 40 (by decide +kernel)
theorem dlD_M_unit_88 : zdal (zb m_M_unit) [(86, (.aload_n 0, 1)), (87, (.getfield 60, 3)), (90, (.aload_n 0, 1)), (91, (.getfield 87, 3)), (94, (.iconst 0, 1)), (95, (.invokevirtual 289, 3)), (98, (.aload_n 0, 1)), (99, (.getfield 87, 3)), (102, (.iload_n 2, 1)), (103, (.laload, 1)), (104, (.l2i, 1)), (105, (.ireturn, 1))] = true := zYQs 86 (by decide +kernel)
theorem dlD_M_undo_89 : zdal (zb m_M_undo) [(0, (.aload_n 0, 1)), (1, (.getfield 391, 3)), (4, (.ifCond .ne 5, 3)), (7, (.iconst (-1), 1)), (8, (.ireturn, 1)), (9, (.aload_n 0, 1)), (10, (.dup, 1)), (11, (.getfield 391, 3)), (14, (.iconst 1, 1)), (15, (.isub, 1)), (16, (.putfield 391, 3)), (19, (.iconst 0, 1)), (20, (.istore_n 1, 1)), (21, (.iload_n 1, 1)), (22, (.bipush 64, 2)), (24, (.if_icmp .ge 29, 3)), (27, (.aload_n 0, 1)), (28, (.getfield 66, 3)), (31, (.iload_n 1, 1)), (32, (.aload_n 0, 1)), (33, (.getfield 106, 3)), (36, (.bipush 64, 2)), (38, (.aload_n 0, 1)), (39, (.getfield 391, 3))] = true := zYQs 0 (by decide +kernel)
theorem dlD_M_undo_90 : zdal (zb m_M_undo) [(42, (.imul, 1)), (43, (.iload_n 1, 1)), (44, (.iadd, 1)), (45, (.laload, 1)), (46, (.lastore, 1)), (47, (.iinc 1 1, 3)), (50, (.goto (-29), 3)), (53, (.aload_n 0, 1)), (54, (.getfield 391, 3)), (57, (.ireturn, 1))] = true := zYQs 42 (by decide +kernel)
theorem dlD_M_named_91 : zdal (zb m_M_named) [(0, (.iload_n 1, 1)), (1, (.i2l, 1)), (2, (.lconst 0, 1)), (3, (.aload_n 0, 1)), (4, (.getfield 388, 3)), (7, (.iconst 1, 1)), (8, (.isub, 1)), (9, (.i2l, 1)), (10, (.invokestatic 131, 3)), (13, (.ifCond .eq 25, 3)), (16, (.aload_n 0, 1)), (17, (.iload_n 2, 1)), (18, (.invokevirtual 414, 3)), (21, (.ifCond .eq 17, 3)), (24, (.aload_n 0, 1)), (25, (.getfield 84, 3)), (28, (.bipush 64, 2)), (30, (.iload_n 1, 1)), (31, (.imul, 1)), (32, (.iload_n 2, 1)), (33, (.iadd, 1)), (34, (.laload, 1)), (35, (.goto 6, 3)), (38, (.ldc2_w 470, 3))] = true := zYQs 0 (by decide +kernel)
theorem dlD_M_named_92 : zdal (zb m_M_named) [(41, (.lreturn, 1))] = true := zYQs 41 (by decide +kernel)
theorem dlD_M_has_93 : zdal (zb m_M_has) [(0, (.aload_n 0, 1)), (1, (.iload_n 1, 1)), (2, (.invokevirtual 414, 3)), (5, (.ifCond .eq 12, 3)), (8, (.aload_n 0, 1)), (9, (.getfield 66, 3)), (12, (.iload_n 1, 1)), (13, (.laload, 1)), (14, (.goto 6, 3)), (17, (.ldc2_w 470, 3)), (20, (.lreturn, 1))] = true := zYQs 0 (by decide +kernel)
theorem dlD_M_marked_94 : zdal (zb m_M_marked) [(0, (.aload_n 0, 1)), (1, (.iload_n 1, 1)), (2, (.invokevirtual 414, 3)), (5, (.ifCond .eq 16, 3)), (8, (.aload_n 0, 1)), (9, (.aload_n 0, 1)), (10, (.getfield 66, 3)), (13, (.iconst 0, 1)), (14, (.iload_n 1, 1)), (15, (.invokevirtual 264, 3)), (18, (.goto 6, 3)), (21, (.ldc2_w 470, 3)), (24, (.lreturn, 1))] = true := zYQs 0 (by decide +kernel)
theorem dlD_M_character_95 : zdal (zb m_M_character) [(0, (.aload_n 0, 1)), (1, (.iload_n 1, 1)), (2, (.invokevirtual 400, 3)), (5, (.ifCond .eq 26, 3)), (8, (.aload_n 0, 1)), (9, (.aload_n 0, 1)), (10, (.getfield 66, 3)), (13, (.iconst 0, 1)), (14, (.aload_n 0, 1)), (15, (.aload_n 0, 1)), (16, (.iconst 1, 1)), (17, (.iload_n 1, 1)), (18, (.ishl, 1)), (19, (.invokevirtual 229, 3)), (22, (.invokevirtual 411, 3)), (25, (.invokevirtual 264, 3)), (28, (.goto 6, 3)), (31, (.ldc2_w 470, 3)), (34, (.lreturn, 1))] = true := zYQs 0 (by decide +kernel)
theorem dlD_M_parts_96 : zdal (zb m_M_parts) [(0, (.iconst 0, 1)), (1, (.istore_n 1, 1)), (2, (.iconst 0, 1)), (3, (.istore_n 2, 1)), (4, (.iload_n 2, 1)), (5, (.aload_n 0, 1)), (6, (.getfield 235, 3)), (9, (.if_icmp .ge 31, 3)), (12, (.iload_n 1, 1)), (13, (.aload_n 0, 1)), (14, (.getfield 66, 3)), (17, (.iload_n 2, 1)), (18, (.laload, 1)), (19, (.lconst 0, 1)), (20, (.lcmp, 1)), (21, (.ifCond .eq 7, 3)), (24, (.iconst 1, 1)), (25, (.goto 4, 3)), (28, (.iconst 0, 1)), (29, (.invokestatic 256, 3)), (32, (.iadd, 1)), (33, (.istore_n 1, 1)), (34, (.iinc 2 1, 3)), (37, (.goto (-33), 3))] = true := zYQs 0 (by decide +kernel)
theorem dlD_M_parts_97 : zdal (zb m_M_parts) [(40, (.iload_n 1, 1)), (41, (.ireturn, 1))] = true := zYQs 40 (by decide +kernel)
theorem dlD_M_congruence_98 : zdal (zb m_M_congruence) [(0, (.aload_n 0, 1)), (1, (.iload_n 1, 1)), (2, (.invokevirtual 414, 3)), (5, (.ifCond .ne 7, 3)), (8, (.ldc2_w 470, 3)), (11, (.lreturn, 1)), (12, (.aload_n 0, 1)), (13, (.invokevirtual 472, 3)), (16, (.aload_n 0, 1)), (17, (.aload_n 0, 1)), (18, (.getfield 69, 3)), (21, (.iload_n 1, 1)), (22, (.invokevirtual 475, 3)), (25, (.aload_n 0, 1)), (26, (.getfield 453, 3)), (29, (.i2l, 1)), (30, (.ldiv, 1)), (31, (.lreturn, 1))] = true := zYQs 0 (by decide +kernel)
theorem dlD_M_laysMarks_99 : zdal (zb m_M_laysMarks) [(0, (.iconst 0, 1)), (1, (.istore_n 1, 1)), (2, (.iload_n 1, 1)), (3, (.aload_n 0, 1)), (4, (.getfield 235, 3)), (7, (.if_icmp .ge 25, 3)), (10, (.aload_n 0, 1)), (11, (.getfield 69, 3)), (14, (.iload_n 1, 1)), (15, (.aload_n 0, 1)), (16, (.aload_n 0, 1)), (17, (.getfield 66, 3)), (20, (.iconst 0, 1)), (21, (.iload_n 1, 1)), (22, (.invokevirtual 264, 3)), (25, (.lastore, 1)), (26, (.iinc 1 1, 3)), (29, (.goto (-27), 3)), (32, (.return_, 1))] = true := zYQs 0 (by decide +kernel)
theorem dlD_M_congruenceOf_100 : zdal (zb m_M_congruenceOf) [(0, (.aload_n 0, 1)), (1, (.iload_n 2, 1)), (2, (.invokevirtual 456, 3)), (5, (.lconst 0, 1)), (6, (.lstore_n 3, 1)), (7, (.iconst 0, 1)), (8, (.istore 5, 2)), (10, (.iload 5, 2)), (12, (.aload_n 0, 1)), (13, (.getfield 453, 3)), (16, (.if_icmp .ge 21, 3)), (19, (.lload_n 3, 1)), (20, (.aload_n 1, 1)), (21, (.aload_n 0, 1)), (22, (.getfield 99, 3)), (25, (.iload 5, 2)), (27, (.iaload, 1)), (28, (.laload, 1)), (29, (.ladd, 1)), (30, (.lstore_n 3, 1)), (31, (.iinc 5 1, 3)), (34, (.goto (-24), 3)), (37, (.lload_n 3, 1)), (38, (.lreturn, 1))] = true := zYQs 0 (by decide +kernel)
theorem dlD_M_is_101 : zdal (zb m_M_is) [(0, (.iload_n 1, 1)), (1, (.i2l, 1)), (2, (.lconst 0, 1)), (3, (.ldc2_w 479, 3)), (6, (.invokestatic 131, 3)), (9, (.ifCond .ne 5, 3)), (12, (.iconst (-1), 1)), (13, (.ireturn, 1)), (14, (.aload_n 0, 1)), (15, (.invokevirtual 472, 3)), (18, (.iconst 1, 1)), (19, (.istore_n 2, 1)), (20, (.iconst 0, 1)), (21, (.istore_n 3, 1)), (22, (.iconst 0, 1)), (23, (.istore 4, 2)), (25, (.iload 4, 2)), (27, (.aload_n 0, 1)), (28, (.getfield 235, 3)), (31, (.if_icmp .ge 142, 3)), (34, (.aload_n 0, 1)), (35, (.getfield 69, 3)), (38, (.iload 4, 2)), (40, (.laload, 1))] = true := zYQs 0 (by decide +kernel)
theorem dlD_M_is_102 : zdal (zb m_M_is) [(41, (.lstore 5, 2)), (43, (.iload_n 1, 1)), (44, (.ifCond .ne 23, 3)), (47, (.aload_n 0, 1)), (48, (.getfield 66, 3)), (51, (.iload 4, 2)), (53, (.laload, 1)), (54, (.lconst 0, 1)), (55, (.lcmp, 1)), (56, (.ifCond .lt 7, 3)), (59, (.iconst 1, 1)), (60, (.goto 75, 3)), (63, (.iconst 0, 1)), (64, (.goto 71, 3)), (67, (.iload_n 1, 1)), (68, (.iconst 1, 1)), (69, (.if_icmp .ne 25, 3)), (72, (.lload 5, 2)), (74, (.lconst 0, 1)), (75, (.lcmp, 1)), (76, (.ifCond .eq 10, 3)), (79, (.lload 5, 2)), (81, (.lconst 1, 1)), (82, (.lcmp, 1))] = true := zYQs 41 (by decide +kernel)
theorem dlD_M_is_103 : zdal (zb m_M_is) [(83, (.ifCond .ne 7, 3)), (86, (.iconst 1, 1)), (87, (.goto 48, 3)), (90, (.iconst 0, 1)), (91, (.goto 44, 3)), (94, (.iload_n 1, 1)), (95, (.iconst 2, 1)), (96, (.if_icmp .ne 27, 3)), (99, (.lload 5, 2)), (101, (.lconst 1, 1)), (102, (.lcmp, 1)), (103, (.ifCond .eq 12, 3)), (106, (.lload 5, 2)), (108, (.ldc2_w 468, 3)), (111, (.lcmp, 1)), (112, (.ifCond .ne 7, 3)), (115, (.iconst 1, 1)), (116, (.goto 19, 3)), (119, (.iconst 0, 1)), (120, (.goto 15, 3)), (123, (.lload 5, 2)), (125, (.lconst 0, 1)), (126, (.lcmp, 1)), (127, (.ifCond .ne 7, 3))] = true := zYQs 83 (by decide +kernel)
theorem dlD_M_is_104 : zdal (zb m_M_is) [(130, (.iconst 1, 1)), (131, (.goto 4, 3)), (134, (.iconst 0, 1)), (135, (.istore 7, 2)), (137, (.iload_n 2, 1)), (138, (.ifCond .eq 12, 3)), (141, (.iload 7, 2)), (143, (.ifCond .eq 7, 3)), (146, (.iconst 1, 1)), (147, (.goto 4, 3)), (150, (.iconst 0, 1)), (151, (.istore_n 2, 1)), (152, (.iload_n 3, 1)), (153, (.ifCond .ne 8, 3)), (156, (.iload 7, 2)), (158, (.ifCond .eq 7, 3)), (161, (.iconst 1, 1)), (162, (.goto 4, 3)), (165, (.iconst 0, 1)), (166, (.istore_n 3, 1)), (167, (.iinc 4 1, 3)), (170, (.goto (-145), 3)), (173, (.iload_n 1, 1)), (174, (.iconst 3, 1))] = true := zYQs 130 (by decide +kernel)
theorem dlD_M_is_105 : zdal (zb m_M_is) [(175, (.if_icmp .ne 7, 3)), (178, (.iload_n 3, 1)), (179, (.goto 4, 3)), (182, (.iload_n 2, 1)), (183, (.invokestatic 256, 3)), (186, (.ireturn, 1))] = true := zYQs 175 (by decide +kernel)
theorem dlD_M_makes_106 : zdal (zb m_M_makes) [(0, (.aload_n 0, 1)), (1, (.invokevirtual 367, 3)), (4, (.aload_n 0, 1)), (5, (.invokevirtual 358, 3)), (8, (.aload_n 0, 1)), (9, (.invokevirtual 183, 3)), (12, (.ifCond .eq 15, 3)), (15, (.aload_n 0, 1)), (16, (.getfield 155, 3)), (19, (.ifCond .eq 8, 3)), (22, (.aload_n 0, 1)), (23, (.iconst 2, 1)), (24, (.invokevirtual 190, 3)), (27, (.aload_n 0, 1)), (28, (.invokevirtual 183, 3)), (31, (.ifCond .eq 17, 3)), (34, (.aload_n 0, 1)), (35, (.getfield 275, 3)), (38, (.ifCond .eq 10, 3)), (41, (.aload_n 0, 1)), (42, (.bipush 6, 2)), (44, (.iconst 0, 1)), (45, (.invokevirtual 168, 3)), (48, (.aload_n 0, 1))] = true := zYQs 0 (by decide +kernel)
theorem dlD_M_makes_107 : zdal (zb m_M_makes) [(49, (.invokevirtual 373, 3)), (52, (.aload_n 0, 1)), (53, (.getfield 172, 3)), (56, (.ifCond .le 5, 3)), (59, (.iconst (-1), 1)), (60, (.ireturn, 1)), (61, (.aload_n 0, 1)), (62, (.invokevirtual 481, 3)), (65, (.iconst 0, 1)), (66, (.istore_n 1, 1)), (67, (.iload_n 1, 1)), (68, (.aload_n 0, 1)), (69, (.getfield 235, 3)), (72, (.if_icmp .ge 21, 3)), (75, (.aload_n 0, 1)), (76, (.getfield 66, 3)), (79, (.iload_n 1, 1)), (80, (.aload_n 0, 1)), (81, (.getfield 56, 3)), (84, (.iload_n 1, 1)), (85, (.laload, 1)), (86, (.lastore, 1)), (87, (.iinc 1 1, 3)), (90, (.goto (-23), 3))] = true := zYQs 49 (by decide +kernel)
theorem dlD_M_makes_108 : zdal (zb m_M_makes) [(93, (.aload_n 0, 1)), (94, (.invokevirtual 484, 3)), (97, (.ireturn, 1))] = true := zYQs 93 (by decide +kernel)
theorem dlD_M_act_109 : zdal (zb m_M_act) [(0, (.aload_n 0, 1)), (1, (.getfield 391, 3)), (4, (.bipush 12, 2)), (6, (.if_icmp .ne 44, 3)), (9, (.bipush 64, 2)), (11, (.istore_n 1, 1)), (12, (.iload_n 1, 1)), (13, (.sipush 768, 3)), (16, (.if_icmp .ge 24, 3)), (19, (.aload_n 0, 1)), (20, (.getfield 106, 3)), (23, (.iload_n 1, 1)), (24, (.bipush 64, 2)), (26, (.isub, 1)), (27, (.aload_n 0, 1)), (28, (.getfield 106, 3)), (31, (.iload_n 1, 1)), (32, (.laload, 1)), (33, (.lastore, 1)), (34, (.iinc 1 1, 3)), (37, (.goto (-25), 3)), (40, (.aload_n 0, 1)), (41, (.dup, 1)), (42, (.getfield 391, 3))] = true := zYQs 0 (by decide +kernel)
theorem dlD_M_act_110 : zdal (zb m_M_act) [(45, (.iconst 1, 1)), (46, (.isub, 1)), (47, (.putfield 391, 3)), (50, (.iconst 0, 1)), (51, (.istore_n 1, 1)), (52, (.iload_n 1, 1)), (53, (.bipush 64, 2)), (55, (.if_icmp .ge 29, 3)), (58, (.aload_n 0, 1)), (59, (.getfield 106, 3)), (62, (.bipush 64, 2)), (64, (.aload_n 0, 1)), (65, (.getfield 391, 3)), (68, (.imul, 1)), (69, (.iload_n 1, 1)), (70, (.iadd, 1)), (71, (.aload_n 0, 1)), (72, (.getfield 66, 3)), (75, (.iload_n 1, 1)), (76, (.laload, 1)), (77, (.lastore, 1)), (78, (.iinc 1 1, 3)), (81, (.goto (-29), 3)), (84, (.aload_n 0, 1))] = true := zYQs 45 (by decide +kernel)
theorem dlD_M_act_111 : zdal (zb m_M_act) [(85, (.dup, 1)), (86, (.getfield 391, 3)), (89, (.iconst 1, 1)), (90, (.iadd, 1)), (91, (.putfield 391, 3)), (94, (.return_, 1))] = true := zYQs 85 (by decide +kernel)
theorem dlD_M_take_112 : zdal (zb m_M_take) [(0, (.iload_n 1, 1)), (1, (.i2l, 1)), (2, (.lconst 0, 1)), (3, (.ldc2_w 493, 3)), (6, (.invokestatic 131, 3)), (9, (.ifCond .eq 19, 3)), (12, (.iload_n 1, 1)), (13, (.ifCond .le 17, 3)), (16, (.iload_n 2, 1)), (17, (.i2l, 1)), (18, (.lconst 0, 1)), (19, (.ldc2_w 495, 3)), (22, (.invokestatic 131, 3)), (25, (.ifCond .ne 5, 3)), (28, (.iconst (-1), 1)), (29, (.ireturn, 1)), (30, (.iconst 0, 1)), (31, (.istore_n 3, 1)), (32, (.iload_n 3, 1)), (33, (.aload_n 0, 1)), (34, (.getfield 235, 3)), (37, (.if_icmp .ge 31, 3)), (40, (.aload_n 0, 1)), (41, (.aload_n 0, 1))] = true := zYQs 0 (by decide +kernel)
theorem dlD_M_take_113 : zdal (zb m_M_take) [(42, (.getfield 44, 3)), (45, (.iload_n 3, 1)), (46, (.iaload, 1)), (47, (.invokevirtual 497, 3)), (50, (.aload_n 0, 1)), (51, (.getfield 60, 3)), (54, (.iload_n 3, 1)), (55, (.aload_n 0, 1)), (56, (.iload_n 1, 1)), (57, (.iload_n 2, 1)), (58, (.invokevirtual 500, 3)), (61, (.lastore, 1)), (62, (.iinc 3 1, 3)), (65, (.goto (-33), 3)), (68, (.aload_n 0, 1)), (69, (.invokevirtual 481, 3)), (72, (.aload_n 0, 1)), (73, (.aload_n 0, 1)), (74, (.getfield 60, 3)), (77, (.aload_n 0, 1)), (78, (.getfield 66, 3)), (81, (.iconst 0, 1)), (82, (.invokevirtual 289, 3)), (85, (.aload_n 0, 1))] = true := zYQs 42 (by decide +kernel)
theorem dlD_M_take_114 : zdal (zb m_M_take) [(86, (.getfield 60, 3)), (89, (.iconst 0, 1)), (90, (.laload, 1)), (91, (.l2i, 1)), (92, (.ireturn, 1))] = true := zYQs 86 (by decide +kernel)
theorem dlD_M_laysParts_115 : zdal (zb m_M_laysParts) [(0, (.aload_n 0, 1)), (1, (.iconst 0, 1)), (2, (.putfield 487, 3)), (5, (.iconst 0, 1)), (6, (.istore_n 2, 1)), (7, (.iconst 0, 1)), (8, (.istore_n 3, 1)), (9, (.iload_n 3, 1)), (10, (.aload_n 0, 1)), (11, (.getfield 382, 3)), (14, (.if_icmp .ge 98, 3)), (17, (.iload_n 2, 1)), (18, (.iload_n 3, 1)), (19, (.invokestatic 213, 3)), (22, (.ifCond .eq 6, 3)), (25, (.goto 81, 3)), (28, (.iconst 0, 1)), (29, (.istore 4, 2)), (31, (.iconst 0, 1)), (32, (.istore 5, 2)), (34, (.iload 5, 2)), (36, (.aload_n 0, 1)), (37, (.getfield 196, 3)), (40, (.if_icmp .ge 37, 3))] = true := zYQs 0 (by decide +kernel)
theorem dlD_M_laysParts_116 : zdal (zb m_M_laysParts) [(43, (.iload_n 1, 1)), (44, (.iload 5, 2)), (46, (.invokestatic 213, 3)), (49, (.ifCond .eq 22, 3)), (52, (.iload 4, 2)), (54, (.iconst 1, 1)), (55, (.aload_n 0, 1)), (56, (.getfield 26, 3)), (59, (.bipush 6, 2)), (61, (.iload 5, 2)), (63, (.imul, 1)), (64, (.iload_n 3, 1)), (65, (.iadd, 1)), (66, (.iaload, 1)), (67, (.ishl, 1)), (68, (.ior, 1)), (69, (.istore 4, 2)), (71, (.iinc 5 1, 3)), (74, (.goto (-40), 3)), (77, (.aload_n 0, 1)), (78, (.getfield 109, 3)), (81, (.aload_n 0, 1)), (82, (.getfield 487, 3)), (85, (.iload 4, 2))] = true := zYQs 43 (by decide +kernel)
theorem dlD_M_laysParts_117 : zdal (zb m_M_laysParts) [(87, (.invokestatic 253, 3)), (90, (.iastore, 1)), (91, (.aload_n 0, 1)), (92, (.dup, 1)), (93, (.getfield 487, 3)), (96, (.iconst 1, 1)), (97, (.iadd, 1)), (98, (.putfield 487, 3)), (101, (.iload_n 2, 1)), (102, (.iload 4, 2)), (104, (.ior, 1)), (105, (.istore_n 2, 1)), (106, (.iinc 3 1, 3)), (109, (.goto (-100), 3)), (112, (.return_, 1))] = true := zYQs 87 (by decide +kernel)
theorem dlD_M_fixedBy_118 : zdal (zb m_M_fixedBy) [(0, (.iload_n 1, 1)), (1, (.iconst 2, 1)), (2, (.if_icmp .ne 7, 3)), (5, (.lconst 1, 1)), (6, (.goto 4, 3)), (9, (.lconst 0, 1)), (10, (.lstore_n 3, 1)), (11, (.iconst 0, 1)), (12, (.istore 5, 2)), (14, (.iload 5, 2)), (16, (.aload_n 0, 1)), (17, (.getfield 487, 3)), (20, (.if_icmp .ge 46, 3)), (23, (.iload_n 1, 1)), (24, (.ifCond .ne 26, 3)), (27, (.lload_n 3, 1)), (28, (.aload_n 0, 1)), (29, (.getfield 109, 3)), (32, (.iload 5, 2)), (34, (.iaload, 1)), (35, (.iconst 1, 1)), (36, (.if_icmp .ne 7, 3)), (39, (.iconst 1, 1)), (40, (.goto 4, 3))] = true := zYQs 0 (by decide +kernel)
theorem dlD_M_fixedBy_119 : zdal (zb m_M_fixedBy) [(43, (.iconst 0, 1)), (44, (.invokestatic 256, 3)), (47, (.i2l, 1)), (48, (.ladd, 1)), (49, (.lstore_n 3, 1)), (50, (.iload_n 1, 1)), (51, (.iconst 2, 1)), (52, (.if_icmp .ne 8, 3)), (55, (.lload_n 3, 1)), (56, (.iload_n 2, 1)), (57, (.i2l, 1)), (58, (.lmul, 1)), (59, (.lstore_n 3, 1)), (60, (.iinc 5 1, 3)), (63, (.goto (-49), 3)), (66, (.iload_n 1, 1)), (67, (.iconst 1, 1)), (68, (.if_icmp .ne 12, 3)), (71, (.aload_n 0, 1)), (72, (.iload_n 2, 1)), (73, (.invokevirtual 490, 3)), (76, (.i2l, 1)), (77, (.goto 4, 3)), (80, (.lload_n 3, 1))] = true := zYQs 43 (by decide +kernel)
theorem d_M_fixedBy_50 : decode (zb m_M_fixedBy) 50 = .ok (.iload_n 1, 1) := zdal_p dlD_M_fixedBy_119 (i := 5) rfl
theorem d_M_fixedBy_51 : decode (zb m_M_fixedBy) 51 = .ok (.iconst 2, 1) := zdal_p dlD_M_fixedBy_119 (i := 6) rfl
theorem d_M_fixedBy_52 : decode (zb m_M_fixedBy) 52 = .ok (.if_icmp .ne 8, 3) := zdal_p dlD_M_fixedBy_119 (i := 7) rfl
theorem d_M_fixedBy_55 : decode (zb m_M_fixedBy) 55 = .ok (.lload_n 3, 1) := zdal_p dlD_M_fixedBy_119 (i := 8) rfl
theorem d_M_fixedBy_56 : decode (zb m_M_fixedBy) 56 = .ok (.iload_n 2, 1) := zdal_p dlD_M_fixedBy_119 (i := 9) rfl
theorem d_M_fixedBy_57 : decode (zb m_M_fixedBy) 57 = .ok (.i2l, 1) := zdal_p dlD_M_fixedBy_119 (i := 10) rfl
theorem d_M_fixedBy_58 : decode (zb m_M_fixedBy) 58 = .ok (.lmul, 1) := zdal_p dlD_M_fixedBy_119 (i := 11) rfl
theorem d_M_fixedBy_59 : decode (zb m_M_fixedBy) 59 = .ok (.lstore_n 3, 1) := zdal_p dlD_M_fixedBy_119 (i := 12) rfl
theorem d_M_fixedBy_60 : decode (zb m_M_fixedBy) 60 = .ok (.iinc 5 1, 3) := zdal_p dlD_M_fixedBy_119 (i := 13) rfl
theorem d_M_fixedBy_63 : decode (zb m_M_fixedBy) 63 = .ok (.goto (-49), 3) := zdal_p dlD_M_fixedBy_119 (i := 14) rfl
theorem dlD_M_fixedBy_120 : zdal (zb m_M_fixedBy) [(81, (.lreturn, 1))] = true := zYQs 81 (by decide +kernel)
theorem dlD_M_setsOf_121 : zdal (zb m_M_setsOf) [(0, (.iconst 0, 1)), (1, (.istore_n 2, 1)), (2, (.iload_n 2, 1)), (3, (.bipush 7, 2)), (5, (.if_icmp .ge 27, 3)), (8, (.aload_n 0, 1)), (9, (.getfield 112, 3)), (12, (.iload_n 2, 1)), (13, (.iload_n 2, 1)), (14, (.ifCond .ne 7, 3)), (17, (.iconst 1, 1)), (18, (.goto 4, 3)), (21, (.iconst 0, 1)), (22, (.invokestatic 256, 3)), (25, (.iastore, 1)), (26, (.iinc 2 1, 3)), (29, (.goto (-27), 3)), (32, (.iconst 0, 1)), (33, (.istore_n 2, 1)), (34, (.iload_n 2, 1)), (35, (.aload_n 0, 1)), (36, (.getfield 487, 3)), (39, (.if_icmp .ge 50, 3)), (42, (.bipush 6, 2))] = true := zYQs 0 (by decide +kernel)
theorem dlD_M_setsOf_122 : zdal (zb m_M_setsOf) [(44, (.istore_n 3, 1)), (45, (.iload_n 3, 1)), (46, (.aload_n 0, 1)), (47, (.getfield 109, 3)), (50, (.iload_n 2, 1)), (51, (.iaload, 1)), (52, (.if_icmp .lt 31, 3)), (55, (.aload_n 0, 1)), (56, (.getfield 112, 3)), (59, (.iload_n 3, 1)), (60, (.dup2, 1)), (61, (.iaload, 1)), (62, (.aload_n 0, 1)), (63, (.getfield 112, 3)), (66, (.iload_n 3, 1)), (67, (.aload_n 0, 1)), (68, (.getfield 109, 3)), (71, (.iload_n 2, 1)), (72, (.iaload, 1)), (73, (.isub, 1)), (74, (.iaload, 1)), (75, (.iadd, 1)), (76, (.iastore, 1)), (77, (.iinc 3 (-1), 3))] = true := zYQs 44 (by decide +kernel)
theorem dlD_M_setsOf_123 : zdal (zb m_M_setsOf) [(80, (.goto (-35), 3)), (83, (.iinc 2 1, 3)), (86, (.goto (-52), 3)), (89, (.aload_n 0, 1)), (90, (.getfield 112, 3)), (93, (.iload_n 1, 1)), (94, (.iaload, 1)), (95, (.ireturn, 1))] = true := zYQs 80 (by decide +kernel)
theorem dlD_M_marks_124 : zdal (zb m_M_marks) [(0, (.aload_n 0, 1)), (1, (.getfield 124, 3)), (4, (.istore_n 1, 1)), (5, (.aload_n 0, 1)), (6, (.iconst 0, 1)), (7, (.putfield 124, 3)), (10, (.aload_n 0, 1)), (11, (.iload_n 1, 1)), (12, (.invokevirtual 520, 3)), (15, (.ifCond .ne 6, 3)), (18, (.bipush (-2), 2)), (20, (.ireturn, 1)), (21, (.iconst 0, 1)), (22, (.istore_n 2, 1)), (23, (.iload_n 2, 1)), (24, (.aload_n 0, 1)), (25, (.getfield 235, 3)), (28, (.if_icmp .ge 35, 3)), (31, (.aload_n 0, 1)), (32, (.aload_n 0, 1)), (33, (.getfield 69, 3)), (36, (.iload_n 2, 1)), (37, (.invokevirtual 475, 3)), (40, (.lstore_n 3, 1))] = true := zYQs 0 (by decide +kernel)
theorem dlD_M_marks_125 : zdal (zb m_M_marks) [(41, (.lload_n 3, 1)), (42, (.aload_n 0, 1)), (43, (.getfield 453, 3)), (46, (.i2l, 1)), (47, (.lrem, 1)), (48, (.lconst 0, 1)), (49, (.lcmp, 1)), (50, (.ifCond .eq 7, 3)), (53, (.iload_n 2, 1)), (54, (.iconst 1, 1)), (55, (.iadd, 1)), (56, (.ireturn, 1)), (57, (.iinc 2 1, 3)), (60, (.goto (-37), 3)), (63, (.aload_n 0, 1)), (64, (.invokevirtual 481, 3)), (67, (.aload_n 0, 1)), (68, (.aload_n 0, 1)), (69, (.getfield 69, 3)), (72, (.aload_n 0, 1)), (73, (.getfield 66, 3)), (76, (.iconst 0, 1)), (77, (.invokevirtual 289, 3)), (80, (.iconst 0, 1))] = true := zYQs 41 (by decide +kernel)
theorem dlD_M_marks_126 : zdal (zb m_M_marks) [(81, (.ireturn, 1))] = true := zYQs 81 (by decide +kernel)
theorem dlD_M_readsMarks_127 : zdal (zb m_M_readsMarks) [(0, (.aload_n 0, 1)), (1, (.iconst 0, 1)), (2, (.putfield 504, 3)), (5, (.aload_n 0, 1)), (6, (.iconst 0, 1)), (7, (.putfield 511, 3)), (10, (.aload_n 0, 1)), (11, (.iload_n 1, 1)), (12, (.invokevirtual 514, 3)), (15, (.ifCond .eq 16, 3)), (18, (.aload_n 0, 1)), (19, (.dup, 1)), (20, (.getfield 504, 3)), (23, (.iconst 1, 1)), (24, (.iadd, 1)), (25, (.putfield 504, 3)), (28, (.goto (-18), 3)), (31, (.aload_n 0, 1)), (32, (.getfield 504, 3)), (35, (.iload_n 1, 1)), (36, (.if_icmp .ge 52, 3)), (39, (.aload_n 0, 1)), (40, (.iload_n 1, 1)), (41, (.invokevirtual 517, 3))] = true := zYQs 0 (by decide +kernel)
theorem dlD_M_readsMarks_128 : zdal (zb m_M_readsMarks) [(44, (.ifCond .ne 5, 3)), (47, (.iconst 0, 1)), (48, (.ireturn, 1)), (49, (.aload_n 0, 1)), (50, (.getfield 504, 3)), (53, (.iload_n 1, 1)), (54, (.if_icmp .ge 13, 3)), (57, (.aload_n 0, 1)), (58, (.iload_n 1, 1)), (59, (.invokevirtual 514, 3)), (62, (.ifCond .ne 5, 3)), (65, (.iconst 0, 1)), (66, (.ireturn, 1)), (67, (.aload_n 0, 1)), (68, (.iload_n 1, 1)), (69, (.invokevirtual 514, 3)), (72, (.ifCond .eq (-41), 3)), (75, (.aload_n 0, 1)), (76, (.dup, 1)), (77, (.getfield 504, 3)), (80, (.iconst 1, 1)), (81, (.iadd, 1)), (82, (.putfield 504, 3)), (85, (.goto (-18), 3))] = true := zYQs 44 (by decide +kernel)
theorem dlD_M_readsMarks_129 : zdal (zb m_M_readsMarks) [(88, (.aload_n 0, 1)), (89, (.getfield 511, 3)), (92, (.aload_n 0, 1)), (93, (.getfield 235, 3)), (96, (.if_icmp .ne 7, 3)), (99, (.iconst 1, 1)), (100, (.goto 4, 3)), (103, (.iconst 0, 1)), (104, (.ireturn, 1))] = true := zYQs 88 (by decide +kernel)
theorem dlD_M_isBlank_130 : zdal (zb m_M_isBlank) [(0, (.aload_n 0, 1)), (1, (.getfield 504, 3)), (4, (.iload_n 1, 1)), (5, (.if_icmp .ge 35, 3)), (8, (.aload_n 0, 1)), (9, (.getfield 7, 3)), (12, (.aload_n 0, 1)), (13, (.getfield 504, 3)), (16, (.iaload, 1)), (17, (.bipush 32, 2)), (19, (.if_icmp .eq 17, 3)), (22, (.aload_n 0, 1)), (23, (.getfield 7, 3)), (26, (.aload_n 0, 1)), (27, (.getfield 504, 3)), (30, (.iaload, 1)), (31, (.bipush 10, 2)), (33, (.if_icmp .ne 7, 3)), (36, (.iconst 1, 1)), (37, (.goto 4, 3)), (40, (.iconst 0, 1)), (41, (.ireturn, 1))] = true := zYQs 0 (by decide +kernel)
theorem dlD_M_readsNumber_131 : zdal (zb m_M_readsNumber) [(0, (.aload_n 0, 1)), (1, (.getfield 504, 3)), (4, (.iload_n 1, 1)), (5, (.if_icmp .ge 21, 3)), (8, (.aload_n 0, 1)), (9, (.getfield 7, 3)), (12, (.aload_n 0, 1)), (13, (.getfield 504, 3)), (16, (.iaload, 1)), (17, (.bipush 45, 2)), (19, (.if_icmp .ne 7, 3)), (22, (.iconst 1, 1)), (23, (.goto 4, 3)), (26, (.iconst 0, 1)), (27, (.istore_n 2, 1)), (28, (.iload_n 2, 1)), (29, (.ifCond .eq 13, 3)), (32, (.aload_n 0, 1)), (33, (.dup, 1)), (34, (.getfield 504, 3)), (37, (.iconst 1, 1)), (38, (.iadd, 1)), (39, (.putfield 504, 3)), (42, (.lconst 0, 1))] = true := zYQs 0 (by decide +kernel)
theorem dlD_M_readsNumber_132 : zdal (zb m_M_readsNumber) [(43, (.lstore_n 3, 1)), (44, (.iconst 0, 1)), (45, (.istore 5, 2)), (47, (.aload_n 0, 1)), (48, (.getfield 504, 3)), (51, (.iload_n 1, 1)), (52, (.if_icmp .ge 62, 3)), (55, (.aload_n 0, 1)), (56, (.getfield 7, 3)), (59, (.aload_n 0, 1)), (60, (.getfield 504, 3)), (63, (.iaload, 1)), (64, (.invokestatic 162, 3)), (67, (.ifCond .eq 47, 3)), (70, (.iload 5, 2)), (72, (.bipush 6, 2)), (74, (.if_icmp .gt 40, 3)), (77, (.ldc2_w 507, 3)), (80, (.lload_n 3, 1)), (81, (.lmul, 1)), (82, (.aload_n 0, 1)), (83, (.getfield 7, 3)), (86, (.aload_n 0, 1)), (87, (.getfield 504, 3))] = true := zYQs 43 (by decide +kernel)
theorem dlD_M_readsNumber_133 : zdal (zb m_M_readsNumber) [(90, (.iaload, 1)), (91, (.i2l, 1)), (92, (.ladd, 1)), (93, (.ldc2_w 509, 3)), (96, (.lsub, 1)), (97, (.lstore_n 3, 1)), (98, (.iinc 5 1, 3)), (101, (.aload_n 0, 1)), (102, (.dup, 1)), (103, (.getfield 504, 3)), (106, (.iconst 1, 1)), (107, (.iadd, 1)), (108, (.putfield 504, 3)), (111, (.goto (-64), 3)), (114, (.iload 5, 2)), (116, (.ifCond .eq 21, 3)), (119, (.iload 5, 2)), (121, (.bipush 6, 2)), (123, (.if_icmp .gt 14, 3)), (126, (.aload_n 0, 1)), (127, (.getfield 511, 3)), (130, (.aload_n 0, 1)), (131, (.getfield 235, 3)), (134, (.if_icmp .ne 5, 3))] = true := zYQs 90 (by decide +kernel)
theorem dlD_M_readsNumber_134 : zdal (zb m_M_readsNumber) [(137, (.iconst 0, 1)), (138, (.ireturn, 1)), (139, (.aload_n 0, 1)), (140, (.getfield 69, 3)), (143, (.aload_n 0, 1)), (144, (.getfield 511, 3)), (147, (.iload_n 2, 1)), (148, (.ifCond .eq 8, 3)), (151, (.lload_n 3, 1)), (152, (.lneg, 1)), (153, (.goto 4, 3)), (156, (.lload_n 3, 1)), (157, (.lastore, 1)), (158, (.aload_n 0, 1)), (159, (.dup, 1)), (160, (.getfield 511, 3)), (163, (.iconst 1, 1)), (164, (.iadd, 1)), (165, (.putfield 511, 3)), (168, (.iconst 1, 1)), (169, (.ireturn, 1))] = true := zYQs 137 (by decide +kernel)
theorem dlD_M_uses_135 : zdal (zb m_M_uses) [(0, (.iload_n 1, 1)), (1, (.i2l, 1)), (2, (.lconst 0, 1)), (3, (.aload_n 0, 1)), (4, (.getfield 388, 3)), (7, (.iconst 1, 1)), (8, (.isub, 1)), (9, (.i2l, 1)), (10, (.invokestatic 131, 3)), (13, (.ifCond .ne 5, 3)), (16, (.iconst (-1), 1)), (17, (.ireturn, 1)), (18, (.aload_n 0, 1)), (19, (.invokevirtual 481, 3)), (22, (.iconst 0, 1)), (23, (.istore_n 2, 1)), (24, (.iload_n 2, 1)), (25, (.aload_n 0, 1)), (26, (.getfield 235, 3)), (29, (.if_icmp .ge 26, 3)), (32, (.aload_n 0, 1)), (33, (.getfield 66, 3)), (36, (.iload_n 2, 1)), (37, (.aload_n 0, 1))] = true := zYQs 0 (by decide +kernel)
theorem dlD_M_uses_136 : zdal (zb m_M_uses) [(38, (.getfield 84, 3)), (41, (.bipush 64, 2)), (43, (.iload_n 1, 1)), (44, (.imul, 1)), (45, (.iload_n 2, 1)), (46, (.iadd, 1)), (47, (.laload, 1)), (48, (.lastore, 1)), (49, (.iinc 2 1, 3)), (52, (.goto (-28), 3)), (55, (.aload_n 0, 1)), (56, (.invokevirtual 484, 3)), (59, (.ireturn, 1))] = true := zYQs 38 (by decide +kernel)
theorem dlD_M_grows_137 : zdal (zb m_M_grows) [(0, (.aload_n 0, 1)), (1, (.iload_n 3, 1)), (2, (.invokevirtual 414, 3)), (5, (.ifCond .eq 31, 3)), (8, (.iload_n 1, 1)), (9, (.i2l, 1)), (10, (.ldc2_w 523, 3)), (13, (.ldc2_w 525, 3)), (16, (.invokestatic 131, 3)), (19, (.ifCond .eq 17, 3)), (22, (.iload_n 2, 1)), (23, (.i2l, 1)), (24, (.ldc2_w 527, 3)), (27, (.ldc2_w 529, 3)), (30, (.invokestatic 131, 3)), (33, (.ifCond .ne 7, 3)), (36, (.ldc2_w 470, 3)), (39, (.lreturn, 1)), (40, (.iconst 0, 1)), (41, (.istore 4, 2)), (43, (.iload 4, 2)), (45, (.aload_n 0, 1)), (46, (.getfield 235, 3)), (49, (.if_icmp .ge 39, 3))] = true := zYQs 0 (by decide +kernel)
theorem dlD_M_grows_138 : zdal (zb m_M_grows) [(52, (.aload_n 0, 1)), (53, (.getfield 87, 3)), (56, (.iload 4, 2)), (58, (.iload_n 1, 1)), (59, (.i2l, 1)), (60, (.aload_n 0, 1)), (61, (.getfield 66, 3)), (64, (.iload 4, 2)), (66, (.laload, 1)), (67, (.lmul, 1)), (68, (.iload 4, 2)), (70, (.iload_n 3, 1)), (71, (.if_icmp .ne 7, 3)), (74, (.iload_n 2, 1)), (75, (.goto 4, 3)), (78, (.iconst 0, 1)), (79, (.i2l, 1)), (80, (.ladd, 1)), (81, (.lastore, 1)), (82, (.iinc 4 1, 3)), (85, (.goto (-42), 3)), (88, (.aload_n 0, 1)), (89, (.aload_n 0, 1)), (90, (.getfield 87, 3))] = true := zYQs 52 (by decide +kernel)
theorem dlD_M_grows_139 : zdal (zb m_M_grows) [(93, (.iconst 0, 1)), (94, (.invokevirtual 271, 3)), (97, (.ifCond .ne 7, 3)), (100, (.ldc2_w 470, 3)), (103, (.lreturn, 1)), (104, (.aload_n 0, 1)), (105, (.invokevirtual 481, 3)), (108, (.iconst 0, 1)), (109, (.istore 4, 2)), (111, (.iload 4, 2)), (113, (.aload_n 0, 1)), (114, (.getfield 235, 3)), (117, (.if_icmp .ge 23, 3)), (120, (.aload_n 0, 1)), (121, (.getfield 66, 3)), (124, (.iload 4, 2)), (126, (.aload_n 0, 1)), (127, (.getfield 87, 3)), (130, (.iload 4, 2)), (132, (.laload, 1)), (133, (.lastore, 1)), (134, (.iinc 4 1, 3)), (137, (.goto (-26), 3)), (140, (.aload_n 0, 1))] = true := zYQs 93 (by decide +kernel)
theorem dlD_M_grows_140 : zdal (zb m_M_grows) [(141, (.getfield 66, 3)), (144, (.iload_n 3, 1)), (145, (.laload, 1)), (146, (.lreturn, 1))] = true := zYQs 141 (by decide +kernel)
def zH : Nat → Nat → Nat
  | 0 => fun k => match k with
    | 0 => 4
    | 1 => 6
    | 2 => 7
    | _ => 7
  | 1 => fun k => match k with
    | 0 => 5
    | 1 => 0
    | 2 => 0
    | 3 => 0
    | 4 => 0
    | _ => 0
  | 2 => fun k => match k with
    | _ => 1
  | 3 => fun k => match k with
    | 0 => 4
    | 1 => 0
    | 2 => 0
    | _ => 0
  | 4 => fun k => match k with
    | 0 => 8
    | 1 => 9
    | 2 => 10
    | 3 => 12
    | 4 => 13
    | 5 => 5
    | 6 => 0
    | 7 => 0
    | _ => 0
  | 5 => fun k => match k with
    | 0 => 5
    | 1 => 5
    | 2 => 5
    | 3 => 5
    | 4 => 5
    | 5 => 0
    | 6 => 0
    | _ => 0
  | 6 => fun k => match k with
    | 0 => 8
    | 1 => 5
    | 2 => 5
    | 3 => 5
    | 4 => 5
    | 5 => 5
    | 6 => 0
    | _ => 0
  | 7 => fun k => match k with
    | 0 => 9
    | 1 => 11
    | _ => 11
  | 8 => fun k => match k with
    | _ => 2
  | 9 => fun k => match k with
    | 0 => 9
    | 1 => 5
    | 2 => 5
    | 3 => 0
    | _ => 0
  | 10 => fun k => match k with
    | 0 => 10
    | 1 => 5
    | 2 => 0
    | 3 => 0
    | 4 => 0
    | 5 => 0
    | _ => 0
  | 11 => fun k => match k with
    | 0 => 1
    | 1 => 0
    | 2 => 0
    | 3 => 0
    | 4 => 0
    | 5 => 0
    | 6 => 0
    | 7 => 0
    | 8 => 0
    | 9 => 0
    | 10 => 0
    | 11 => 0
    | 12 => 0
    | 13 => 0
    | 14 => 0
    | 15 => 1
    | 16 => 0
    | 17 => 0
    | 18 => 0
    | 19 => 1
    | 20 => 0
    | 21 => 1
    | 22 => 1
    | 23 => 1
    | 24 => 1
    | 25 => 0
    | 26 => 0
    | 27 => 1
    | 28 => 1
    | 29 => 1
    | 30 => 1
    | 31 => 1
    | 32 => 1
    | 33 => 2
    | 34 => 2
    | 35 => 2
    | 36 => 2
    | 37 => 2
    | 38 => 0
    | 39 => 0
    | 40 => 1
    | 41 => 0
    | 42 => 0
    | 43 => 0
    | 44 => 2
    | 45 => 2
    | 46 => 2
    | 47 => 2
    | 48 => 2
    | 49 => 1
    | 50 => 2
    | 51 => 2
    | 52 => 0
    | 53 => 0
    | 54 => 1
    | 55 => 0
    | 56 => 1
    | 57 => 0
    | 58 => 0
    | 59 => 2
    | 60 => 0
    | 61 => 1
    | 62 => 1
    | 63 => 0
    | 64 => 0
    | _ => 0
  | _ => fun _ => 0
def zTy (B : Nat) (M : zMem) : Prop := (∀ q ci j, q < B → (zsh M q).1 = ci + 3 → ci < 11 → j < zN ci → zG ci j = 2 → ∃ r, zf M q j = some r ∧ r < B ∧ (zsh M r).1 = zH ci j) ∧ ∀ q, q < B → (zsh M q).2 ≤ 1000000
def zMod (B : Nat) (S : List (Nat × Nat)) (M M' : zMem) : Prop := M'.1 = M.1 ∧ zsh M' = zsh M ∧ zf M' = zf M ∧ (∀ q, B ≤ q → zi M' q = zi M q ∧ zj M' q = zj M q) ∧ ∀ q ci j, (zsh M q).1 = ci + 3 → (ci, j) ∉ S → zi M' q j = zi M q j
theorem zMod.rf {B : Nat} {S : List (Nat × Nat)} {M : zMem} : zMod B S M M := ⟨rfl, rfl, rfl, fun _ _ => ⟨rfl, rfl⟩, fun _ _ _ _ _ => rfl⟩
theorem zMod.of {B : Nat} {S : List (Nat × Nat)} {M M' : zMem} (h : M' = M) : zMod B S M M' := h ▸ zMod.rf
theorem zMod.call {B : Nat} {S S' : List (Nat × Nat)} {M M1 M2 : zMem} (h : zMod B S M M1) (h2 : zMod B S' M1 M2) (hs : ∀ x ∈ S', x ∈ S) : zMod B S M M2 := by
  obtain ⟨a1, a2, a3, a4, a5⟩ := h
  obtain ⟨b1, b2, b3, b4, b5⟩ := h2
  refine ⟨b1.trans a1, b2.trans a2, b3.trans a3, fun q hq => ⟨(b4 q hq).1.trans (a4 q hq).1, (b4 q hq).2.trans (a4 q hq).2⟩, fun q ci j hk hn => ?_⟩
  rw [b5 q ci j (by rw [a2]; exact hk) (fun x => hn (hs _ x)), a5 q ci j hk hn]
theorem zMod.k {B : Nat} {S : List (Nat × Nat)} {M M' : zMem} (h : zMod B S M M') {q t : Nat} (hq : (zsh M q).1 = t) : (zsh M' q).1 = t := by rw [h.2.1]; exact hq
theorem zTy.mod {B : Nat} {S : List (Nat × Nat)} {M M' : zMem} (h : zTy B M) (m : zMod B S M M') : zTy B M' := by
  refine ⟨fun q ci j h1 h2 h3 h4 h5 => ?_, fun q h1 => by rw [m.2.1]; exact h.2 q h1⟩
  rw [m.2.1] at h2 ⊢
  rw [m.2.2.1]
  exact h.1 q ci j h1 h2 h3 h4 h5
theorem zMod.putI {B : Nat} {S : List (Nat × Nat)} {M M1 : zMem} (h : zMod B S M M1) {q ci j : Nat} {x : Int32} (hq : q < B) (hk : (zsh M q).1 = ci + 3) (hs : (ci, j) ∈ S) : zMod B S M (zsI M1 q j x) := by
  obtain ⟨a1, a2, a3, a4, a5⟩ := h
  refine ⟨a1, a2, a3, fun q2 h2 => ⟨?_, (a4 q2 h2).2⟩, fun q2 ci2 j2 hk2 hn => ?_⟩
  · show zup2 (zi M1) q j x q2 = _
    rw [zup2_q (by omega)]
    exact (a4 q2 h2).1
  · show zup2 (zi M1) q j x q2 j2 = _
    rw [zup2_n, a5 q2 ci2 j2 hk2 hn]
    rintro ⟨rfl, rfl⟩
    have e : ci2 = ci := by omega
    subst e
    exact hn hs
section ZC
variable {l : Launch} {k : zMeth} {B : Nat} {Sm : List (Nat × Nat)} {M0 M : zMem} {pc : Nat} {L : List (Option Value)} {S : List Value} {Q : Option Value → zMem → Prop}
end ZC
def zLe : List (Option Value) → List (Option Value) → Prop
  | [], _ => True
  | none :: a, b => match b with
    | [] => zLe a []
    | _ :: b => zLe a b
  | some v :: a, b => match b with
    | [] => False
    | x :: b => x = some v ∧ zLe a b
theorem zLe_get : ∀ (A L : List (Option Value)), zLe A L → ∀ (i : Nat) (v : Value), A[i]? = some (some v) → L[i]? = some (some v)
  | [], _, _, i, v, h => by simp at h
  | none :: a, [], hl, i, v, h => by
    cases i with
    | zero => simp at h
    | succ i =>
      have := zLe_get a [] hl i v (by simpa using h)
      simp at this
  | none :: a, _ :: b, hl, i, v, h => by
    cases i with
    | zero => simp at h
    | succ i => simpa using zLe_get a b hl i v (by simpa using h)
  | some w :: a, [], hl, i, v, h => hl.elim
  | some w :: a, x :: b, hl, i, v, h => by
    cases i with
    | zero =>
      have e : w = v := by simpa using h
      subst e
      simpa using hl.1
    | succ i => simpa using zLe_get a b hl.2 i v (by simpa using h)
theorem zW_le {l : Launch} {k : zMeth} {X : Nat × Nat} {M : zMem} {pc : Nat} {L : List (Option Value)} {S : List Value} {Q : Option Value → zMem → Prop} (L2 : List (Option Value)) (hL : zLe L2 L) (h : zW l k X M pc L2 S Q) : zW l k X M pc L S Q := zW_less (zLe_get L2 L hL) h
theorem zQ0 {M : zMem} {Q : Option Value → zMem → Prop} : ∀ (r : Option Value) (M' : zMem), Q r M' → zn M ≤ zn M' ∧ zn M' ≤ zn M + 0 ∧ zw M ≤ zw M' ∧ zw M' ≤ zw M + 0 → zn M' = zn M + 0 ∧ zw M' = zw M + 0 := fun _ _ _ h => ⟨by omega, by omega⟩
theorem zw_mmax {l : Launch} {k : zMeth} {X : Nat × Nat} {M : zMem} {pc : Nat} {L : List (Option Value)} {S : List Value} {Q : Option Value → zMem → Prop} {x y : Int32} {ix : Nat} (hlk : Cond.methodLink (zR (zo k)) ix Lib.Math.max.name ∈ z_tbl) (hR : 1 ≤ zF k ∧ 30 ≤ zLo k) (hc8 : (S.map fun v => v.category).sum ≤ 8) (hd : decode (zb k) pc = .ok (.invokestatic ix, 3)) (kk : ∀ v : Int32, v = (if x < y then y else x) → zW l k X M (pc + 3) L (.int v :: S) Q) : zW l k X M pc L (.int y :: .int x :: S) Q := by
  intro p e R s m args below meth c D cI cJ ad adV n0 w0 H locs ls Qm C I hl hc hf
  have h8 : ((S.map (zv ad)).map fun v => v.category).sum ≤ 8 := by rw [zv_cats]; exact hc8
  have a1 := C.2.2.2.2.2.2.2.2.1
  have a2 := C.2.2.2.2.2.2.2.2.2
  exact va_mmax C.1 C.2.1 (C.2.2.1.trans hl.1.symm) C.2.2.2.1 (C.2.2.2.2.1 _ hlk) (C.2.2.2.2.1 _ x_mmax.1) (C.2.2.2.2.1 _ x_mmax.2.1) (C.2.2.2.2.1 _ x_mmax.2.2) (by omega) (by omega) (by omega) (by omega) hd (kk _ rfl p e R s m args below meth c D cI cJ ad adV n0 w0 H locs ls Qm C I hl hc hf)
theorem zw_mmin {l : Launch} {k : zMeth} {X : Nat × Nat} {M : zMem} {pc : Nat} {L : List (Option Value)} {S : List Value} {Q : Option Value → zMem → Prop} {x y : Int32} {ix : Nat} (hlk : Cond.methodLink (zR (zo k)) ix Lib.Math.min.name ∈ z_tbl) (hR : 1 ≤ zF k ∧ 30 ≤ zLo k) (hc8 : (S.map fun v => v.category).sum ≤ 8) (hd : decode (zb k) pc = .ok (.invokestatic ix, 3)) (kk : ∀ v : Int32, v = (if y < x then y else x) → zW l k X M (pc + 3) L (.int v :: S) Q) : zW l k X M pc L (.int y :: .int x :: S) Q := by
  intro p e R s m args below meth c D cI cJ ad adV n0 w0 H locs ls Qm C I hl hc hf
  have h8 : ((S.map (zv ad)).map fun v => v.category).sum ≤ 8 := by rw [zv_cats]; exact hc8
  have a1 := C.2.2.2.2.2.2.2.2.1
  have a2 := C.2.2.2.2.2.2.2.2.2
  exact va_mmin C.1 C.2.1 (C.2.2.1.trans hl.1.symm) C.2.2.2.1 (C.2.2.2.2.1 _ hlk) (C.2.2.2.2.1 _ x_mmin.1) (C.2.2.2.2.1 _ x_mmin.2.1) (C.2.2.2.2.1 _ x_mmin.2.2) (by omega) (by omega) (by omega) (by omega) hd (kk _ rfl p e R s m args below meth c D cI cJ ad adV n0 w0 H locs ls Qm C I hl hc hf)
theorem zw_mabs {l : Launch} {k : zMeth} {X : Nat × Nat} {M : zMem} {pc : Nat} {L : List (Option Value)} {S : List Value} {Q : Option Value → zMem → Prop} {x : Int32} {ix : Nat} (hlk : Cond.methodLink (zR (zo k)) ix Lib.Math.abs.name ∈ z_tbl) (hR : 1 ≤ zF k ∧ 30 ≤ zLo k) (hc8 : (S.map fun v => v.category).sum ≤ 8) (hd : decode (zb k) pc = .ok (.invokestatic ix, 3)) (kk : ∀ v : Int32, v = (if 0 ≤ x then x else 0 - x) → zW l k X M (pc + 3) L (.int v :: S) Q) : zW l k X M pc L (.int x :: S) Q := by
  intro p e R s m args below meth c D cI cJ ad adV n0 w0 H locs ls Qm C I hl hc hf
  have h8 : ((S.map (zv ad)).map fun v => v.category).sum ≤ 8 := by rw [zv_cats]; exact hc8
  have a1 := C.2.2.2.2.2.2.2.2.1
  have a2 := C.2.2.2.2.2.2.2.2.2
  exact va_mabs C.1 C.2.1 (C.2.2.1.trans hl.1.symm) C.2.2.2.1 (C.2.2.2.2.1 _ hlk) (C.2.2.2.2.1 _ x_mabs.1) (C.2.2.2.2.1 _ x_mabs.2.1) (C.2.2.2.2.1 _ x_mabs.2.2) (by omega) (by omega) (by omega) (by omega) hd (kk _ rfl p e R s m args below meth c D cI cJ ad adV n0 w0 H locs ls Qm C I hl hc hf)
theorem zw_mabsl {l : Launch} {k : zMeth} {X : Nat × Nat} {M : zMem} {pc : Nat} {L : List (Option Value)} {S : List Value} {Q : Option Value → zMem → Prop} {x : Int64} {ix : Nat} (hlk : Cond.methodLink (zR (zo k)) ix Lib.MathLoose.abs_long.x ∈ z_tbl) (hR : 1 ≤ zF k ∧ 30 ≤ zLo k) (hc8 : (S.map fun v => v.category).sum ≤ 8) (hd : decode (zb k) pc = .ok (.invokestatic ix, 3)) (kk : ∀ v : Int64, v = (if 0 < x then x else -x) → zW l k X M (pc + 3) L (.long v :: S) Q) : zW l k X M pc L (.long x :: S) Q := by
  intro p e R s m args below meth c D cI cJ ad adV n0 w0 H locs ls Qm C I hl hc hf
  have h8 : ((S.map (zv ad)).map fun v => v.category).sum ≤ 8 := by rw [zv_cats]; exact hc8
  have a1 := C.2.2.2.2.2.2.2.2.1
  have a2 := C.2.2.2.2.2.2.2.2.2
  exact va_mabs_long C.1 C.2.1 (C.2.2.1.trans hl.1.symm) C.2.2.2.1 (C.2.2.2.2.1 _ hlk) (C.2.2.2.2.1 _ x_mabsl.1) (C.2.2.2.2.1 _ x_mabsl.2.1) (C.2.2.2.2.1 _ x_mabsl.2.2) (by omega) (by omega) (by omega) (by omega) hd (kk _ rfl p e R s m args below meth c D cI cJ ad adV n0 w0 H locs ls Qm C I hl hc hf)
section ZCA
variable {l : Launch} {k : zMeth} {B : Nat} {Sm : List (Nat × Nat)} {M0 M : zMem} {pc : Nat} {L : List (Option Value)} {S : List Value} {Q : Option Value → zMem → Prop}
theorem z_pair {M : zMem} {q t : Nat} (h : (zsh M q).1 = t) : zsh M q = (t, (zsh M q).2) := Prod.ext h rfl
theorem zMod.sh {B : Nat} {S : List (Nat × Nat)} {M M' : zMem} (h : zMod B S M M') {q t : Nat} (hq : (zsh M q).1 = t) : zsh M' q = (t, (zsh M q).2) := by rw [h.2.1]; exact z_pair hq
end ZCA
theorem zsL_le (i : Nat) : zsL.getD i 0 ≤ 1000000 := by
  unfold zsL
  rcases i with _ | _ | _ | _ | i <;> simp
section ZTR
variable {l : Launch} {k : zMeth} {X : Nat × Nat} {M : zMem} {pc : Nat} {L : List (Option Value)} {S : List Value} {Q : Option Value → zMem → Prop}
theorem zt_cs (hlk : Cond.fieldLink (zR (zo k)) 38 "java/lang/String" "COMPACT_STRINGS" "Z" ∈ z_tbl) (hd : decode (zb k) pc = .ok (.getstatic 38, 3)) (kk : zW l k X M (pc + 3) L (.int 1 :: S) Q) : zW l k X M pc L S Q := by
  intro p e R s m args below meth c D cI cJ ad adV n0 w0 H locs ls Qm C I hl hc hf
  exact va_gets C.1 C.2.1 I.1.2.2.2.2.1 I.2.2.2.1 C.2.2.2.1 (C.2.2.2.2.1 _ hlk) (fun x hx => hx) hd (kk p e R s m args below meth c D cI cJ ad adV n0 w0 H locs ls Qm C I hl hc hf)
theorem zt_sf {ix : Nat} (hlk : Cond.fieldLink (zR (zo k)) ix "jdk/internal/util/Preconditions" "SIOOBE_FORMATTER" "Ljava/util/function/BiFunction;" ∈ z_tbl) (hd : decode (zb k) pc = .ok (.getstatic ix, 3)) (kk : ∀ v, v = .null ∨ v = .ref (zK 100) → zW l k X M (pc + 3) L (v :: S) Q) : zW l k X M pc L S Q := by
  intro p e R s m args below meth c D cI cJ ad adV n0 w0 H locs ls Qm C I hl hc hf
  rcases I.1.2.2.2.2.2 with h | h
  · exact va_gets C.1 C.2.1 h I.2.2.2.1 C.2.2.2.1 (C.2.2.2.2.1 _ hlk) (fun x hx => hx) hd (kk .null (Or.inl rfl) p e R s m args below meth c D cI cJ ad adV n0 w0 H locs ls Qm C I hl hc hf)
  · exact va_gets C.1 C.2.1 h I.2.2.2.1 C.2.2.2.1 (C.2.2.2.2.1 _ hlk) (fun x hx => hx) hd (kk (.ref (zK 100)) (Or.inr rfl) p e R s m args below meth c D cI cJ ad adV n0 w0 H locs ls Qm C I hl hc hf)
theorem zt_val {ix i : Nat} (hi : i < zsN) (hlk : Cond.fieldLink (zR (zo k)) ix "java/lang/String" "value" "[B" ∈ z_tbl) (hd : decode (zb k) pc = .ok (.getfield ix, 3)) (kk : zW l k X M (pc + 3) L (.ref (zK (200 + i)) :: S) Q) : zW l k X M pc L (.ref (zK i) :: S) Q := by
  intro p e R s m args below meth c D cI cJ ad adV n0 w0 H locs ls Qm C I hl hc hf
  exact vk_getf C.1 C.2.1 (I.1.2.2.2.1.1 i hi).2.2.1 I.2.2.2.1 C.2.2.2.1 (C.2.2.2.2.1 _ hlk) (fun x hx => hx) hd (kk p e R s m args below meth c D cI cJ ad adV n0 w0 H locs ls Qm C I hl hc hf)
theorem zt_co {ix i : Nat} (hi : i < zsN) (hlk : Cond.fieldLink (zR (zo k)) ix "java/lang/String" "coder" "B" ∈ z_tbl) (hd : decode (zb k) pc = .ok (.getfield ix, 3)) (kk : zW l k X M (pc + 3) L (.int 0 :: S) Q) : zW l k X M pc L (.ref (zK i) :: S) Q := by
  intro p e R s m args below meth c D cI cJ ad adV n0 w0 H locs ls Qm C I hl hc hf
  exact vk_getf C.1 C.2.1 (I.1.2.2.2.1.1 i hi).2.1 I.2.2.2.1 C.2.2.2.1 (C.2.2.2.2.1 _ hlk) (fun x hx => hx) hd (kk p e R s m args below meth c D cI cJ ad adV n0 w0 H locs ls Qm C I hl hc hf)
theorem zt_len {i : Nat} (hi : i < zsN) (hd : decode (zb k) pc = .ok (.arraylength, 1)) (kk : zW l k X M (pc + 1) L (.int (nI (zsL.getD i 0)) :: S) Q) : zW l k X M pc L (.ref (zK (200 + i)) :: S) Q := by
  intro p e R s m args below meth c D cI cJ ad adV n0 w0 H locs ls Qm C I hl hc hf
  obtain ⟨cell, h1, h2, h3, h4, h5, h6, h7⟩ := (I.1.2.2.2.1.1 i hi).2.2.2
  have hcell : H[ad (zK (200 + i))]? = some cell := by rw [I.2.2.2.1.2.1 _ (Array.getElem?_eq_some_iff.mp h1).1 h7]; exact h1
  exact W.alen (n := nI (zsL.getD i 0)) C.1 C.2.1 hcell h2 h5 rfl rfl hd (kk p e R s m args below meth c D cI cJ ad adV n0 w0 H locs ls Qm C I hl hc hf)
theorem zt_bald {i : Nat} {x : Int32} (hi : i < zsN) (hin : vp_in x (zsL.getD i 0)) (hd : decode (zb k) pc = .ok (.baload, 1)) (kk : zW l k X M (pc + 1) L (.int ((zsB.getD i []).getD x.toNatClampNeg 0) :: S) Q) : zW l k X M pc L (.int x :: .ref (zK (200 + i)) :: S) Q := by
  intro p e R s m args below meth c D cI cJ ad adV n0 w0 H locs ls Qm C I hl hc hf
  exact va_tb C.1 C.2.1 (I.1.2.2.2.1.1 i hi).2.2.2 I.2.2.2.1 hin rfl hd (kk p e R s m args below meth c D cI cJ ad adV n0 w0 H locs ls Qm C I hl hc hf)
theorem zt_i2c {x : Int32} (hd : decode (zb k) pc = .ok (.i2c, 1)) (kk : zW l k X M (pc + 1) L (.int (x.toUInt32 % 65536).toInt32 :: S) Q) : zW l k X M pc L (.int x :: S) Q := by
  intro p e R s m args below meth c D cI cJ ad adV n0 w0 H locs ls Qm C I hl hc hf
  exact lv_i2c C.1 C.2.1 hd rfl (kk p e R s m args below meth c D cI cJ ad adV n0 w0 H locs ls Qm C I hl hc hf)
end ZTR
section ZT
variable {l : Launch} {k : zMeth} {B : Nat} {Sm : List (Nat × Nat)} {M0 M : zMem} {pc : Nat} {L : List (Option Value)} {S : List Value} {Q : Option Value → zMem → Prop}
theorem zw_callT {k' : zMeth} {X : Nat × Nat} {Q' : Option Value → zMem → Prop} {ix i : Nat} (vs rest : List Value) (hl' : zMLV (zo k) ix k') (hC : zC l k' 0 0 (.ref (zK i) :: vs) M Q') (hS : S = vs.reverse ++ .ref (zK i) :: rest) (hn : vs.length = zna k') (hi : i < zsN) (h15 : zo k' = 15) (hR : zF k' + 1 ≤ zF k ∧ 8 + (zl k' + 11) + zLo k' ≤ zLo k) (hc8 : (rest.map fun v => v.category).sum ≤ 8) (hd : decode (zb k) pc = .ok (.invokevirtual ix, 3))
    (kk : ∀ (r : Option Value) (M' : zMem), Q' r M' → zn M' = zn M + 0 → zw M' = zw M + 0 → zW l k X M' (pc + 3) L (r.toList ++ rest) Q) : zW l k X M pc L S Q := by
  intro p e R s m args below meth c D cI cJ ad adV n0 w0 H locs ls Qm C I hl hc hf
  subst hS
  obtain ⟨hlk, hin, hse, hM⟩ := hl'
  have hrec : ∃ cell : Cell, H[ad (zK i)]? = some cell ∧ cell.vm.isStatics = false ∧ s.vm.findClass (zR (zo k')) = some cell.cls := by
    rw [h15]
    exact vk_recv (adK := fun i => ad (zK i)) (i := i) I.1.2.2.2.1 hi I.2.2.2.1
  have hPre : PreV s H (zR (zo k')) (ad (zK i)) (va_Pc ((.ref (zK i) :: vs : List Value).map (zv ad)) (zIe D cI cJ ad adV M)) (vs.map (zv ad)) := ⟨zIe_blind, hrec, fun U hU hW => ⟨rfl, zIe_of I hU hW⟩⟩
  have fin : ∀ (r : Option Value) (M' : zMem) (H1 : Heap) (locs1 : List Loc), Q' r M' → zn M' = zn M + 0 → zw M' = zw M + 0 → zI D cI cJ ad adV M' s H1 locs1 → W p l e R s m args below meth c H1 locs1 (zn M - n0 + 0) (zw M - w0 + 0) Qm (F0 m (pc + 3) ls ((r.map (zv ad)).toList ++ rest.map (zv ad))) := by
    intro r M' H1 locs1 q1 q2 q3 q4
    have hk := kk r M' q1 q2 q3 p e R s m args below meth c D cI cJ ad adV n0 w0 H1 locs1 ls Qm C q4 hl (by omega) (fun r M' H' locs' pc' ls' b1 b2 b3 b4 => hf r M' H' locs' pc' ls' b1 b2 b3 (by omega))
    rw [z_top, show zn M - n0 + 0 = zn M' - n0 by omega, show zw M - w0 + 0 = zw M' - w0 by omega]
    exact hk
  rw [z_stk]
  rcases hlk with hlk | ⟨host, hlk⟩
  · exact z_ran (va_runV (Ts := z_tbl) (C := zR (zo k')) ⟨C.1, C.2.1, C.2.2.1, C.2.2.2.1, C.2.2.2.2.1⟩ (hC D cI cJ ad adV) ⟨z_callB C hlk hM hR, C.2.2.2.2.1 _ hin, C.2.2.2.2.1 _ hse⟩ hPre rfl (by rw [List.length_map]; exact hn) hl.1 rfl (lv_room (by rw [zv_cats]; exact hc8)) hd ⟨by omega, by omega⟩) I fin
  · exact z_ran (va_runVN (Ts := z_tbl) (C := zR (zo k')) ⟨C.1, C.2.1, C.2.2.1, C.2.2.2.1, C.2.2.2.2.1⟩ (hC D cI cJ ad adV) ⟨z_callN C (I.1.2.1 _ hlk) hM hR, C.2.2.2.2.1 _ hin, C.2.2.2.2.1 _ hse⟩ hPre rfl (by rw [List.length_map]; exact hn) hl.1 rfl (lv_room (by rw [zv_cats]; exact hc8)) hd ⟨by omega, by omega⟩) I fin
end ZT
theorem d_String_length_0 : decode (zb m_String_length) 0 = .ok (.aload_n 0, 1) := by decide +kernel
theorem d_String_length_1 : decode (zb m_String_length) 1 = .ok (.getfield 9, 3) := by decide +kernel
theorem d_String_length_4 : decode (zb m_String_length) 4 = .ok (.arraylength, 1) := by decide +kernel
theorem d_String_length_5 : decode (zb m_String_length) 5 = .ok (.aload_n 0, 1) := by decide +kernel
theorem d_String_length_6 : decode (zb m_String_length) 6 = .ok (.invokevirtual 335, 3) := by decide +kernel
theorem d_String_length_9 : decode (zb m_String_length) 9 = .ok (.ishr, 1) := by decide +kernel
theorem d_String_length_10 : decode (zb m_String_length) 10 = .ok (.ireturn, 1) := by decide +kernel
theorem d_String_coder_0 : decode (zb m_String_coder) 0 = .ok (.getstatic 38, 3) := by decide +kernel
theorem d_String_coder_3 : decode (zb m_String_coder) 3 = .ok (.ifCond .eq 10, 3) := by decide +kernel
theorem d_String_coder_6 : decode (zb m_String_coder) 6 = .ok (.aload_n 0, 1) := by decide +kernel
theorem d_String_coder_7 : decode (zb m_String_coder) 7 = .ok (.getfield 15, 3) := by decide +kernel
theorem d_String_coder_10 : decode (zb m_String_coder) 10 = .ok (.goto 4, 3) := by decide +kernel
theorem d_String_coder_14 : decode (zb m_String_coder) 14 = .ok (.ireturn, 1) := by decide +kernel
theorem d_String_charAt_0 : decode (zb m_String_charAt) 0 = .ok (.aload_n 0, 1) := by decide +kernel
theorem d_String_charAt_1 : decode (zb m_String_charAt) 1 = .ok (.invokevirtual 492, 3) := by decide +kernel
theorem d_String_charAt_4 : decode (zb m_String_charAt) 4 = .ok (.ifCond .eq 12, 3) := by decide +kernel
theorem d_String_charAt_7 : decode (zb m_String_charAt) 7 = .ok (.aload_n 0, 1) := by decide +kernel
theorem d_String_charAt_8 : decode (zb m_String_charAt) 8 = .ok (.getfield 9, 3) := by decide +kernel
theorem d_String_charAt_11 : decode (zb m_String_charAt) 11 = .ok (.iload_n 1, 1) := by decide +kernel
theorem d_String_charAt_12 : decode (zb m_String_charAt) 12 = .ok (.invokestatic 495, 3) := by decide +kernel
theorem d_String_charAt_15 : decode (zb m_String_charAt) 15 = .ok (.ireturn, 1) := by decide +kernel
theorem d_String_isLatin1_0 : decode (zb m_String_isLatin1) 0 = .ok (.getstatic 38, 3) := by decide +kernel
theorem d_String_isLatin1_3 : decode (zb m_String_isLatin1) 3 = .ok (.ifCond .eq 14, 3) := by decide +kernel
theorem d_String_isLatin1_6 : decode (zb m_String_isLatin1) 6 = .ok (.aload_n 0, 1) := by decide +kernel
theorem d_String_isLatin1_7 : decode (zb m_String_isLatin1) 7 = .ok (.getfield 15, 3) := by decide +kernel
theorem d_String_isLatin1_10 : decode (zb m_String_isLatin1) 10 = .ok (.ifCond .ne 7, 3) := by decide +kernel
theorem d_String_isLatin1_13 : decode (zb m_String_isLatin1) 13 = .ok (.iconst 1, 1) := by decide +kernel
theorem d_String_isLatin1_14 : decode (zb m_String_isLatin1) 14 = .ok (.goto 4, 3) := by decide +kernel
theorem d_String_isLatin1_18 : decode (zb m_String_isLatin1) 18 = .ok (.ireturn, 1) := by decide +kernel
theorem d_String_checkIndex_0 : decode (zb m_String_checkIndex) 0 = .ok (.iload_n 0, 1) := by decide +kernel
theorem d_String_checkIndex_1 : decode (zb m_String_checkIndex) 1 = .ok (.iload_n 1, 1) := by decide +kernel
theorem d_String_checkIndex_2 : decode (zb m_String_checkIndex) 2 = .ok (.getstatic 1053, 3) := by decide +kernel
theorem d_String_checkIndex_5 : decode (zb m_String_checkIndex) 5 = .ok (.invokestatic 1059, 3) := by decide +kernel
theorem d_String_checkIndex_8 : decode (zb m_String_checkIndex) 8 = .ok (.pop, 1) := by decide +kernel
theorem d_String_checkIndex_9 : decode (zb m_String_checkIndex) 9 = .ok (.return_, 1) := by decide +kernel
theorem d_StringLatin1_charAt_0 : decode (zb m_StringLatin1_charAt) 0 = .ok (.iload_n 1, 1) := by decide +kernel
theorem d_StringLatin1_charAt_1 : decode (zb m_StringLatin1_charAt) 1 = .ok (.aload_n 0, 1) := by decide +kernel
theorem d_StringLatin1_charAt_2 : decode (zb m_StringLatin1_charAt) 2 = .ok (.arraylength, 1) := by decide +kernel
theorem d_StringLatin1_charAt_3 : decode (zb m_StringLatin1_charAt) 3 = .ok (.invokestatic 9, 3) := by decide +kernel
theorem d_StringLatin1_charAt_6 : decode (zb m_StringLatin1_charAt) 6 = .ok (.aload_n 0, 1) := by decide +kernel
theorem d_StringLatin1_charAt_7 : decode (zb m_StringLatin1_charAt) 7 = .ok (.iload_n 1, 1) := by decide +kernel
theorem d_StringLatin1_charAt_8 : decode (zb m_StringLatin1_charAt) 8 = .ok (.baload, 1) := by decide +kernel
theorem d_StringLatin1_charAt_9 : decode (zb m_StringLatin1_charAt) 9 = .ok (.sipush 255, 3) := by decide +kernel
theorem d_StringLatin1_charAt_12 : decode (zb m_StringLatin1_charAt) 12 = .ok (.iand, 1) := by decide +kernel
theorem d_StringLatin1_charAt_13 : decode (zb m_StringLatin1_charAt) 13 = .ok (.i2c, 1) := by decide +kernel
theorem d_StringLatin1_charAt_14 : decode (zb m_StringLatin1_charAt) 14 = .ok (.ireturn, 1) := by decide +kernel
theorem d_Precond_checkIndex_0 : decode (zb m_Precond_checkIndex) 0 = .ok (.iload_n 0, 1) := by decide +kernel
theorem d_Precond_checkIndex_1 : decode (zb m_Precond_checkIndex) 1 = .ok (.ifCond .lt 8, 3) := by decide +kernel
theorem d_Precond_checkIndex_4 : decode (zb m_Precond_checkIndex) 4 = .ok (.iload_n 0, 1) := by decide +kernel
theorem d_Precond_checkIndex_5 : decode (zb m_Precond_checkIndex) 5 = .ok (.iload_n 1, 1) := by decide +kernel
theorem d_Precond_checkIndex_6 : decode (zb m_Precond_checkIndex) 6 = .ok (.if_icmp .lt 10, 3) := by decide +kernel
theorem d_Precond_checkIndex_16 : decode (zb m_Precond_checkIndex) 16 = .ok (.iload_n 0, 1) := by decide +kernel
theorem d_Precond_checkIndex_17 : decode (zb m_Precond_checkIndex) 17 = .ok (.ireturn, 1) := by decide +kernel
theorem y_9 : Cond.fieldLink (zR 15) 9 "java/lang/String" "value" "[B" ∈ z_tbl := z_mem (zt_9 (List.mem_of_getElem? (i := 30) (by decide +kernel))) rfl
theorem y_15 : Cond.fieldLink (zR 15) 15 "java/lang/String" "coder" "B" ∈ z_tbl := z_mem (zt_9 (List.mem_of_getElem? (i := 31) (by decide +kernel))) rfl
theorem y_38 : Cond.fieldLink (zR 15) 38 "java/lang/String" "COMPACT_STRINGS" "Z" ∈ z_tbl := z_mem (zt_3 (List.mem_of_getElem? (i := 42) (by decide +kernel))) rfl
theorem y_1053 : Cond.fieldLink (zR 15) 1053 "jdk/internal/util/Preconditions" "SIOOBE_FORMATTER" "Ljava/util/function/BiFunction;" ∈ z_tbl := z_mem (zt_3 (List.mem_of_getElem? (i := 58) (by decide +kernel))) rfl

theorem c_Precond_checkIndex (l : Launch) (M : zMem) (x n : Int32) (v : Value) (hv : v = .null ∨ v = .ref (zK 100)) (h1 : ¬ x < 0) (h2 : x < n) : zC l m_Precond_checkIndex 0 0 [.int x, .int n, v] M (fun r M' => M' = M ∧ r = some (.int x)) := by
  have go : ∀ L0 : List (Option Value), L0 = [some (.int x), some (.int n), some v] → zW l m_Precond_checkIndex (zn M + 0, zw M + 0) M 0 L0 [] (fun r M' => M' = M ∧ r = some (.int x)) := by
    rintro L0 rfl
    refine zw_iload_n (pc := 0) (n := 0) (x := x) rfl d_Precond_checkIndex_0 ?_
    refine zw_if_lt (pc := 1) (tgt := 9) (by decide) d_Precond_checkIndex_1 (fun hc => absurd hc h1) (fun _ => ?_)
    refine zw_iload_n (pc := 4) (n := 0) (x := x) rfl d_Precond_checkIndex_4 ?_
    refine zw_iload_n (pc := 5) (n := 1) (x := n) rfl d_Precond_checkIndex_5 ?_
    refine zw_icmp_lt (pc := 6) (tgt := 16) (by decide) d_Precond_checkIndex_6 (fun _ => ?_) (fun hc => absurd h2 hc)
    refine zw_iload_n (pc := 16) (n := 0) (x := x) rfl d_Precond_checkIndex_16 ?_
    exact zw_iret (S := []) (pc := 17) (ty := .int) rfl rfl d_Precond_checkIndex_17 ⟨rfl, rfl⟩
  rcases hv with rfl | rfl
  · exact zC_of md_Precond_checkIndex (Nat.le_of_ble_eq_true rfl) rfl (go _ rfl) zQ0
  · exact zC_of md_Precond_checkIndex (Nat.le_of_ble_eq_true rfl) rfl (go _ rfl) zQ0
theorem c_String_checkIndex (l : Launch) (M : zMem) (x n : Int32) (h1 : ¬ x < 0) (h2 : x < n) : zC l m_String_checkIndex 0 0 [.int x, .int n] M (fun r M' => M' = M ∧ r = none) := by
  refine zC_of (L0 := [some (.int x), some (.int n)]) md_String_checkIndex (Nat.le_of_ble_eq_true rfl) rfl ?_ zQ0
  refine zw_iload_n (pc := 0) (n := 0) (x := x) rfl d_String_checkIndex_0 ?_
  refine zw_iload_n (pc := 1) (n := 1) (x := n) rfl d_String_checkIndex_1 ?_
  refine zt_sf (pc := 2) y_1053 d_String_checkIndex_2 (fun v hv => ?_)
  refine zw_callS (pc := 5) [.int x, .int n, v] [] l_String_1059 (c_Precond_checkIndex l M x n v hv h1 h2) rfl rfl (by decide) ⟨Nat.le_refl _, Nat.le_refl _⟩ (Nat.le_of_ble_eq_true rfl) d_String_checkIndex_5 (fun r M' h _ _ => ?_)
  obtain ⟨rfl, rfl⟩ := h
  refine zw_pop (pc := 8) (va := .int x) (S := []) rfl d_String_checkIndex_8 ?_
  exact zw_vret (S := []) (pc := 9) rfl d_String_checkIndex_9 ⟨rfl, rfl⟩
def ztc (i : Nat) (x : Int32) : Int32 := ((((zsB.getD i []).getD x.toNatClampNeg 0) &&& 255).toUInt32 % 65536).toInt32
theorem z_vinn {x : Int32} {n : Nat} (h : vp_in x n) (hn : n ≤ 1000000) : ¬ x < 0 ∧ x < nI n := by
  have h2 := vp_in_iff.mp h
  constructor
  · intro z
    have := Int32.lt_iff_toInt_lt.mp z
    simp at this
    omega
  · rw [Int32.lt_iff_toInt_lt, nI_toInt (by omega)]
    exact h2.2
theorem c_StringLatin1_charAt (l : Launch) (M : zMem) (i : Nat) (hi : i < zsN) (x : Int32) (hx : vp_in x (zsL.getD i 0)) : zC l m_StringLatin1_charAt 0 0 [.ref (zK (200 + i)), .int x] M (fun r M' => M' = M ∧ r = some (.int (ztc i x))) := by
  refine zC_of (L0 := [some (.ref (zK (200 + i))), some (.int x)]) md_StringLatin1_charAt (Nat.le_of_ble_eq_true rfl) rfl ?_ zQ0
  have hxx := z_vinn hx (zsL_le i)
  refine zw_iload_n (pc := 0) (n := 1) (x := x) rfl d_StringLatin1_charAt_0 ?_
  refine zw_aload_n (pc := 1) (n := 0) (x := zK (200 + i)) rfl d_StringLatin1_charAt_1 ?_
  refine zt_len (pc := 2) hi d_StringLatin1_charAt_2 ?_
  refine zw_callS (pc := 3) [.int x, .int (nI (zsL.getD i 0))] [] l_StringLatin1_9 (c_String_checkIndex l M x _ hxx.1 hxx.2) rfl rfl (by decide) ⟨Nat.le_refl _, Nat.le_refl _⟩ (Nat.le_of_ble_eq_true rfl) d_StringLatin1_charAt_3 (fun r M' h _ _ => ?_)
  obtain ⟨rfl, rfl⟩ := h
  refine zw_aload_n (pc := 6) (n := 0) (x := zK (200 + i)) rfl d_StringLatin1_charAt_6 ?_
  refine zw_iload_n (pc := 7) (n := 1) (x := x) rfl d_StringLatin1_charAt_7 ?_
  refine zt_bald (pc := 8) hi hx d_StringLatin1_charAt_8 ?_
  refine zw_sipush (pc := 9) (v := 255) (by decide) d_StringLatin1_charAt_9 ?_
  refine zw_iand (pc := 12) d_StringLatin1_charAt_12 ?_
  refine zt_i2c (pc := 13) d_StringLatin1_charAt_13 ?_
  exact zw_iret (S := []) (pc := 14) (ty := .char) rfl (pk_nc _) d_StringLatin1_charAt_14 ⟨rfl, rfl⟩
theorem c_String_coder (l : Launch) (M : zMem) (i : Nat) (hi : i < zsN) : zC l m_String_coder 0 0 [.ref (zK i)] M (fun r M' => M' = M ∧ r = some (.int 0)) := by
  refine zC_of (L0 := [some (.ref (zK i))]) md_String_coder (Nat.le_of_ble_eq_true rfl) rfl ?_ zQ0
  refine zt_cs (pc := 0) y_38 d_String_coder_0 ?_
  refine zw_if_eq (pc := 3) (tgt := 13) (by decide) d_String_coder_3 (fun hc => absurd hc (by decide)) (fun _ => ?_)
  refine zw_aload_n (pc := 6) (n := 0) (x := zK i) rfl d_String_coder_6 ?_
  refine zt_co (pc := 7) hi y_15 d_String_coder_7 ?_
  refine zw_goto (pc := 10) (tgt := 14) (by decide) d_String_coder_10 ?_
  exact zw_iret (S := []) (pc := 14) (ty := .byte) rfl rfl d_String_coder_14 ⟨rfl, rfl⟩
theorem c_String_isLatin1 (l : Launch) (M : zMem) (i : Nat) (hi : i < zsN) : zC l m_String_isLatin1 0 0 [.ref (zK i)] M (fun r M' => M' = M ∧ r = some (.int 1)) := by
  refine zC_of (L0 := [some (.ref (zK i))]) md_String_isLatin1 (Nat.le_of_ble_eq_true rfl) rfl ?_ zQ0
  refine zt_cs (pc := 0) y_38 d_String_isLatin1_0 ?_
  refine zw_if_eq (pc := 3) (tgt := 17) (by decide) d_String_isLatin1_3 (fun hc => absurd hc (by decide)) (fun _ => ?_)
  refine zw_aload_n (pc := 6) (n := 0) (x := zK i) rfl d_String_isLatin1_6 ?_
  refine zt_co (pc := 7) hi y_15 d_String_isLatin1_7 ?_
  refine zw_if_ne (pc := 10) (tgt := 17) (by decide) d_String_isLatin1_10 (fun hc => absurd rfl hc) (fun _ => ?_)
  refine zw_iconst (pc := 13) (v := 1) (by decide) d_String_isLatin1_13 ?_
  refine zw_goto (pc := 14) (tgt := 18) (by decide) d_String_isLatin1_14 ?_
  exact zw_iret (S := []) (pc := 18) (ty := .boolean) rfl rfl d_String_isLatin1_18 ⟨rfl, rfl⟩
def zExt (M M' : zMem) (c s q : Nat) : Prop := zn M' = zn M + c ∧ zw M' = zw M + s ∧ (∀ r, r < zn M → zsh M' r = zsh M r) ∧ ∀ r, r < zn M → r ≠ q → zf M' r = zf M r
theorem zExt.rf {M : zMem} {q : Nat} : zExt M M 0 0 q := ⟨rfl, rfl, fun _ _ => rfl, fun _ _ _ => rfl⟩
theorem zal_old {M : zMem} {t n r : Nat} (h : r < zn M) : zsh (zal M t n) r = zsh M r ∧ zf (zal M t n) r = zf M r := by
  have hne : ¬ r = M.1.1 := by
    have : zn M = M.1.1 := rfl
    omega
  simp [zsh, zf, zal, hne]
theorem zExt.al {M M1 : zMem} {c s q t n : Nat} (h : zExt M M1 c s q) : zExt M (zal M1 t n) (c + 1) (s + n) q := by
  obtain ⟨a1, a2, a3, a4⟩ := h
  refine ⟨by show zn M1 + 1 = _; omega, by show zw M1 + n = _; omega, fun r hr => ?_, fun r hr hq => ?_⟩
  · rw [(zal_old (by (exact zo_1441 a1 hr))).1]; exact a3 r hr
  · rw [(zal_old (by (exact zo_1441 a1 hr))).2]; exact a4 r hr hq
theorem zExt.put {M M1 : zMem} {c s q j : Nat} {v : Option Nat} (h : zExt M M1 c s q) : zExt M (zsF M1 q j v) c s q := by
  obtain ⟨a1, a2, a3, a4⟩ := h
  refine ⟨a1, a2, a3, fun r hr hq => ?_⟩
  show zup2 (zf M1) q j v r = _
  rw [zup2_q hq]
  exact a4 r hr hq
theorem zExt.putI {M M1 : zMem} {c s q j : Nat} {v : Int32} (h : zExt M M1 c s q) : zExt M (zsI M1 q j v) c s q := h
theorem zExt.call {M M1 M2 : zMem} {c s q c' s' a : Nat} (h : zExt M M1 c s q) (g : zExt M1 M2 c' s' a) (ha : zn M ≤ a) : zExt M M2 (c + c') (s + s') q := by
  obtain ⟨a1, a2, a3, a4⟩ := h
  obtain ⟨b1, b2, b3, b4⟩ := g
  refine ⟨by omega, by omega, fun r hr => ?_, fun r hr hq => ?_⟩
  · rw [b3 r (by (exact zo_1441 a1 hr))]; exact a3 r hr
  · rw [b4 r (by (exact zo_1441 a1 hr)) (by omega)]; exact a4 r hr hq
theorem zExt.q {M M' : zMem} {c s q t : Nat} (h : zExt M M' c s q) {r : Nat} (hr : r < zn M) (hk : (zsh M r).1 = t) : (zsh M' r).1 = t := by rw [h.2.2.1 r hr]; exact hk
def zk_IntRow_1 (M : zMem) (q : Nat) (x0 : Nat) : zMem := zal (M) 1 x0
def zk_IntRow_2 (M : zMem) (q : Nat) (x0 : Nat) : zMem := zsF (zk_IntRow_1 M q x0) q 0 (some (zn (M)))
def zk_IntRow (M : zMem) (q : Nat) (x0 : Nat) : zMem := zk_IntRow_2 M q x0
set_option maxRecDepth 20000 in
theorem ext_IntRow (M : zMem) (q : Nat) (x0 : Nat) : zExt M (zk_IntRow M q x0) 1 (0 + x0) q := by
  have he0 : zExt M M 0 0 q := zExt.rf
  have he1 : zExt M (zk_IntRow_1 M q x0) 1 (0 + x0) q := he0.al
  have he2 : zExt M (zk_IntRow_2 M q x0) 1 (0 + x0) q := he1.put
  exact he2
set_option maxRecDepth 20000 in
set_option maxHeartbeats 4000000 in
theorem k_IntRow (l : Launch) (M : zMem) (q : Nat) (hq : q < zn M) (hqk : (zsh M q).1 = 2 + 3) (x0 : Nat) (hx : x0 ≤ 65536) (hm : zn M + 1 < 1000000) : zC l m_IntRow_init 1 (0 + x0) [.ref q, .int (nI x0)] M (fun r M' => r = none ∧ M' = zk_IntRow M q x0) := by
  have hex := ext_IntRow M q x0
  refine zC_of (L0 := [some (.ref q), some (.int (nI x0))]) md_IntRow_init (Nat.le_of_ble_eq_true rfl) rfl ?_ (fun r M' h _ => by obtain ⟨-, rfl⟩ := h; exact ⟨hex.1, hex.2.1⟩)
  have he0 : zExt M M 0 0 q := zExt.rf
  refine zw_aload_n (pc := 0) (n := 0) (x := q) rfl (zdal_p dlA_IntRow_init_3 (i := 0) rfl) ?_
  refine zw_objInit (pc := 1) o_IntRow_1 o_in o_co (by decide) (Nat.le_of_ble_eq_true rfl) (zdal_p dlA_IntRow_init_3 (i := 1) rfl) ?_
  refine zw_aload_n (pc := 4) (n := 0) (x := q) rfl (zdal_p dlA_IntRow_init_3 (i := 2) rfl) ?_
  refine zw_iload_n (pc := 5) (n := 1) (x := nI x0) rfl (zdal_p dlA_IntRow_init_3 (i := 3) rfl) ?_
  refine zw_iconst (pc := 6) (v := 0) (by decide) (zdal_p dlA_IntRow_init_3 (i := 4) rfl) ?_
  refine zw_mmax (pc := 7) x_IntRow_7 (by decide) (Nat.le_of_ble_eq_true rfl) (zdal_p dlA_IntRow_init_3 (i := 5) rfl) (fun v hv => ?_)
  have hv2 : v = nI x0 := by
    rw [hv, if_neg (nI_pos (by omega))]
  subst hv2
  refine zw_newa (pc := 10) (t := 1) (N := x0) (Or.inl ⟨rfl, rfl⟩) (nI_pos (by omega)) (nI_clamp (by omega)) hx (by have := he0.1; omega) (by have := he0.1; show _ ≤ zn M + 1; omega) (by have := he0.2.1; show _ + x0 ≤ zw M + (0 + x0); omega) (zdal_p dlA_IntRow_init_3 (i := 6) rfl) ?_
  have he1 : zExt M (zk_IntRow_1 M q x0) 1 (0 + x0) q := he0.al
  show zW l m_IntRow_init (zn M + 1, zw M + (0 + x0)) (zk_IntRow_1 M q x0) 12 [some (.ref q), some (.int (nI x0))] [.ref (zn (M)), .ref q] _
  refine zw_putR (pc := 12) (x := zn (M)) (Or.inr ⟨g_IntRow_13, rfl, rfl, rfl⟩) rfl (he1.q hq hqk) (fun _ => rfl) (fun _ => rfl) (zdal_p dlA_IntRow_init_3 (i := 7) rfl) ?_
  have he2 : zExt M (zk_IntRow_2 M q x0) 1 (0 + x0) q := he1.put
  show zW l m_IntRow_init (zn M + 1, zw M + (0 + x0)) (zk_IntRow_2 M q x0) 15 [some (.ref q), some (.int (nI x0))] [] _
  have kn2 : zf (zk_IntRow_2 M q x0) q 0 = some (zn (M)) := zup2_s
  exact zw_vret (S := []) (pc := 15) rfl (zdal_p dlA_IntRow_init_3 (i := 8) rfl) ⟨rfl, rfl⟩
def zk_LongRow_1 (M : zMem) (q : Nat) (x0 : Nat) : zMem := zal (M) 2 x0
def zk_LongRow_2 (M : zMem) (q : Nat) (x0 : Nat) : zMem := zsF (zk_LongRow_1 M q x0) q 0 (some (zn (M)))
def zk_LongRow (M : zMem) (q : Nat) (x0 : Nat) : zMem := zk_LongRow_2 M q x0
set_option maxRecDepth 20000 in
theorem ext_LongRow (M : zMem) (q : Nat) (x0 : Nat) : zExt M (zk_LongRow M q x0) 1 (0 + x0) q := by
  have he0 : zExt M M 0 0 q := zExt.rf
  have he1 : zExt M (zk_LongRow_1 M q x0) 1 (0 + x0) q := he0.al
  have he2 : zExt M (zk_LongRow_2 M q x0) 1 (0 + x0) q := he1.put
  exact he2
set_option maxRecDepth 20000 in
set_option maxHeartbeats 4000000 in
theorem k_LongRow (l : Launch) (M : zMem) (q : Nat) (hq : q < zn M) (hqk : (zsh M q).1 = 8 + 3) (x0 : Nat) (hx : x0 ≤ 65536) (hm : zn M + 1 < 1000000) : zC l m_LongRow_init 1 (0 + x0) [.ref q, .int (nI x0)] M (fun r M' => r = none ∧ M' = zk_LongRow M q x0) := by
  have hex := ext_LongRow M q x0
  refine zC_of (L0 := [some (.ref q), some (.int (nI x0))]) md_LongRow_init (Nat.le_of_ble_eq_true rfl) rfl ?_ (fun r M' h _ => by obtain ⟨-, rfl⟩ := h; exact ⟨hex.1, hex.2.1⟩)
  have he0 : zExt M M 0 0 q := zExt.rf
  refine zw_aload_n (pc := 0) (n := 0) (x := q) rfl (zdal_p dlA_LongRow_init_12 (i := 0) rfl) ?_
  refine zw_objInit (pc := 1) o_LongRow_1 o_in o_co (by decide) (Nat.le_of_ble_eq_true rfl) (zdal_p dlA_LongRow_init_12 (i := 1) rfl) ?_
  refine zw_aload_n (pc := 4) (n := 0) (x := q) rfl (zdal_p dlA_LongRow_init_12 (i := 2) rfl) ?_
  refine zw_iload_n (pc := 5) (n := 1) (x := nI x0) rfl (zdal_p dlA_LongRow_init_12 (i := 3) rfl) ?_
  refine zw_iconst (pc := 6) (v := 0) (by decide) (zdal_p dlA_LongRow_init_12 (i := 4) rfl) ?_
  refine zw_mmax (pc := 7) x_LongRow_7 (by decide) (Nat.le_of_ble_eq_true rfl) (zdal_p dlA_LongRow_init_12 (i := 5) rfl) (fun v hv => ?_)
  have hv2 : v = nI x0 := by
    rw [hv, if_neg (nI_pos (by omega))]
  subst hv2
  refine zw_newa (pc := 10) (t := 2) (N := x0) (Or.inr ⟨rfl, rfl⟩) (nI_pos (by omega)) (nI_clamp (by omega)) hx (by have := he0.1; omega) (by have := he0.1; show _ ≤ zn M + 1; omega) (by have := he0.2.1; show _ + x0 ≤ zw M + (0 + x0); omega) (zdal_p dlA_LongRow_init_12 (i := 6) rfl) ?_
  have he1 : zExt M (zk_LongRow_1 M q x0) 1 (0 + x0) q := he0.al
  show zW l m_LongRow_init (zn M + 1, zw M + (0 + x0)) (zk_LongRow_1 M q x0) 12 [some (.ref q), some (.int (nI x0))] [.ref (zn (M)), .ref q] _
  refine zw_putR (pc := 12) (x := zn (M)) (Or.inr ⟨g_LongRow_13, rfl, rfl, rfl⟩) rfl (he1.q hq hqk) (fun _ => rfl) (fun _ => rfl) (zdal_p dlA_LongRow_init_12 (i := 7) rfl) ?_
  have he2 : zExt M (zk_LongRow_2 M q x0) 1 (0 + x0) q := he1.put
  show zW l m_LongRow_init (zn M + 1, zw M + (0 + x0)) (zk_LongRow_2 M q x0) 15 [some (.ref q), some (.int (nI x0))] [] _
  have kn2 : zf (zk_LongRow_2 M q x0) q 0 = some (zn (M)) := zup2_s
  exact zw_vret (S := []) (pc := 15) rfl (zdal_p dlA_LongRow_init_12 (i := 8) rfl) ⟨rfl, rfl⟩
def zk_Tokens_1 (M : zMem) (q : Nat)  : zMem := zal (M) 5 1
def zk_Tokens_2 (M : zMem) (q : Nat)  : zMem := zk_IntRow (zk_Tokens_1 M q ) (zn (M)) 700
def zk_Tokens_3 (M : zMem) (q : Nat)  : zMem := zsF (zk_Tokens_2 M q ) q 0 (some (zn (M)))
def zk_Tokens (M : zMem) (q : Nat)  : zMem := zk_Tokens_3 M q 
set_option maxRecDepth 20000 in
theorem ext_Tokens (M : zMem) (q : Nat)  : zExt M (zk_Tokens M q ) 2 (0 + 1 + (0 + 700)) q := by
  have he0 : zExt M M 0 0 q := zExt.rf
  have he1 : zExt M (zk_Tokens_1 M q ) 1 (0 + 1) q := he0.al
  have he2 : zExt M (zk_Tokens_2 M q ) 2 (0 + 1 + (0 + 700)) q := he1.call (ext_IntRow (zk_Tokens_1 M q ) (zn (M)) 700) (by have := he0.1; (exact zo_1447))
  have he3 : zExt M (zk_Tokens_3 M q ) 2 (0 + 1 + (0 + 700)) q := he2.put
  exact he3
set_option maxRecDepth 20000 in
set_option maxHeartbeats 4000000 in
theorem k_Tokens (l : Launch) (M : zMem) (q : Nat) (hq : q < zn M) (hqk : (zsh M q).1 = 1 + 3)  (hm : zn M + 2 < 1000000) : zC l m_Tokens_init 2 (0 + 1 + (0 + 700)) [.ref q] M (fun r M' => r = none ∧ M' = zk_Tokens M q ) := by
  have hex := ext_Tokens M q 
  refine zC_of (L0 := [some (.ref q)]) md_Tokens_init (Nat.le_of_ble_eq_true rfl) rfl ?_ (fun r M' h _ => by obtain ⟨-, rfl⟩ := h; exact ⟨hex.1, hex.2.1⟩)
  have he0 : zExt M M 0 0 q := zExt.rf
  refine zw_aload_n (pc := 0) (n := 0) (x := q) rfl (zdal_p dlA_Tokens_init_2 (i := 0) rfl) ?_
  refine zw_objInit (pc := 1) o_Tokens_3 o_in o_co (by decide) (Nat.le_of_ble_eq_true rfl) (zdal_p dlA_Tokens_init_2 (i := 1) rfl) ?_
  refine zw_aload_n (pc := 4) (n := 0) (x := q) rfl (zdal_p dlA_Tokens_init_2 (i := 2) rfl) ?_
  refine zw_new (pc := 5) (ci := 2) (by decide) n_Tokens_9 (by have := he0.1; omega) (by have := he0.1; show _ ≤ zn M + 2; omega) (by have := he0.2.1; show _ + 1 ≤ zw M + (0 + 1 + (0 + 700)); omega) (by decide) (zdal_p dlA_Tokens_init_2 (i := 3) rfl) ?_
  have he1 : zExt M (zk_Tokens_1 M q ) 1 (0 + 1) q := he0.al
  show zW l m_Tokens_init (zn M + 2, zw M + (0 + 1 + (0 + 700))) (zk_Tokens_1 M q ) 8 [some (.ref q)] [.ref (zn (M)), .ref q] _
  refine zw_dup (pc := 8) rfl (zdal_p dlA_Tokens_init_2 (i := 4) rfl) ?_
  refine zw_sipush (pc := 9) (v := nI 700) (by decide) (zdal_p dlA_Tokens_init_2 (i := 5) rfl) ?_
  refine zw_callI (pc := 12) (mc := 1) (ms := (0 + 700)) (b := zn (M)) [.int (nI 700)] [.ref (zn (M)), .ref q] l_Tokens_11 (k_IntRow l (zk_Tokens_1 M q ) (zn (M)) (by have := he1.1; show zn (M) < zn (M) + 1; (exact zo_1083)) (congrArg Prod.fst (zal_sh (M := M) (t := 5) (n := 1))) 700 (by decide) (by have := he1.1; omega)) rfl rfl (by decide) ⟨by have := he1.1; show _ ≤ zn M + 2; omega, by have := he1.2.1; show _ ≤ zw M + (0 + 1 + (0 + 700)); omega⟩ (Nat.le_of_ble_eq_true rfl) (zdal_p dlA_Tokens_init_2 (i := 6) rfl) (fun r M9 h9 _ _ => ?_)
  obtain ⟨rfl, rfl⟩ := h9
  have he2 : zExt M (zk_Tokens_2 M q ) 2 (0 + 1 + (0 + 700)) q := he1.call (ext_IntRow (zk_Tokens_1 M q ) (zn (M)) 700) (by have := he0.1; (exact zo_1447))
  show zW l m_Tokens_init (zn M + 2, zw M + (0 + 1 + (0 + 700))) (zk_Tokens_2 M q ) 15 [some (.ref q)] [.ref (zn (M)), .ref q] _
  refine zw_putR (pc := 15) (x := zn (M)) (Or.inr ⟨g_Tokens_14, rfl, rfl, rfl⟩) rfl (he2.q hq hqk) (fun _ => rfl) (fun _ => rfl) (zdal_p dlA_Tokens_init_2 (i := 7) rfl) ?_
  have he3 : zExt M (zk_Tokens_3 M q ) 2 (0 + 1 + (0 + 700)) q := he2.put
  show zW l m_Tokens_init (zn M + 2, zw M + (0 + 1 + (0 + 700))) (zk_Tokens_3 M q ) 18 [some (.ref q)] [] _
  have kn3 : zf (zk_Tokens_3 M q ) q 0 = some (zn (M)) := zup2_s
  exact zw_vret (S := []) (pc := 18) rfl (zdal_p dlA_Tokens_init_2 (i := 8) rfl) ⟨rfl, rfl⟩
def zk_Reader_1 (M : zMem) (q : Nat) (a0 : Nat) : zMem := zsI (M) q 3 (-1)
def zk_Reader_2 (M : zMem) (q : Nat) (a0 : Nat) : zMem := zsF (zk_Reader_1 M q a0) q 0 (some (a0))
def zk_Reader (M : zMem) (q : Nat) (a0 : Nat) : zMem := zk_Reader_2 M q a0
set_option maxRecDepth 20000 in
theorem ext_Reader (M : zMem) (q : Nat) (a0 : Nat) : zExt M (zk_Reader M q a0) 0 (0) q := by
  have he0 : zExt M M 0 0 q := zExt.rf
  have he1 : zExt M (zk_Reader_1 M q a0) 0 (0) q := he0.putI
  have he2 : zExt M (zk_Reader_2 M q a0) 0 (0) q := he1.put
  exact he2
set_option maxRecDepth 20000 in
set_option maxHeartbeats 4000000 in
theorem k_Reader (l : Launch) (M : zMem) (q : Nat) (hq : q < zn M) (hqk : (zsh M q).1 = 3 + 3) (a0 : Nat) (hm : zn M + 0 < 1000000) : zC l m_Reader_init 0 (0) [.ref q, .ref a0] M (fun r M' => r = none ∧ M' = zk_Reader M q a0) := by
  have hex := ext_Reader M q a0
  refine zC_of (L0 := [some (.ref q), some (.ref a0)]) md_Reader_init (Nat.le_of_ble_eq_true rfl) rfl ?_ (fun r M' h _ => by obtain ⟨-, rfl⟩ := h; exact ⟨hex.1, hex.2.1⟩)
  have he0 : zExt M M 0 0 q := zExt.rf
  refine zw_aload_n (pc := 0) (n := 0) (x := q) rfl (zdal_p dlA_Reader_init_4 (i := 0) rfl) ?_
  refine zw_objInit (pc := 1) o_Reader_3 o_in o_co (by decide) (Nat.le_of_ble_eq_true rfl) (zdal_p dlA_Reader_init_4 (i := 1) rfl) ?_
  refine zw_aload_n (pc := 4) (n := 0) (x := q) rfl (zdal_p dlA_Reader_init_4 (i := 2) rfl) ?_
  refine zw_iconst (pc := 5) (v := (-1)) (by decide) (zdal_p dlA_Reader_init_4 (i := 3) rfl) ?_
  refine zw_putI (pc := 6) f_Reader_9 rfl rfl (he0.q hq hqk) rfl rfl (zdal_p dlA_Reader_init_4 (i := 4) rfl) ?_
  have he1 : zExt M (zk_Reader_1 M q a0) 0 (0) q := he0.putI
  show zW l m_Reader_init (zn M + 0, zw M + (0)) (zk_Reader_1 M q a0) 9 [some (.ref q), some (.ref a0)] [] _
  refine zw_aload_n (pc := 9) (n := 0) (x := q) rfl (zdal_p dlA_Reader_init_4 (i := 5) rfl) ?_
  refine zw_aload_n (pc := 10) (n := 1) (x := a0) rfl (zdal_p dlA_Reader_init_4 (i := 6) rfl) ?_
  refine zw_putR (pc := 11) (x := a0) (Or.inr ⟨g_Reader_15, rfl, rfl, rfl⟩) rfl (he1.q hq hqk) (fun _ => rfl) (fun _ => rfl) (zdal_p dlA_Reader_init_4 (i := 7) rfl) ?_
  have he2 : zExt M (zk_Reader_2 M q a0) 0 (0) q := he1.put
  show zW l m_Reader_init (zn M + 0, zw M + (0)) (zk_Reader_2 M q a0) 14 [some (.ref q), some (.ref a0)] [] _
  have kn2 : zf (zk_Reader_2 M q a0) q 0 = some (a0) := zup2_s
  exact zw_vret (S := []) (pc := 14) rfl (zdal_p dlA_Reader_init_4 (i := 8) rfl) ⟨rfl, rfl⟩
def zk_Group_1 (M : zMem) (q : Nat)  : zMem := zal (M) 5 1
def zk_Group_2 (M : zMem) (q : Nat)  : zMem := zk_IntRow (zk_Group_1 M q ) (zn (M)) 4
def zk_Group_3 (M : zMem) (q : Nat)  : zMem := zsF (zk_Group_2 M q ) q 0 (some (zn (M)))
def zk_Group_4 (M : zMem) (q : Nat)  : zMem := zal (zk_Group_3 M q ) 5 1
def zk_Group_5 (M : zMem) (q : Nat)  : zMem := zk_IntRow (zk_Group_4 M q ) (zn (zk_Group_3 M q )) 24
def zk_Group_6 (M : zMem) (q : Nat)  : zMem := zsF (zk_Group_5 M q ) q 1 (some (zn (zk_Group_3 M q )))
def zk_Group_7 (M : zMem) (q : Nat)  : zMem := zal (zk_Group_6 M q ) 5 1
def zk_Group_8 (M : zMem) (q : Nat)  : zMem := zk_IntRow (zk_Group_7 M q ) (zn (zk_Group_6 M q )) 576
def zk_Group_9 (M : zMem) (q : Nat)  : zMem := zsF (zk_Group_8 M q ) q 2 (some (zn (zk_Group_6 M q )))
def zk_Group_10 (M : zMem) (q : Nat)  : zMem := zal (zk_Group_9 M q ) 5 1
def zk_Group_11 (M : zMem) (q : Nat)  : zMem := zk_IntRow (zk_Group_10 M q ) (zn (zk_Group_9 M q )) 24
def zk_Group_12 (M : zMem) (q : Nat)  : zMem := zsF (zk_Group_11 M q ) q 3 (some (zn (zk_Group_9 M q )))
def zk_Group_13 (M : zMem) (q : Nat)  : zMem := zal (zk_Group_12 M q ) 5 1
def zk_Group_14 (M : zMem) (q : Nat)  : zMem := zk_IntRow (zk_Group_13 M q ) (zn (zk_Group_12 M q )) 24
def zk_Group_15 (M : zMem) (q : Nat)  : zMem := zsF (zk_Group_14 M q ) q 4 (some (zn (zk_Group_12 M q )))
def zk_Group (M : zMem) (q : Nat)  : zMem := zk_Group_15 M q 
set_option maxRecDepth 20000 in
theorem ext_Group (M : zMem) (q : Nat)  : zExt M (zk_Group M q ) 10 (0 + 1 + (0 + 4) + 1 + (0 + 24) + 1 + (0 + 576) + 1 + (0 + 24) + 1 + (0 + 24)) q := by
  have he0 : zExt M M 0 0 q := zExt.rf
  have he1 : zExt M (zk_Group_1 M q ) 1 (0 + 1) q := he0.al
  have he2 : zExt M (zk_Group_2 M q ) 2 (0 + 1 + (0 + 4)) q := he1.call (ext_IntRow (zk_Group_1 M q ) (zn (M)) 4) (by have := he0.1; (exact zo_1447))
  have he3 : zExt M (zk_Group_3 M q ) 2 (0 + 1 + (0 + 4)) q := he2.put
  have he4 : zExt M (zk_Group_4 M q ) 3 (0 + 1 + (0 + 4) + 1) q := he3.al
  have he5 : zExt M (zk_Group_5 M q ) 4 (0 + 1 + (0 + 4) + 1 + (0 + 24)) q := he4.call (ext_IntRow (zk_Group_4 M q ) (zn (zk_Group_3 M q )) 24) (by have := he3.1; (exact zo_1454 this))
  have he6 : zExt M (zk_Group_6 M q ) 4 (0 + 1 + (0 + 4) + 1 + (0 + 24)) q := he5.put
  have he7 : zExt M (zk_Group_7 M q ) 5 (0 + 1 + (0 + 4) + 1 + (0 + 24) + 1) q := he6.al
  have he8 : zExt M (zk_Group_8 M q ) 6 (0 + 1 + (0 + 4) + 1 + (0 + 24) + 1 + (0 + 576)) q := he7.call (ext_IntRow (zk_Group_7 M q ) (zn (zk_Group_6 M q )) 576) (by have := he6.1; omega)
  have he9 : zExt M (zk_Group_9 M q ) 6 (0 + 1 + (0 + 4) + 1 + (0 + 24) + 1 + (0 + 576)) q := he8.put
  have he10 : zExt M (zk_Group_10 M q ) 7 (0 + 1 + (0 + 4) + 1 + (0 + 24) + 1 + (0 + 576) + 1) q := he9.al
  have he11 : zExt M (zk_Group_11 M q ) 8 (0 + 1 + (0 + 4) + 1 + (0 + 24) + 1 + (0 + 576) + 1 + (0 + 24)) q := he10.call (ext_IntRow (zk_Group_10 M q ) (zn (zk_Group_9 M q )) 24) (by have := he9.1; omega)
  have he12 : zExt M (zk_Group_12 M q ) 8 (0 + 1 + (0 + 4) + 1 + (0 + 24) + 1 + (0 + 576) + 1 + (0 + 24)) q := he11.put
  have he13 : zExt M (zk_Group_13 M q ) 9 (0 + 1 + (0 + 4) + 1 + (0 + 24) + 1 + (0 + 576) + 1 + (0 + 24) + 1) q := he12.al
  have he14 : zExt M (zk_Group_14 M q ) 10 (0 + 1 + (0 + 4) + 1 + (0 + 24) + 1 + (0 + 576) + 1 + (0 + 24) + 1 + (0 + 24)) q := he13.call (ext_IntRow (zk_Group_13 M q ) (zn (zk_Group_12 M q )) 24) (by have := he12.1; omega)
  have he15 : zExt M (zk_Group_15 M q ) 10 (0 + 1 + (0 + 4) + 1 + (0 + 24) + 1 + (0 + 576) + 1 + (0 + 24) + 1 + (0 + 24)) q := he14.put
  exact he15
set_option maxRecDepth 20000 in
set_option maxHeartbeats 4000000 in
theorem k_Group (l : Launch) (M : zMem) (q : Nat) (hq : q < zn M) (hqk : (zsh M q).1 = 5 + 3)  (hm : zn M + 10 < 1000000) : zC l m_Group_init 10 (0 + 1 + (0 + 4) + 1 + (0 + 24) + 1 + (0 + 576) + 1 + (0 + 24) + 1 + (0 + 24)) [.ref q] M (fun r M' => r = none ∧ M' = zk_Group M q ) := by
  have hex := ext_Group M q 
  refine zC_of (L0 := [some (.ref q)]) md_Group_init (Nat.le_of_ble_eq_true rfl) rfl ?_ (fun r M' h _ => by obtain ⟨-, rfl⟩ := h; exact ⟨hex.1, hex.2.1⟩)
  have he0 : zExt M M 0 0 q := zExt.rf
  refine zw_aload_n (pc := 0) (n := 0) (x := q) rfl (zdal_p dlA_Group_init_7 (i := 0) rfl) ?_
  refine zw_objInit (pc := 1) o_Group_3 o_in o_co (by decide) (Nat.le_of_ble_eq_true rfl) (zdal_p dlA_Group_init_7 (i := 1) rfl) ?_
  refine zw_aload_n (pc := 4) (n := 0) (x := q) rfl (zdal_p dlA_Group_init_7 (i := 2) rfl) ?_
  refine zw_new (pc := 5) (ci := 2) (by decide) n_Group_9 (by have := he0.1; omega) (by have := he0.1; show _ ≤ zn M + 10; omega) (by have := he0.2.1; show _ + 1 ≤ zw M + (0 + 1 + (0 + 4) + 1 + (0 + 24) + 1 + (0 + 576) + 1 + (0 + 24) + 1 + (0 + 24)); omega) (by decide) (zdal_p dlA_Group_init_7 (i := 3) rfl) ?_
  have he1 : zExt M (zk_Group_1 M q ) 1 (0 + 1) q := he0.al
  show zW l m_Group_init (zn M + 10, zw M + (0 + 1 + (0 + 4) + 1 + (0 + 24) + 1 + (0 + 576) + 1 + (0 + 24) + 1 + (0 + 24))) (zk_Group_1 M q ) 8 [some (.ref q)] [.ref (zn (M)), .ref q] _
  refine zw_dup (pc := 8) rfl (zdal_p dlA_Group_init_7 (i := 4) rfl) ?_
  refine zw_iconst (pc := 9) (v := nI 4) (by decide) (zdal_p dlA_Group_init_7 (i := 5) rfl) ?_
  refine zw_callI (pc := 10) (mc := 1) (ms := (0 + 4)) (b := zn (M)) [.int (nI 4)] [.ref (zn (M)), .ref q] l_Group_11 (k_IntRow l (zk_Group_1 M q ) (zn (M)) (by have := he1.1; show zn (M) < zn (M) + 1; (exact zo_1083)) (congrArg Prod.fst (zal_sh (M := M) (t := 5) (n := 1))) 4 (by decide) (by have := he1.1; omega)) rfl rfl (by decide) ⟨by have := he1.1; show _ ≤ zn M + 10; omega, by have := he1.2.1; show _ ≤ zw M + (0 + 1 + (0 + 4) + 1 + (0 + 24) + 1 + (0 + 576) + 1 + (0 + 24) + 1 + (0 + 24)); omega⟩ (Nat.le_of_ble_eq_true rfl) (zdal_p dlA_Group_init_7 (i := 6) rfl) (fun r M9 h9 _ _ => ?_)
  obtain ⟨rfl, rfl⟩ := h9
  have he2 : zExt M (zk_Group_2 M q ) 2 (0 + 1 + (0 + 4)) q := he1.call (ext_IntRow (zk_Group_1 M q ) (zn (M)) 4) (by have := he0.1; (exact zo_1447))
  show zW l m_Group_init (zn M + 10, zw M + (0 + 1 + (0 + 4) + 1 + (0 + 24) + 1 + (0 + 576) + 1 + (0 + 24) + 1 + (0 + 24))) (zk_Group_2 M q ) 13 [some (.ref q)] [.ref (zn (M)), .ref q] _
  refine zw_putR (pc := 13) (x := zn (M)) (Or.inr ⟨g_Group_14, rfl, rfl, rfl⟩) rfl (he2.q hq hqk) (fun _ => rfl) (fun _ => rfl) (zdal_p dlA_Group_init_7 (i := 7) rfl) ?_
  have he3 : zExt M (zk_Group_3 M q ) 2 (0 + 1 + (0 + 4)) q := he2.put
  show zW l m_Group_init (zn M + 10, zw M + (0 + 1 + (0 + 4) + 1 + (0 + 24) + 1 + (0 + 576) + 1 + (0 + 24) + 1 + (0 + 24))) (zk_Group_3 M q ) 16 [some (.ref q)] [] _
  have kn3 : zf (zk_Group_3 M q ) q 0 = some (zn (M)) := zup2_s
  refine zw_aload_n (pc := 16) (n := 0) (x := q) rfl (zdal_p dlA_Group_init_7 (i := 8) rfl) ?_
  refine zw_new (pc := 17) (ci := 2) (by decide) n_Group_9 (by have := he3.1; omega) (by have := he3.1; show _ ≤ zn M + 10; omega) (by have := he3.2.1; show _ + 1 ≤ zw M + (0 + 1 + (0 + 4) + 1 + (0 + 24) + 1 + (0 + 576) + 1 + (0 + 24) + 1 + (0 + 24)); omega) (by decide) (zdal_p dlA_Group_init_7 (i := 9) rfl) ?_
  have he4 : zExt M (zk_Group_4 M q ) 3 (0 + 1 + (0 + 4) + 1) q := he3.al
  have kf4_0 : zf (zk_Group_4 M q ) q 0 = some (zn (M)) := (congrFun (zal_old (by have := he3.1; omega)).2 0).trans kn3
  show zW l m_Group_init (zn M + 10, zw M + (0 + 1 + (0 + 4) + 1 + (0 + 24) + 1 + (0 + 576) + 1 + (0 + 24) + 1 + (0 + 24))) (zk_Group_4 M q ) 20 [some (.ref q)] [.ref (zn (zk_Group_3 M q )), .ref q] _
  refine zw_dup (pc := 20) rfl (zdal_p dlA_Group_init_7 (i := 10) rfl) ?_
  refine zw_bipush (pc := 21) (v := nI 24) (by decide) (zdal_p dlA_Group_init_7 (i := 11) rfl) ?_
  refine zw_callI (pc := 23) (mc := 1) (ms := (0 + 24)) (b := zn (zk_Group_3 M q )) [.int (nI 24)] [.ref (zn (zk_Group_3 M q )), .ref q] l_Group_11 (k_IntRow l (zk_Group_4 M q ) (zn (zk_Group_3 M q )) (by have := he4.1; show zn (zk_Group_3 M q ) < zn (zk_Group_3 M q ) + 1; (exact zo_1083)) (congrArg Prod.fst (zal_sh (M := zk_Group_3 M q ) (t := 5) (n := 1))) 24 (by decide) (by have := he4.1; omega)) rfl rfl (by decide) ⟨by have := he4.1; show _ ≤ zn M + 10; omega, by have := he4.2.1; show _ ≤ zw M + (0 + 1 + (0 + 4) + 1 + (0 + 24) + 1 + (0 + 576) + 1 + (0 + 24) + 1 + (0 + 24)); omega⟩ (Nat.le_of_ble_eq_true rfl) (zdal_p dlA_Group_init_7 (i := 12) rfl) (fun r M9 h9 _ _ => ?_)
  obtain ⟨rfl, rfl⟩ := h9
  have he5 : zExt M (zk_Group_5 M q ) 4 (0 + 1 + (0 + 4) + 1 + (0 + 24)) q := he4.call (ext_IntRow (zk_Group_4 M q ) (zn (zk_Group_3 M q )) 24) (by have := he3.1; omega)
  have kf5_0 : zf (zk_Group_5 M q ) q 0 = some (zn (M)) := (congrFun ((ext_IntRow (zk_Group_4 M q ) (zn (zk_Group_3 M q )) 24).2.2.2 q (by have := he4.1; omega) (by have := he3.1; (exact zo_1473 hq this))) 0).trans kf4_0
  show zW l m_Group_init (zn M + 10, zw M + (0 + 1 + (0 + 4) + 1 + (0 + 24) + 1 + (0 + 576) + 1 + (0 + 24) + 1 + (0 + 24))) (zk_Group_5 M q ) 26 [some (.ref q)] [.ref (zn (zk_Group_3 M q )), .ref q] _
  refine zw_putR (pc := 26) (x := zn (zk_Group_3 M q )) (Or.inr ⟨g_Group_20, rfl, rfl, rfl⟩) rfl (he5.q hq hqk) (fun _ => rfl) (fun _ => rfl) (zdal_p dlA_Group_init_7 (i := 13) rfl) ?_
  have he6 : zExt M (zk_Group_6 M q ) 4 (0 + 1 + (0 + 4) + 1 + (0 + 24)) q := he5.put
  have kf6_0 : zf (zk_Group_6 M q ) q 0 = some (zn (M)) := (zup2_n (fun z => absurd z.2 (by decide))).trans kf5_0
  show zW l m_Group_init (zn M + 10, zw M + (0 + 1 + (0 + 4) + 1 + (0 + 24) + 1 + (0 + 576) + 1 + (0 + 24) + 1 + (0 + 24))) (zk_Group_6 M q ) 29 [some (.ref q)] [] _
  have kn6 : zf (zk_Group_6 M q ) q 1 = some (zn (zk_Group_3 M q )) := zup2_s
  refine zw_aload_n (pc := 29) (n := 0) (x := q) rfl (zdal_p dlA_Group_init_7 (i := 14) rfl) ?_
  refine zw_new (pc := 30) (ci := 2) (by decide) n_Group_9 (by have := he6.1; omega) (by have := he6.1; show _ ≤ zn M + 10; omega) (by have := he6.2.1; show _ + 1 ≤ zw M + (0 + 1 + (0 + 4) + 1 + (0 + 24) + 1 + (0 + 576) + 1 + (0 + 24) + 1 + (0 + 24)); omega) (by decide) (zdal_p dlA_Group_init_7 (i := 15) rfl) ?_
  have he7 : zExt M (zk_Group_7 M q ) 5 (0 + 1 + (0 + 4) + 1 + (0 + 24) + 1) q := he6.al
  have kf7_0 : zf (zk_Group_7 M q ) q 0 = some (zn (M)) := (congrFun (zal_old (by have := he6.1; (exact zo_1477 hm hq this))).2 0).trans kf6_0
  have kf7_1 : zf (zk_Group_7 M q ) q 1 = some (zn (zk_Group_3 M q )) := (congrFun (zal_old (by have := he6.1; (exact zo_1477 hm hq this))).2 1).trans kn6
  show zW l m_Group_init (zn M + 10, zw M + (0 + 1 + (0 + 4) + 1 + (0 + 24) + 1 + (0 + 576) + 1 + (0 + 24) + 1 + (0 + 24))) (zk_Group_7 M q ) 33 [some (.ref q)] [.ref (zn (zk_Group_6 M q )), .ref q] _
  refine zw_dup (pc := 33) rfl (zdal_p dlA_Group_init_7 (i := 16) rfl) ?_
  refine zw_sipush (pc := 34) (v := nI 576) (by decide) (zdal_p dlA_Group_init_7 (i := 17) rfl) ?_
  refine zw_callI (pc := 37) (mc := 1) (ms := (0 + 576)) (b := zn (zk_Group_6 M q )) [.int (nI 576)] [.ref (zn (zk_Group_6 M q )), .ref q] l_Group_11 (k_IntRow l (zk_Group_7 M q ) (zn (zk_Group_6 M q )) (by have := he7.1; show zn (zk_Group_6 M q ) < zn (zk_Group_6 M q ) + 1; (exact zo_1083)) (congrArg Prod.fst (zal_sh (M := zk_Group_6 M q ) (t := 5) (n := 1))) 576 (by decide) (by have := he7.1; omega)) rfl rfl (by decide) ⟨by have := he7.1; show _ ≤ zn M + 10; omega, by have := he7.2.1; show _ ≤ zw M + (0 + 1 + (0 + 4) + 1 + (0 + 24) + 1 + (0 + 576) + 1 + (0 + 24) + 1 + (0 + 24)); omega⟩ (Nat.le_of_ble_eq_true rfl) (zdal_p dlA_Group_init_7 (i := 18) rfl) (fun r M9 h9 _ _ => ?_)
  obtain ⟨rfl, rfl⟩ := h9
  have he8 : zExt M (zk_Group_8 M q ) 6 (0 + 1 + (0 + 4) + 1 + (0 + 24) + 1 + (0 + 576)) q := he7.call (ext_IntRow (zk_Group_7 M q ) (zn (zk_Group_6 M q )) 576) (by have := he6.1; omega)
  have kf8_0 : zf (zk_Group_8 M q ) q 0 = some (zn (M)) := (congrFun ((ext_IntRow (zk_Group_7 M q ) (zn (zk_Group_6 M q )) 576).2.2.2 q (by have := he7.1; (exact zo_1482 hm hq this)) (by have := he6.1; (exact zo_1483 hq this))) 0).trans kf7_0
  have kf8_1 : zf (zk_Group_8 M q ) q 1 = some (zn (zk_Group_3 M q )) := (congrFun ((ext_IntRow (zk_Group_7 M q ) (zn (zk_Group_6 M q )) 576).2.2.2 q (by have := he7.1; (exact zo_1482 hm hq this)) (by have := he6.1; (exact zo_1483 hq this))) 1).trans kf7_1
  show zW l m_Group_init (zn M + 10, zw M + (0 + 1 + (0 + 4) + 1 + (0 + 24) + 1 + (0 + 576) + 1 + (0 + 24) + 1 + (0 + 24))) (zk_Group_8 M q ) 40 [some (.ref q)] [.ref (zn (zk_Group_6 M q )), .ref q] _
  refine zw_putR (pc := 40) (x := zn (zk_Group_6 M q )) (Or.inr ⟨g_Group_23, rfl, rfl, rfl⟩) rfl (he8.q hq hqk) (fun _ => rfl) (fun _ => rfl) (zdal_p dlA_Group_init_7 (i := 19) rfl) ?_
  have he9 : zExt M (zk_Group_9 M q ) 6 (0 + 1 + (0 + 4) + 1 + (0 + 24) + 1 + (0 + 576)) q := he8.put
  have kf9_0 : zf (zk_Group_9 M q ) q 0 = some (zn (M)) := (zup2_n (fun z => absurd z.2 (by decide))).trans kf8_0
  have kf9_1 : zf (zk_Group_9 M q ) q 1 = some (zn (zk_Group_3 M q )) := (zup2_n (fun z => absurd z.2 (by decide))).trans kf8_1
  show zW l m_Group_init (zn M + 10, zw M + (0 + 1 + (0 + 4) + 1 + (0 + 24) + 1 + (0 + 576) + 1 + (0 + 24) + 1 + (0 + 24))) (zk_Group_9 M q ) 43 [some (.ref q)] [] _
  have kn9 : zf (zk_Group_9 M q ) q 2 = some (zn (zk_Group_6 M q )) := zup2_s
  refine zw_aload_n (pc := 43) (n := 0) (x := q) rfl (zdal_p dlA_Group_init_7 (i := 20) rfl) ?_
  refine zw_new (pc := 44) (ci := 2) (by decide) n_Group_9 (by have := he9.1; omega) (by have := he9.1; show _ ≤ zn M + 10; omega) (by have := he9.2.1; show _ + 1 ≤ zw M + (0 + 1 + (0 + 4) + 1 + (0 + 24) + 1 + (0 + 576) + 1 + (0 + 24) + 1 + (0 + 24)); omega) (by decide) (zdal_p dlA_Group_init_7 (i := 21) rfl) ?_
  have he10 : zExt M (zk_Group_10 M q ) 7 (0 + 1 + (0 + 4) + 1 + (0 + 24) + 1 + (0 + 576) + 1) q := he9.al
  have kf10_0 : zf (zk_Group_10 M q ) q 0 = some (zn (M)) := (congrFun (zal_old (by have := he9.1; (exact zo_1487 hm hq this))).2 0).trans kf9_0
  have kf10_1 : zf (zk_Group_10 M q ) q 1 = some (zn (zk_Group_3 M q )) := (congrFun (zal_old (by have := he9.1; (exact zo_1487 hm hq this))).2 1).trans kf9_1
  have kf10_2 : zf (zk_Group_10 M q ) q 2 = some (zn (zk_Group_6 M q )) := (congrFun (zal_old (by have := he9.1; (exact zo_1487 hm hq this))).2 2).trans kn9
  show zW l m_Group_init (zn M + 10, zw M + (0 + 1 + (0 + 4) + 1 + (0 + 24) + 1 + (0 + 576) + 1 + (0 + 24) + 1 + (0 + 24))) (zk_Group_10 M q ) 47 [some (.ref q)] [.ref (zn (zk_Group_9 M q )), .ref q] _
  refine zw_dup (pc := 47) rfl (zdal_p dlA_Group_init_7 (i := 22) rfl) ?_
  refine zw_bipush (pc := 48) (v := nI 24) (by decide) (zdal_p dlA_Group_init_7 (i := 23) rfl) ?_
  refine zw_callI (pc := 50) (mc := 1) (ms := (0 + 24)) (b := zn (zk_Group_9 M q )) [.int (nI 24)] [.ref (zn (zk_Group_9 M q )), .ref q] l_Group_11 (k_IntRow l (zk_Group_10 M q ) (zn (zk_Group_9 M q )) (by have := he10.1; show zn (zk_Group_9 M q ) < zn (zk_Group_9 M q ) + 1; (exact zo_1083)) (congrArg Prod.fst (zal_sh (M := zk_Group_9 M q ) (t := 5) (n := 1))) 24 (by decide) (by have := he10.1; omega)) rfl rfl (by decide) ⟨by have := he10.1; show _ ≤ zn M + 10; omega, by have := he10.2.1; show _ ≤ zw M + (0 + 1 + (0 + 4) + 1 + (0 + 24) + 1 + (0 + 576) + 1 + (0 + 24) + 1 + (0 + 24)); omega⟩ (Nat.le_of_ble_eq_true rfl) (zdal_p dlA_Group_init_8 (i := 0) rfl) (fun r M9 h9 _ _ => ?_)
  obtain ⟨rfl, rfl⟩ := h9
  have he11 : zExt M (zk_Group_11 M q ) 8 (0 + 1 + (0 + 4) + 1 + (0 + 24) + 1 + (0 + 576) + 1 + (0 + 24)) q := he10.call (ext_IntRow (zk_Group_10 M q ) (zn (zk_Group_9 M q )) 24) (by have := he9.1; omega)
  have kf11_0 : zf (zk_Group_11 M q ) q 0 = some (zn (M)) := (congrFun ((ext_IntRow (zk_Group_10 M q ) (zn (zk_Group_9 M q )) 24).2.2.2 q (by have := he10.1; (exact zo_1492 hm hq this)) (by have := he9.1; (exact zo_1493 hq this))) 0).trans kf10_0
  have kf11_1 : zf (zk_Group_11 M q ) q 1 = some (zn (zk_Group_3 M q )) := (congrFun ((ext_IntRow (zk_Group_10 M q ) (zn (zk_Group_9 M q )) 24).2.2.2 q (by have := he10.1; (exact zo_1492 hm hq this)) (by have := he9.1; (exact zo_1493 hq this))) 1).trans kf10_1
  have kf11_2 : zf (zk_Group_11 M q ) q 2 = some (zn (zk_Group_6 M q )) := (congrFun ((ext_IntRow (zk_Group_10 M q ) (zn (zk_Group_9 M q )) 24).2.2.2 q (by have := he10.1; (exact zo_1492 hm hq this)) (by have := he9.1; (exact zo_1493 hq this))) 2).trans kf10_2
  show zW l m_Group_init (zn M + 10, zw M + (0 + 1 + (0 + 4) + 1 + (0 + 24) + 1 + (0 + 576) + 1 + (0 + 24) + 1 + (0 + 24))) (zk_Group_11 M q ) 53 [some (.ref q)] [.ref (zn (zk_Group_9 M q )), .ref q] _
  refine zw_putR (pc := 53) (x := zn (zk_Group_9 M q )) (Or.inr ⟨g_Group_26, rfl, rfl, rfl⟩) rfl (he11.q hq hqk) (fun _ => rfl) (fun _ => rfl) (zdal_p dlA_Group_init_8 (i := 1) rfl) ?_
  have he12 : zExt M (zk_Group_12 M q ) 8 (0 + 1 + (0 + 4) + 1 + (0 + 24) + 1 + (0 + 576) + 1 + (0 + 24)) q := he11.put
  have kf12_0 : zf (zk_Group_12 M q ) q 0 = some (zn (M)) := (zup2_n (fun z => absurd z.2 (by decide))).trans kf11_0
  have kf12_1 : zf (zk_Group_12 M q ) q 1 = some (zn (zk_Group_3 M q )) := (zup2_n (fun z => absurd z.2 (by decide))).trans kf11_1
  have kf12_2 : zf (zk_Group_12 M q ) q 2 = some (zn (zk_Group_6 M q )) := (zup2_n (fun z => absurd z.2 (by decide))).trans kf11_2
  show zW l m_Group_init (zn M + 10, zw M + (0 + 1 + (0 + 4) + 1 + (0 + 24) + 1 + (0 + 576) + 1 + (0 + 24) + 1 + (0 + 24))) (zk_Group_12 M q ) 56 [some (.ref q)] [] _
  have kn12 : zf (zk_Group_12 M q ) q 3 = some (zn (zk_Group_9 M q )) := zup2_s
  refine zw_aload_n (pc := 56) (n := 0) (x := q) rfl (zdal_p dlA_Group_init_8 (i := 2) rfl) ?_
  refine zw_new (pc := 57) (ci := 2) (by decide) n_Group_9 (by have := he12.1; omega) (by have := he12.1; show _ ≤ zn M + 10; omega) (by have := he12.2.1; show _ + 1 ≤ zw M + (0 + 1 + (0 + 4) + 1 + (0 + 24) + 1 + (0 + 576) + 1 + (0 + 24) + 1 + (0 + 24)); omega) (by decide) (zdal_p dlA_Group_init_8 (i := 3) rfl) ?_
  have he13 : zExt M (zk_Group_13 M q ) 9 (0 + 1 + (0 + 4) + 1 + (0 + 24) + 1 + (0 + 576) + 1 + (0 + 24) + 1) q := he12.al
  have kf13_0 : zf (zk_Group_13 M q ) q 0 = some (zn (M)) := (congrFun (zal_old (by have := he12.1; (exact zo_1497 hm hq this))).2 0).trans kf12_0
  have kf13_1 : zf (zk_Group_13 M q ) q 1 = some (zn (zk_Group_3 M q )) := (congrFun (zal_old (by have := he12.1; (exact zo_1497 hm hq this))).2 1).trans kf12_1
  have kf13_2 : zf (zk_Group_13 M q ) q 2 = some (zn (zk_Group_6 M q )) := (congrFun (zal_old (by have := he12.1; (exact zo_1497 hm hq this))).2 2).trans kf12_2
  have kf13_3 : zf (zk_Group_13 M q ) q 3 = some (zn (zk_Group_9 M q )) := (congrFun (zal_old (by have := he12.1; (exact zo_1497 hm hq this))).2 3).trans kn12
  show zW l m_Group_init (zn M + 10, zw M + (0 + 1 + (0 + 4) + 1 + (0 + 24) + 1 + (0 + 576) + 1 + (0 + 24) + 1 + (0 + 24))) (zk_Group_13 M q ) 60 [some (.ref q)] [.ref (zn (zk_Group_12 M q )), .ref q] _
  refine zw_dup (pc := 60) rfl (zdal_p dlA_Group_init_8 (i := 4) rfl) ?_
  refine zw_bipush (pc := 61) (v := nI 24) (by decide) (zdal_p dlA_Group_init_8 (i := 5) rfl) ?_
  refine zw_callI (pc := 63) (mc := 1) (ms := (0 + 24)) (b := zn (zk_Group_12 M q )) [.int (nI 24)] [.ref (zn (zk_Group_12 M q )), .ref q] l_Group_11 (k_IntRow l (zk_Group_13 M q ) (zn (zk_Group_12 M q )) (by have := he13.1; show zn (zk_Group_12 M q ) < zn (zk_Group_12 M q ) + 1; (exact zo_1083)) (congrArg Prod.fst (zal_sh (M := zk_Group_12 M q ) (t := 5) (n := 1))) 24 (by decide) (by have := he13.1; omega)) rfl rfl (by decide) ⟨by have := he13.1; show _ ≤ zn M + 10; omega, by have := he13.2.1; show _ ≤ zw M + (0 + 1 + (0 + 4) + 1 + (0 + 24) + 1 + (0 + 576) + 1 + (0 + 24) + 1 + (0 + 24)); omega⟩ (Nat.le_of_ble_eq_true rfl) (zdal_p dlA_Group_init_8 (i := 6) rfl) (fun r M9 h9 _ _ => ?_)
  obtain ⟨rfl, rfl⟩ := h9
  have he14 : zExt M (zk_Group_14 M q ) 10 (0 + 1 + (0 + 4) + 1 + (0 + 24) + 1 + (0 + 576) + 1 + (0 + 24) + 1 + (0 + 24)) q := he13.call (ext_IntRow (zk_Group_13 M q ) (zn (zk_Group_12 M q )) 24) (by have := he12.1; omega)
  have kf14_0 : zf (zk_Group_14 M q ) q 0 = some (zn (M)) := (congrFun ((ext_IntRow (zk_Group_13 M q ) (zn (zk_Group_12 M q )) 24).2.2.2 q (by have := he13.1; (exact zo_1502 hm hq this)) (by have := he12.1; (exact zo_1503 hq this))) 0).trans kf13_0
  have kf14_1 : zf (zk_Group_14 M q ) q 1 = some (zn (zk_Group_3 M q )) := (congrFun ((ext_IntRow (zk_Group_13 M q ) (zn (zk_Group_12 M q )) 24).2.2.2 q (by have := he13.1; (exact zo_1502 hm hq this)) (by have := he12.1; (exact zo_1503 hq this))) 1).trans kf13_1
  have kf14_2 : zf (zk_Group_14 M q ) q 2 = some (zn (zk_Group_6 M q )) := (congrFun ((ext_IntRow (zk_Group_13 M q ) (zn (zk_Group_12 M q )) 24).2.2.2 q (by have := he13.1; (exact zo_1502 hm hq this)) (by have := he12.1; (exact zo_1503 hq this))) 2).trans kf13_2
  have kf14_3 : zf (zk_Group_14 M q ) q 3 = some (zn (zk_Group_9 M q )) := (congrFun ((ext_IntRow (zk_Group_13 M q ) (zn (zk_Group_12 M q )) 24).2.2.2 q (by have := he13.1; (exact zo_1502 hm hq this)) (by have := he12.1; (exact zo_1503 hq this))) 3).trans kf13_3
  show zW l m_Group_init (zn M + 10, zw M + (0 + 1 + (0 + 4) + 1 + (0 + 24) + 1 + (0 + 576) + 1 + (0 + 24) + 1 + (0 + 24))) (zk_Group_14 M q ) 66 [some (.ref q)] [.ref (zn (zk_Group_12 M q )), .ref q] _
  refine zw_putR (pc := 66) (x := zn (zk_Group_12 M q )) (Or.inr ⟨g_Group_29, rfl, rfl, rfl⟩) rfl (he14.q hq hqk) (fun _ => rfl) (fun _ => rfl) (zdal_p dlA_Group_init_8 (i := 7) rfl) ?_
  have he15 : zExt M (zk_Group_15 M q ) 10 (0 + 1 + (0 + 4) + 1 + (0 + 24) + 1 + (0 + 576) + 1 + (0 + 24) + 1 + (0 + 24)) q := he14.put
  have kf15_0 : zf (zk_Group_15 M q ) q 0 = some (zn (M)) := (zup2_n (fun z => absurd z.2 (by decide))).trans kf14_0
  have kf15_1 : zf (zk_Group_15 M q ) q 1 = some (zn (zk_Group_3 M q )) := (zup2_n (fun z => absurd z.2 (by decide))).trans kf14_1
  have kf15_2 : zf (zk_Group_15 M q ) q 2 = some (zn (zk_Group_6 M q )) := (zup2_n (fun z => absurd z.2 (by decide))).trans kf14_2
  have kf15_3 : zf (zk_Group_15 M q ) q 3 = some (zn (zk_Group_9 M q )) := (zup2_n (fun z => absurd z.2 (by decide))).trans kf14_3
  show zW l m_Group_init (zn M + 10, zw M + (0 + 1 + (0 + 4) + 1 + (0 + 24) + 1 + (0 + 576) + 1 + (0 + 24) + 1 + (0 + 24))) (zk_Group_15 M q ) 69 [some (.ref q)] [] _
  have kn15 : zf (zk_Group_15 M q ) q 4 = some (zn (zk_Group_12 M q )) := zup2_s
  exact zw_vret (S := []) (pc := 69) rfl (zdal_p dlA_Group_init_8 (i := 8) rfl) ⟨rfl, rfl⟩
def zk_Sorts_1 (M : zMem) (q : Nat) (a0 : Nat) : zMem := zal (M) 5 1
def zk_Sorts_2 (M : zMem) (q : Nat) (a0 : Nat) : zMem := zk_IntRow (zk_Sorts_1 M q a0) (zn (M)) 35
def zk_Sorts_3 (M : zMem) (q : Nat) (a0 : Nat) : zMem := zsF (zk_Sorts_2 M q a0) q 1 (some (zn (M)))
def zk_Sorts_4 (M : zMem) (q : Nat) (a0 : Nat) : zMem := zal (zk_Sorts_3 M q a0) 5 1
def zk_Sorts_5 (M : zMem) (q : Nat) (a0 : Nat) : zMem := zk_IntRow (zk_Sorts_4 M q a0) (zn (zk_Sorts_3 M q a0)) 35
def zk_Sorts_6 (M : zMem) (q : Nat) (a0 : Nat) : zMem := zsF (zk_Sorts_5 M q a0) q 2 (some (zn (zk_Sorts_3 M q a0)))
def zk_Sorts_7 (M : zMem) (q : Nat) (a0 : Nat) : zMem := zal (zk_Sorts_6 M q a0) 5 1
def zk_Sorts_8 (M : zMem) (q : Nat) (a0 : Nat) : zMem := zk_IntRow (zk_Sorts_7 M q a0) (zn (zk_Sorts_6 M q a0)) 35
def zk_Sorts_9 (M : zMem) (q : Nat) (a0 : Nat) : zMem := zsF (zk_Sorts_8 M q a0) q 3 (some (zn (zk_Sorts_6 M q a0)))
def zk_Sorts_10 (M : zMem) (q : Nat) (a0 : Nat) : zMem := zal (zk_Sorts_9 M q a0) 5 1
def zk_Sorts_11 (M : zMem) (q : Nat) (a0 : Nat) : zMem := zk_IntRow (zk_Sorts_10 M q a0) (zn (zk_Sorts_9 M q a0)) 27
def zk_Sorts_12 (M : zMem) (q : Nat) (a0 : Nat) : zMem := zsF (zk_Sorts_11 M q a0) q 4 (some (zn (zk_Sorts_9 M q a0)))
def zk_Sorts_13 (M : zMem) (q : Nat) (a0 : Nat) : zMem := zal (zk_Sorts_12 M q a0) 5 1
def zk_Sorts_14 (M : zMem) (q : Nat) (a0 : Nat) : zMem := zk_IntRow (zk_Sorts_13 M q a0) (zn (zk_Sorts_12 M q a0)) 729
def zk_Sorts_15 (M : zMem) (q : Nat) (a0 : Nat) : zMem := zsF (zk_Sorts_14 M q a0) q 5 (some (zn (zk_Sorts_12 M q a0)))
def zk_Sorts_16 (M : zMem) (q : Nat) (a0 : Nat) : zMem := zsF (zk_Sorts_15 M q a0) q 0 (some (a0))
def zk_Sorts (M : zMem) (q : Nat) (a0 : Nat) : zMem := zk_Sorts_16 M q a0
set_option maxRecDepth 20000 in
theorem ext_Sorts (M : zMem) (q : Nat) (a0 : Nat) : zExt M (zk_Sorts M q a0) 10 (0 + 1 + (0 + 35) + 1 + (0 + 35) + 1 + (0 + 35) + 1 + (0 + 27) + 1 + (0 + 729)) q := by
  have he0 : zExt M M 0 0 q := zExt.rf
  have he1 : zExt M (zk_Sorts_1 M q a0) 1 (0 + 1) q := he0.al
  have he2 : zExt M (zk_Sorts_2 M q a0) 2 (0 + 1 + (0 + 35)) q := he1.call (ext_IntRow (zk_Sorts_1 M q a0) (zn (M)) 35) (by have := he0.1; (exact zo_1447))
  have he3 : zExt M (zk_Sorts_3 M q a0) 2 (0 + 1 + (0 + 35)) q := he2.put
  have he4 : zExt M (zk_Sorts_4 M q a0) 3 (0 + 1 + (0 + 35) + 1) q := he3.al
  have he5 : zExt M (zk_Sorts_5 M q a0) 4 (0 + 1 + (0 + 35) + 1 + (0 + 35)) q := he4.call (ext_IntRow (zk_Sorts_4 M q a0) (zn (zk_Sorts_3 M q a0)) 35) (by have := he3.1; (exact zo_1454 this))
  have he6 : zExt M (zk_Sorts_6 M q a0) 4 (0 + 1 + (0 + 35) + 1 + (0 + 35)) q := he5.put
  have he7 : zExt M (zk_Sorts_7 M q a0) 5 (0 + 1 + (0 + 35) + 1 + (0 + 35) + 1) q := he6.al
  have he8 : zExt M (zk_Sorts_8 M q a0) 6 (0 + 1 + (0 + 35) + 1 + (0 + 35) + 1 + (0 + 35)) q := he7.call (ext_IntRow (zk_Sorts_7 M q a0) (zn (zk_Sorts_6 M q a0)) 35) (by have := he6.1; omega)
  have he9 : zExt M (zk_Sorts_9 M q a0) 6 (0 + 1 + (0 + 35) + 1 + (0 + 35) + 1 + (0 + 35)) q := he8.put
  have he10 : zExt M (zk_Sorts_10 M q a0) 7 (0 + 1 + (0 + 35) + 1 + (0 + 35) + 1 + (0 + 35) + 1) q := he9.al
  have he11 : zExt M (zk_Sorts_11 M q a0) 8 (0 + 1 + (0 + 35) + 1 + (0 + 35) + 1 + (0 + 35) + 1 + (0 + 27)) q := he10.call (ext_IntRow (zk_Sorts_10 M q a0) (zn (zk_Sorts_9 M q a0)) 27) (by have := he9.1; omega)
  have he12 : zExt M (zk_Sorts_12 M q a0) 8 (0 + 1 + (0 + 35) + 1 + (0 + 35) + 1 + (0 + 35) + 1 + (0 + 27)) q := he11.put
  have he13 : zExt M (zk_Sorts_13 M q a0) 9 (0 + 1 + (0 + 35) + 1 + (0 + 35) + 1 + (0 + 35) + 1 + (0 + 27) + 1) q := he12.al
  have he14 : zExt M (zk_Sorts_14 M q a0) 10 (0 + 1 + (0 + 35) + 1 + (0 + 35) + 1 + (0 + 35) + 1 + (0 + 27) + 1 + (0 + 729)) q := he13.call (ext_IntRow (zk_Sorts_13 M q a0) (zn (zk_Sorts_12 M q a0)) 729) (by have := he12.1; omega)
  have he15 : zExt M (zk_Sorts_15 M q a0) 10 (0 + 1 + (0 + 35) + 1 + (0 + 35) + 1 + (0 + 35) + 1 + (0 + 27) + 1 + (0 + 729)) q := he14.put
  have he16 : zExt M (zk_Sorts_16 M q a0) 10 (0 + 1 + (0 + 35) + 1 + (0 + 35) + 1 + (0 + 35) + 1 + (0 + 27) + 1 + (0 + 729)) q := he15.put
  exact he16
set_option maxRecDepth 20000 in
set_option maxHeartbeats 4000000 in
theorem k_Sorts (l : Launch) (M : zMem) (q : Nat) (hq : q < zn M) (hqk : (zsh M q).1 = 6 + 3) (a0 : Nat) (hm : zn M + 10 < 1000000) : zC l m_Sorts_init 10 (0 + 1 + (0 + 35) + 1 + (0 + 35) + 1 + (0 + 35) + 1 + (0 + 27) + 1 + (0 + 729)) [.ref q, .ref a0] M (fun r M' => r = none ∧ M' = zk_Sorts M q a0) := by
  have hex := ext_Sorts M q a0
  refine zC_of (L0 := [some (.ref q), some (.ref a0)]) md_Sorts_init (Nat.le_of_ble_eq_true rfl) rfl ?_ (fun r M' h _ => by obtain ⟨-, rfl⟩ := h; exact ⟨hex.1, hex.2.1⟩)
  have he0 : zExt M M 0 0 q := zExt.rf
  refine zw_aload_n (pc := 0) (n := 0) (x := q) rfl (zdal_p dlA_Sorts_init_9 (i := 0) rfl) ?_
  refine zw_objInit (pc := 1) o_Sorts_3 o_in o_co (by decide) (Nat.le_of_ble_eq_true rfl) (zdal_p dlA_Sorts_init_9 (i := 1) rfl) ?_
  refine zw_aload_n (pc := 4) (n := 0) (x := q) rfl (zdal_p dlA_Sorts_init_9 (i := 2) rfl) ?_
  refine zw_new (pc := 5) (ci := 2) (by decide) n_Sorts_9 (by have := he0.1; omega) (by have := he0.1; show _ ≤ zn M + 10; omega) (by have := he0.2.1; show _ + 1 ≤ zw M + (0 + 1 + (0 + 35) + 1 + (0 + 35) + 1 + (0 + 35) + 1 + (0 + 27) + 1 + (0 + 729)); omega) (by decide) (zdal_p dlA_Sorts_init_9 (i := 3) rfl) ?_
  have he1 : zExt M (zk_Sorts_1 M q a0) 1 (0 + 1) q := he0.al
  show zW l m_Sorts_init (zn M + 10, zw M + (0 + 1 + (0 + 35) + 1 + (0 + 35) + 1 + (0 + 35) + 1 + (0 + 27) + 1 + (0 + 729))) (zk_Sorts_1 M q a0) 8 [some (.ref q), some (.ref a0)] [.ref (zn (M)), .ref q] _
  refine zw_dup (pc := 8) rfl (zdal_p dlA_Sorts_init_9 (i := 4) rfl) ?_
  refine zw_bipush (pc := 9) (v := nI 35) (by decide) (zdal_p dlA_Sorts_init_9 (i := 5) rfl) ?_
  refine zw_callI (pc := 11) (mc := 1) (ms := (0 + 35)) (b := zn (M)) [.int (nI 35)] [.ref (zn (M)), .ref q] l_Sorts_11 (k_IntRow l (zk_Sorts_1 M q a0) (zn (M)) (by have := he1.1; show zn (M) < zn (M) + 1; (exact zo_1083)) (congrArg Prod.fst (zal_sh (M := M) (t := 5) (n := 1))) 35 (by decide) (by have := he1.1; omega)) rfl rfl (by decide) ⟨by have := he1.1; show _ ≤ zn M + 10; omega, by have := he1.2.1; show _ ≤ zw M + (0 + 1 + (0 + 35) + 1 + (0 + 35) + 1 + (0 + 35) + 1 + (0 + 27) + 1 + (0 + 729)); omega⟩ (Nat.le_of_ble_eq_true rfl) (zdal_p dlA_Sorts_init_9 (i := 6) rfl) (fun r M9 h9 _ _ => ?_)
  obtain ⟨rfl, rfl⟩ := h9
  have he2 : zExt M (zk_Sorts_2 M q a0) 2 (0 + 1 + (0 + 35)) q := he1.call (ext_IntRow (zk_Sorts_1 M q a0) (zn (M)) 35) (by have := he0.1; (exact zo_1447))
  show zW l m_Sorts_init (zn M + 10, zw M + (0 + 1 + (0 + 35) + 1 + (0 + 35) + 1 + (0 + 35) + 1 + (0 + 27) + 1 + (0 + 729))) (zk_Sorts_2 M q a0) 14 [some (.ref q), some (.ref a0)] [.ref (zn (M)), .ref q] _
  refine zw_putR (pc := 14) (x := zn (M)) (Or.inr ⟨g_Sorts_14, rfl, rfl, rfl⟩) rfl (he2.q hq hqk) (fun _ => rfl) (fun _ => rfl) (zdal_p dlA_Sorts_init_9 (i := 7) rfl) ?_
  have he3 : zExt M (zk_Sorts_3 M q a0) 2 (0 + 1 + (0 + 35)) q := he2.put
  show zW l m_Sorts_init (zn M + 10, zw M + (0 + 1 + (0 + 35) + 1 + (0 + 35) + 1 + (0 + 35) + 1 + (0 + 27) + 1 + (0 + 729))) (zk_Sorts_3 M q a0) 17 [some (.ref q), some (.ref a0)] [] _
  have kn3 : zf (zk_Sorts_3 M q a0) q 1 = some (zn (M)) := zup2_s
  refine zw_aload_n (pc := 17) (n := 0) (x := q) rfl (zdal_p dlA_Sorts_init_9 (i := 8) rfl) ?_
  refine zw_new (pc := 18) (ci := 2) (by decide) n_Sorts_9 (by have := he3.1; omega) (by have := he3.1; show _ ≤ zn M + 10; omega) (by have := he3.2.1; show _ + 1 ≤ zw M + (0 + 1 + (0 + 35) + 1 + (0 + 35) + 1 + (0 + 35) + 1 + (0 + 27) + 1 + (0 + 729)); omega) (by decide) (zdal_p dlA_Sorts_init_9 (i := 9) rfl) ?_
  have he4 : zExt M (zk_Sorts_4 M q a0) 3 (0 + 1 + (0 + 35) + 1) q := he3.al
  have kf4_1 : zf (zk_Sorts_4 M q a0) q 1 = some (zn (M)) := (congrFun (zal_old (by have := he3.1; omega)).2 1).trans kn3
  show zW l m_Sorts_init (zn M + 10, zw M + (0 + 1 + (0 + 35) + 1 + (0 + 35) + 1 + (0 + 35) + 1 + (0 + 27) + 1 + (0 + 729))) (zk_Sorts_4 M q a0) 21 [some (.ref q), some (.ref a0)] [.ref (zn (zk_Sorts_3 M q a0)), .ref q] _
  refine zw_dup (pc := 21) rfl (zdal_p dlA_Sorts_init_9 (i := 10) rfl) ?_
  refine zw_bipush (pc := 22) (v := nI 35) (by decide) (zdal_p dlA_Sorts_init_9 (i := 11) rfl) ?_
  refine zw_callI (pc := 24) (mc := 1) (ms := (0 + 35)) (b := zn (zk_Sorts_3 M q a0)) [.int (nI 35)] [.ref (zn (zk_Sorts_3 M q a0)), .ref q] l_Sorts_11 (k_IntRow l (zk_Sorts_4 M q a0) (zn (zk_Sorts_3 M q a0)) (by have := he4.1; show zn (zk_Sorts_3 M q a0) < zn (zk_Sorts_3 M q a0) + 1; (exact zo_1083)) (congrArg Prod.fst (zal_sh (M := zk_Sorts_3 M q a0) (t := 5) (n := 1))) 35 (by decide) (by have := he4.1; omega)) rfl rfl (by decide) ⟨by have := he4.1; show _ ≤ zn M + 10; omega, by have := he4.2.1; show _ ≤ zw M + (0 + 1 + (0 + 35) + 1 + (0 + 35) + 1 + (0 + 35) + 1 + (0 + 27) + 1 + (0 + 729)); omega⟩ (Nat.le_of_ble_eq_true rfl) (zdal_p dlA_Sorts_init_9 (i := 12) rfl) (fun r M9 h9 _ _ => ?_)
  obtain ⟨rfl, rfl⟩ := h9
  have he5 : zExt M (zk_Sorts_5 M q a0) 4 (0 + 1 + (0 + 35) + 1 + (0 + 35)) q := he4.call (ext_IntRow (zk_Sorts_4 M q a0) (zn (zk_Sorts_3 M q a0)) 35) (by have := he3.1; omega)
  have kf5_1 : zf (zk_Sorts_5 M q a0) q 1 = some (zn (M)) := (congrFun ((ext_IntRow (zk_Sorts_4 M q a0) (zn (zk_Sorts_3 M q a0)) 35).2.2.2 q (by have := he4.1; omega) (by have := he3.1; (exact zo_1473 hq this))) 1).trans kf4_1
  show zW l m_Sorts_init (zn M + 10, zw M + (0 + 1 + (0 + 35) + 1 + (0 + 35) + 1 + (0 + 35) + 1 + (0 + 27) + 1 + (0 + 729))) (zk_Sorts_5 M q a0) 27 [some (.ref q), some (.ref a0)] [.ref (zn (zk_Sorts_3 M q a0)), .ref q] _
  refine zw_putR (pc := 27) (x := zn (zk_Sorts_3 M q a0)) (Or.inr ⟨g_Sorts_20, rfl, rfl, rfl⟩) rfl (he5.q hq hqk) (fun _ => rfl) (fun _ => rfl) (zdal_p dlA_Sorts_init_9 (i := 13) rfl) ?_
  have he6 : zExt M (zk_Sorts_6 M q a0) 4 (0 + 1 + (0 + 35) + 1 + (0 + 35)) q := he5.put
  have kf6_1 : zf (zk_Sorts_6 M q a0) q 1 = some (zn (M)) := (zup2_n (fun z => absurd z.2 (by decide))).trans kf5_1
  show zW l m_Sorts_init (zn M + 10, zw M + (0 + 1 + (0 + 35) + 1 + (0 + 35) + 1 + (0 + 35) + 1 + (0 + 27) + 1 + (0 + 729))) (zk_Sorts_6 M q a0) 30 [some (.ref q), some (.ref a0)] [] _
  have kn6 : zf (zk_Sorts_6 M q a0) q 2 = some (zn (zk_Sorts_3 M q a0)) := zup2_s
  refine zw_aload_n (pc := 30) (n := 0) (x := q) rfl (zdal_p dlA_Sorts_init_9 (i := 14) rfl) ?_
  refine zw_new (pc := 31) (ci := 2) (by decide) n_Sorts_9 (by have := he6.1; omega) (by have := he6.1; show _ ≤ zn M + 10; omega) (by have := he6.2.1; show _ + 1 ≤ zw M + (0 + 1 + (0 + 35) + 1 + (0 + 35) + 1 + (0 + 35) + 1 + (0 + 27) + 1 + (0 + 729)); omega) (by decide) (zdal_p dlA_Sorts_init_9 (i := 15) rfl) ?_
  have he7 : zExt M (zk_Sorts_7 M q a0) 5 (0 + 1 + (0 + 35) + 1 + (0 + 35) + 1) q := he6.al
  have kf7_1 : zf (zk_Sorts_7 M q a0) q 1 = some (zn (M)) := (congrFun (zal_old (by have := he6.1; (exact zo_1477 hm hq this))).2 1).trans kf6_1
  have kf7_2 : zf (zk_Sorts_7 M q a0) q 2 = some (zn (zk_Sorts_3 M q a0)) := (congrFun (zal_old (by have := he6.1; (exact zo_1477 hm hq this))).2 2).trans kn6
  show zW l m_Sorts_init (zn M + 10, zw M + (0 + 1 + (0 + 35) + 1 + (0 + 35) + 1 + (0 + 35) + 1 + (0 + 27) + 1 + (0 + 729))) (zk_Sorts_7 M q a0) 34 [some (.ref q), some (.ref a0)] [.ref (zn (zk_Sorts_6 M q a0)), .ref q] _
  refine zw_dup (pc := 34) rfl (zdal_p dlA_Sorts_init_9 (i := 16) rfl) ?_
  refine zw_bipush (pc := 35) (v := nI 35) (by decide) (zdal_p dlA_Sorts_init_9 (i := 17) rfl) ?_
  refine zw_callI (pc := 37) (mc := 1) (ms := (0 + 35)) (b := zn (zk_Sorts_6 M q a0)) [.int (nI 35)] [.ref (zn (zk_Sorts_6 M q a0)), .ref q] l_Sorts_11 (k_IntRow l (zk_Sorts_7 M q a0) (zn (zk_Sorts_6 M q a0)) (by have := he7.1; show zn (zk_Sorts_6 M q a0) < zn (zk_Sorts_6 M q a0) + 1; (exact zo_1083)) (congrArg Prod.fst (zal_sh (M := zk_Sorts_6 M q a0) (t := 5) (n := 1))) 35 (by decide) (by have := he7.1; omega)) rfl rfl (by decide) ⟨by have := he7.1; show _ ≤ zn M + 10; omega, by have := he7.2.1; show _ ≤ zw M + (0 + 1 + (0 + 35) + 1 + (0 + 35) + 1 + (0 + 35) + 1 + (0 + 27) + 1 + (0 + 729)); omega⟩ (Nat.le_of_ble_eq_true rfl) (zdal_p dlA_Sorts_init_9 (i := 18) rfl) (fun r M9 h9 _ _ => ?_)
  obtain ⟨rfl, rfl⟩ := h9
  have he8 : zExt M (zk_Sorts_8 M q a0) 6 (0 + 1 + (0 + 35) + 1 + (0 + 35) + 1 + (0 + 35)) q := he7.call (ext_IntRow (zk_Sorts_7 M q a0) (zn (zk_Sorts_6 M q a0)) 35) (by have := he6.1; omega)
  have kf8_1 : zf (zk_Sorts_8 M q a0) q 1 = some (zn (M)) := (congrFun ((ext_IntRow (zk_Sorts_7 M q a0) (zn (zk_Sorts_6 M q a0)) 35).2.2.2 q (by have := he7.1; (exact zo_1482 hm hq this)) (by have := he6.1; (exact zo_1483 hq this))) 1).trans kf7_1
  have kf8_2 : zf (zk_Sorts_8 M q a0) q 2 = some (zn (zk_Sorts_3 M q a0)) := (congrFun ((ext_IntRow (zk_Sorts_7 M q a0) (zn (zk_Sorts_6 M q a0)) 35).2.2.2 q (by have := he7.1; (exact zo_1482 hm hq this)) (by have := he6.1; (exact zo_1483 hq this))) 2).trans kf7_2
  show zW l m_Sorts_init (zn M + 10, zw M + (0 + 1 + (0 + 35) + 1 + (0 + 35) + 1 + (0 + 35) + 1 + (0 + 27) + 1 + (0 + 729))) (zk_Sorts_8 M q a0) 40 [some (.ref q), some (.ref a0)] [.ref (zn (zk_Sorts_6 M q a0)), .ref q] _
  refine zw_putR (pc := 40) (x := zn (zk_Sorts_6 M q a0)) (Or.inr ⟨g_Sorts_23, rfl, rfl, rfl⟩) rfl (he8.q hq hqk) (fun _ => rfl) (fun _ => rfl) (zdal_p dlA_Sorts_init_9 (i := 19) rfl) ?_
  have he9 : zExt M (zk_Sorts_9 M q a0) 6 (0 + 1 + (0 + 35) + 1 + (0 + 35) + 1 + (0 + 35)) q := he8.put
  have kf9_1 : zf (zk_Sorts_9 M q a0) q 1 = some (zn (M)) := (zup2_n (fun z => absurd z.2 (by decide))).trans kf8_1
  have kf9_2 : zf (zk_Sorts_9 M q a0) q 2 = some (zn (zk_Sorts_3 M q a0)) := (zup2_n (fun z => absurd z.2 (by decide))).trans kf8_2
  show zW l m_Sorts_init (zn M + 10, zw M + (0 + 1 + (0 + 35) + 1 + (0 + 35) + 1 + (0 + 35) + 1 + (0 + 27) + 1 + (0 + 729))) (zk_Sorts_9 M q a0) 43 [some (.ref q), some (.ref a0)] [] _
  have kn9 : zf (zk_Sorts_9 M q a0) q 3 = some (zn (zk_Sorts_6 M q a0)) := zup2_s
  refine zw_aload_n (pc := 43) (n := 0) (x := q) rfl (zdal_p dlA_Sorts_init_9 (i := 20) rfl) ?_
  refine zw_new (pc := 44) (ci := 2) (by decide) n_Sorts_9 (by have := he9.1; omega) (by have := he9.1; show _ ≤ zn M + 10; omega) (by have := he9.2.1; show _ + 1 ≤ zw M + (0 + 1 + (0 + 35) + 1 + (0 + 35) + 1 + (0 + 35) + 1 + (0 + 27) + 1 + (0 + 729)); omega) (by decide) (zdal_p dlA_Sorts_init_9 (i := 21) rfl) ?_
  have he10 : zExt M (zk_Sorts_10 M q a0) 7 (0 + 1 + (0 + 35) + 1 + (0 + 35) + 1 + (0 + 35) + 1) q := he9.al
  have kf10_1 : zf (zk_Sorts_10 M q a0) q 1 = some (zn (M)) := (congrFun (zal_old (by have := he9.1; (exact zo_1487 hm hq this))).2 1).trans kf9_1
  have kf10_2 : zf (zk_Sorts_10 M q a0) q 2 = some (zn (zk_Sorts_3 M q a0)) := (congrFun (zal_old (by have := he9.1; (exact zo_1487 hm hq this))).2 2).trans kf9_2
  have kf10_3 : zf (zk_Sorts_10 M q a0) q 3 = some (zn (zk_Sorts_6 M q a0)) := (congrFun (zal_old (by have := he9.1; (exact zo_1487 hm hq this))).2 3).trans kn9
  show zW l m_Sorts_init (zn M + 10, zw M + (0 + 1 + (0 + 35) + 1 + (0 + 35) + 1 + (0 + 35) + 1 + (0 + 27) + 1 + (0 + 729))) (zk_Sorts_10 M q a0) 47 [some (.ref q), some (.ref a0)] [.ref (zn (zk_Sorts_9 M q a0)), .ref q] _
  refine zw_dup (pc := 47) rfl (zdal_p dlA_Sorts_init_9 (i := 22) rfl) ?_
  refine zw_bipush (pc := 48) (v := nI 27) (by decide) (zdal_p dlA_Sorts_init_9 (i := 23) rfl) ?_
  refine zw_callI (pc := 50) (mc := 1) (ms := (0 + 27)) (b := zn (zk_Sorts_9 M q a0)) [.int (nI 27)] [.ref (zn (zk_Sorts_9 M q a0)), .ref q] l_Sorts_11 (k_IntRow l (zk_Sorts_10 M q a0) (zn (zk_Sorts_9 M q a0)) (by have := he10.1; show zn (zk_Sorts_9 M q a0) < zn (zk_Sorts_9 M q a0) + 1; (exact zo_1083)) (congrArg Prod.fst (zal_sh (M := zk_Sorts_9 M q a0) (t := 5) (n := 1))) 27 (by decide) (by have := he10.1; omega)) rfl rfl (by decide) ⟨by have := he10.1; show _ ≤ zn M + 10; omega, by have := he10.2.1; show _ ≤ zw M + (0 + 1 + (0 + 35) + 1 + (0 + 35) + 1 + (0 + 35) + 1 + (0 + 27) + 1 + (0 + 729)); omega⟩ (Nat.le_of_ble_eq_true rfl) (zdal_p dlA_Sorts_init_10 (i := 0) rfl) (fun r M9 h9 _ _ => ?_)
  obtain ⟨rfl, rfl⟩ := h9
  have he11 : zExt M (zk_Sorts_11 M q a0) 8 (0 + 1 + (0 + 35) + 1 + (0 + 35) + 1 + (0 + 35) + 1 + (0 + 27)) q := he10.call (ext_IntRow (zk_Sorts_10 M q a0) (zn (zk_Sorts_9 M q a0)) 27) (by have := he9.1; omega)
  have kf11_1 : zf (zk_Sorts_11 M q a0) q 1 = some (zn (M)) := (congrFun ((ext_IntRow (zk_Sorts_10 M q a0) (zn (zk_Sorts_9 M q a0)) 27).2.2.2 q (by have := he10.1; (exact zo_1492 hm hq this)) (by have := he9.1; (exact zo_1493 hq this))) 1).trans kf10_1
  have kf11_2 : zf (zk_Sorts_11 M q a0) q 2 = some (zn (zk_Sorts_3 M q a0)) := (congrFun ((ext_IntRow (zk_Sorts_10 M q a0) (zn (zk_Sorts_9 M q a0)) 27).2.2.2 q (by have := he10.1; (exact zo_1492 hm hq this)) (by have := he9.1; (exact zo_1493 hq this))) 2).trans kf10_2
  have kf11_3 : zf (zk_Sorts_11 M q a0) q 3 = some (zn (zk_Sorts_6 M q a0)) := (congrFun ((ext_IntRow (zk_Sorts_10 M q a0) (zn (zk_Sorts_9 M q a0)) 27).2.2.2 q (by have := he10.1; (exact zo_1492 hm hq this)) (by have := he9.1; (exact zo_1493 hq this))) 3).trans kf10_3
  show zW l m_Sorts_init (zn M + 10, zw M + (0 + 1 + (0 + 35) + 1 + (0 + 35) + 1 + (0 + 35) + 1 + (0 + 27) + 1 + (0 + 729))) (zk_Sorts_11 M q a0) 53 [some (.ref q), some (.ref a0)] [.ref (zn (zk_Sorts_9 M q a0)), .ref q] _
  refine zw_putR (pc := 53) (x := zn (zk_Sorts_9 M q a0)) (Or.inr ⟨g_Sorts_26, rfl, rfl, rfl⟩) rfl (he11.q hq hqk) (fun _ => rfl) (fun _ => rfl) (zdal_p dlA_Sorts_init_10 (i := 1) rfl) ?_
  have he12 : zExt M (zk_Sorts_12 M q a0) 8 (0 + 1 + (0 + 35) + 1 + (0 + 35) + 1 + (0 + 35) + 1 + (0 + 27)) q := he11.put
  have kf12_1 : zf (zk_Sorts_12 M q a0) q 1 = some (zn (M)) := (zup2_n (fun z => absurd z.2 (by decide))).trans kf11_1
  have kf12_2 : zf (zk_Sorts_12 M q a0) q 2 = some (zn (zk_Sorts_3 M q a0)) := (zup2_n (fun z => absurd z.2 (by decide))).trans kf11_2
  have kf12_3 : zf (zk_Sorts_12 M q a0) q 3 = some (zn (zk_Sorts_6 M q a0)) := (zup2_n (fun z => absurd z.2 (by decide))).trans kf11_3
  show zW l m_Sorts_init (zn M + 10, zw M + (0 + 1 + (0 + 35) + 1 + (0 + 35) + 1 + (0 + 35) + 1 + (0 + 27) + 1 + (0 + 729))) (zk_Sorts_12 M q a0) 56 [some (.ref q), some (.ref a0)] [] _
  have kn12 : zf (zk_Sorts_12 M q a0) q 4 = some (zn (zk_Sorts_9 M q a0)) := zup2_s
  refine zw_aload_n (pc := 56) (n := 0) (x := q) rfl (zdal_p dlA_Sorts_init_10 (i := 2) rfl) ?_
  refine zw_new (pc := 57) (ci := 2) (by decide) n_Sorts_9 (by have := he12.1; omega) (by have := he12.1; show _ ≤ zn M + 10; omega) (by have := he12.2.1; show _ + 1 ≤ zw M + (0 + 1 + (0 + 35) + 1 + (0 + 35) + 1 + (0 + 35) + 1 + (0 + 27) + 1 + (0 + 729)); omega) (by decide) (zdal_p dlA_Sorts_init_10 (i := 3) rfl) ?_
  have he13 : zExt M (zk_Sorts_13 M q a0) 9 (0 + 1 + (0 + 35) + 1 + (0 + 35) + 1 + (0 + 35) + 1 + (0 + 27) + 1) q := he12.al
  have kf13_1 : zf (zk_Sorts_13 M q a0) q 1 = some (zn (M)) := (congrFun (zal_old (by have := he12.1; (exact zo_1497 hm hq this))).2 1).trans kf12_1
  have kf13_2 : zf (zk_Sorts_13 M q a0) q 2 = some (zn (zk_Sorts_3 M q a0)) := (congrFun (zal_old (by have := he12.1; (exact zo_1497 hm hq this))).2 2).trans kf12_2
  have kf13_3 : zf (zk_Sorts_13 M q a0) q 3 = some (zn (zk_Sorts_6 M q a0)) := (congrFun (zal_old (by have := he12.1; (exact zo_1497 hm hq this))).2 3).trans kf12_3
  have kf13_4 : zf (zk_Sorts_13 M q a0) q 4 = some (zn (zk_Sorts_9 M q a0)) := (congrFun (zal_old (by have := he12.1; (exact zo_1497 hm hq this))).2 4).trans kn12
  show zW l m_Sorts_init (zn M + 10, zw M + (0 + 1 + (0 + 35) + 1 + (0 + 35) + 1 + (0 + 35) + 1 + (0 + 27) + 1 + (0 + 729))) (zk_Sorts_13 M q a0) 60 [some (.ref q), some (.ref a0)] [.ref (zn (zk_Sorts_12 M q a0)), .ref q] _
  refine zw_dup (pc := 60) rfl (zdal_p dlA_Sorts_init_10 (i := 4) rfl) ?_
  refine zw_sipush (pc := 61) (v := nI 729) (by decide) (zdal_p dlA_Sorts_init_10 (i := 5) rfl) ?_
  refine zw_callI (pc := 64) (mc := 1) (ms := (0 + 729)) (b := zn (zk_Sorts_12 M q a0)) [.int (nI 729)] [.ref (zn (zk_Sorts_12 M q a0)), .ref q] l_Sorts_11 (k_IntRow l (zk_Sorts_13 M q a0) (zn (zk_Sorts_12 M q a0)) (by have := he13.1; show zn (zk_Sorts_12 M q a0) < zn (zk_Sorts_12 M q a0) + 1; (exact zo_1083)) (congrArg Prod.fst (zal_sh (M := zk_Sorts_12 M q a0) (t := 5) (n := 1))) 729 (by decide) (by have := he13.1; omega)) rfl rfl (by decide) ⟨by have := he13.1; show _ ≤ zn M + 10; omega, by have := he13.2.1; show _ ≤ zw M + (0 + 1 + (0 + 35) + 1 + (0 + 35) + 1 + (0 + 35) + 1 + (0 + 27) + 1 + (0 + 729)); omega⟩ (Nat.le_of_ble_eq_true rfl) (zdal_p dlA_Sorts_init_10 (i := 6) rfl) (fun r M9 h9 _ _ => ?_)
  obtain ⟨rfl, rfl⟩ := h9
  have he14 : zExt M (zk_Sorts_14 M q a0) 10 (0 + 1 + (0 + 35) + 1 + (0 + 35) + 1 + (0 + 35) + 1 + (0 + 27) + 1 + (0 + 729)) q := he13.call (ext_IntRow (zk_Sorts_13 M q a0) (zn (zk_Sorts_12 M q a0)) 729) (by have := he12.1; omega)
  have kf14_1 : zf (zk_Sorts_14 M q a0) q 1 = some (zn (M)) := (congrFun ((ext_IntRow (zk_Sorts_13 M q a0) (zn (zk_Sorts_12 M q a0)) 729).2.2.2 q (by have := he13.1; (exact zo_1502 hm hq this)) (by have := he12.1; (exact zo_1503 hq this))) 1).trans kf13_1
  have kf14_2 : zf (zk_Sorts_14 M q a0) q 2 = some (zn (zk_Sorts_3 M q a0)) := (congrFun ((ext_IntRow (zk_Sorts_13 M q a0) (zn (zk_Sorts_12 M q a0)) 729).2.2.2 q (by have := he13.1; (exact zo_1502 hm hq this)) (by have := he12.1; (exact zo_1503 hq this))) 2).trans kf13_2
  have kf14_3 : zf (zk_Sorts_14 M q a0) q 3 = some (zn (zk_Sorts_6 M q a0)) := (congrFun ((ext_IntRow (zk_Sorts_13 M q a0) (zn (zk_Sorts_12 M q a0)) 729).2.2.2 q (by have := he13.1; (exact zo_1502 hm hq this)) (by have := he12.1; (exact zo_1503 hq this))) 3).trans kf13_3
  have kf14_4 : zf (zk_Sorts_14 M q a0) q 4 = some (zn (zk_Sorts_9 M q a0)) := (congrFun ((ext_IntRow (zk_Sorts_13 M q a0) (zn (zk_Sorts_12 M q a0)) 729).2.2.2 q (by have := he13.1; (exact zo_1502 hm hq this)) (by have := he12.1; (exact zo_1503 hq this))) 4).trans kf13_4
  show zW l m_Sorts_init (zn M + 10, zw M + (0 + 1 + (0 + 35) + 1 + (0 + 35) + 1 + (0 + 35) + 1 + (0 + 27) + 1 + (0 + 729))) (zk_Sorts_14 M q a0) 67 [some (.ref q), some (.ref a0)] [.ref (zn (zk_Sorts_12 M q a0)), .ref q] _
  refine zw_putR (pc := 67) (x := zn (zk_Sorts_12 M q a0)) (Or.inr ⟨g_Sorts_29, rfl, rfl, rfl⟩) rfl (he14.q hq hqk) (fun _ => rfl) (fun _ => rfl) (zdal_p dlA_Sorts_init_10 (i := 7) rfl) ?_
  have he15 : zExt M (zk_Sorts_15 M q a0) 10 (0 + 1 + (0 + 35) + 1 + (0 + 35) + 1 + (0 + 35) + 1 + (0 + 27) + 1 + (0 + 729)) q := he14.put
  have kf15_1 : zf (zk_Sorts_15 M q a0) q 1 = some (zn (M)) := (zup2_n (fun z => absurd z.2 (by decide))).trans kf14_1
  have kf15_2 : zf (zk_Sorts_15 M q a0) q 2 = some (zn (zk_Sorts_3 M q a0)) := (zup2_n (fun z => absurd z.2 (by decide))).trans kf14_2
  have kf15_3 : zf (zk_Sorts_15 M q a0) q 3 = some (zn (zk_Sorts_6 M q a0)) := (zup2_n (fun z => absurd z.2 (by decide))).trans kf14_3
  have kf15_4 : zf (zk_Sorts_15 M q a0) q 4 = some (zn (zk_Sorts_9 M q a0)) := (zup2_n (fun z => absurd z.2 (by decide))).trans kf14_4
  show zW l m_Sorts_init (zn M + 10, zw M + (0 + 1 + (0 + 35) + 1 + (0 + 35) + 1 + (0 + 35) + 1 + (0 + 27) + 1 + (0 + 729))) (zk_Sorts_15 M q a0) 70 [some (.ref q), some (.ref a0)] [] _
  have kn15 : zf (zk_Sorts_15 M q a0) q 5 = some (zn (zk_Sorts_12 M q a0)) := zup2_s
  refine zw_aload_n (pc := 70) (n := 0) (x := q) rfl (zdal_p dlA_Sorts_init_10 (i := 8) rfl) ?_
  refine zw_aload_n (pc := 71) (n := 1) (x := a0) rfl (zdal_p dlA_Sorts_init_10 (i := 9) rfl) ?_
  refine zw_putR (pc := 72) (x := a0) (Or.inr ⟨g_Sorts_32, rfl, rfl, rfl⟩) rfl (he15.q hq hqk) (fun _ => rfl) (fun _ => rfl) (zdal_p dlA_Sorts_init_10 (i := 10) rfl) ?_
  have he16 : zExt M (zk_Sorts_16 M q a0) 10 (0 + 1 + (0 + 35) + 1 + (0 + 35) + 1 + (0 + 35) + 1 + (0 + 27) + 1 + (0 + 729)) q := he15.put
  have kf16_1 : zf (zk_Sorts_16 M q a0) q 1 = some (zn (M)) := (zup2_n (fun z => absurd z.2 (by decide))).trans kf15_1
  have kf16_2 : zf (zk_Sorts_16 M q a0) q 2 = some (zn (zk_Sorts_3 M q a0)) := (zup2_n (fun z => absurd z.2 (by decide))).trans kf15_2
  have kf16_3 : zf (zk_Sorts_16 M q a0) q 3 = some (zn (zk_Sorts_6 M q a0)) := (zup2_n (fun z => absurd z.2 (by decide))).trans kf15_3
  have kf16_4 : zf (zk_Sorts_16 M q a0) q 4 = some (zn (zk_Sorts_9 M q a0)) := (zup2_n (fun z => absurd z.2 (by decide))).trans kf15_4
  have kf16_5 : zf (zk_Sorts_16 M q a0) q 5 = some (zn (zk_Sorts_12 M q a0)) := (zup2_n (fun z => absurd z.2 (by decide))).trans kn15
  show zW l m_Sorts_init (zn M + 10, zw M + (0 + 1 + (0 + 35) + 1 + (0 + 35) + 1 + (0 + 35) + 1 + (0 + 27) + 1 + (0 + 729))) (zk_Sorts_16 M q a0) 75 [some (.ref q), some (.ref a0)] [] _
  have kn16 : zf (zk_Sorts_16 M q a0) q 0 = some (a0) := zup2_s
  exact zw_vret (S := []) (pc := 75) rfl (zdal_p dlA_Sorts_init_10 (i := 11) rfl) ⟨rfl, rfl⟩
def zk_Sums_1 (M : zMem) (q : Nat) (a0 : Nat) : zMem := zal (M) 11 1
def zk_Sums_2 (M : zMem) (q : Nat) (a0 : Nat) : zMem := zk_LongRow (zk_Sums_1 M q a0) (zn (M)) 1080
def zk_Sums_3 (M : zMem) (q : Nat) (a0 : Nat) : zMem := zsF (zk_Sums_2 M q a0) q 1 (some (zn (M)))
def zk_Sums_4 (M : zMem) (q : Nat) (a0 : Nat) : zMem := zal (zk_Sums_3 M q a0) 11 1
def zk_Sums_5 (M : zMem) (q : Nat) (a0 : Nat) : zMem := zk_LongRow (zk_Sums_4 M q a0) (zn (zk_Sums_3 M q a0)) 27
def zk_Sums_6 (M : zMem) (q : Nat) (a0 : Nat) : zMem := zsF (zk_Sums_5 M q a0) q 2 (some (zn (zk_Sums_3 M q a0)))
def zk_Sums_7 (M : zMem) (q : Nat) (a0 : Nat) : zMem := zsF (zk_Sums_6 M q a0) q 0 (some (a0))
def zk_Sums (M : zMem) (q : Nat) (a0 : Nat) : zMem := zk_Sums_7 M q a0
set_option maxRecDepth 20000 in
theorem ext_Sums (M : zMem) (q : Nat) (a0 : Nat) : zExt M (zk_Sums M q a0) 4 (0 + 1 + (0 + 1080) + 1 + (0 + 27)) q := by
  have he0 : zExt M M 0 0 q := zExt.rf
  have he1 : zExt M (zk_Sums_1 M q a0) 1 (0 + 1) q := he0.al
  have he2 : zExt M (zk_Sums_2 M q a0) 2 (0 + 1 + (0 + 1080)) q := he1.call (ext_LongRow (zk_Sums_1 M q a0) (zn (M)) 1080) (by have := he0.1; (exact zo_1447))
  have he3 : zExt M (zk_Sums_3 M q a0) 2 (0 + 1 + (0 + 1080)) q := he2.put
  have he4 : zExt M (zk_Sums_4 M q a0) 3 (0 + 1 + (0 + 1080) + 1) q := he3.al
  have he5 : zExt M (zk_Sums_5 M q a0) 4 (0 + 1 + (0 + 1080) + 1 + (0 + 27)) q := he4.call (ext_LongRow (zk_Sums_4 M q a0) (zn (zk_Sums_3 M q a0)) 27) (by have := he3.1; (exact zo_1454 this))
  have he6 : zExt M (zk_Sums_6 M q a0) 4 (0 + 1 + (0 + 1080) + 1 + (0 + 27)) q := he5.put
  have he7 : zExt M (zk_Sums_7 M q a0) 4 (0 + 1 + (0 + 1080) + 1 + (0 + 27)) q := he6.put
  exact he7
set_option maxRecDepth 20000 in
set_option maxHeartbeats 4000000 in
theorem k_Sums (l : Launch) (M : zMem) (q : Nat) (hq : q < zn M) (hqk : (zsh M q).1 = 7 + 3) (a0 : Nat) (hm : zn M + 4 < 1000000) : zC l m_Sums_init 4 (0 + 1 + (0 + 1080) + 1 + (0 + 27)) [.ref q, .ref a0] M (fun r M' => r = none ∧ M' = zk_Sums M q a0) := by
  have hex := ext_Sums M q a0
  refine zC_of (L0 := [some (.ref q), some (.ref a0)]) md_Sums_init (Nat.le_of_ble_eq_true rfl) rfl ?_ (fun r M' h _ => by obtain ⟨-, rfl⟩ := h; exact ⟨hex.1, hex.2.1⟩)
  have he0 : zExt M M 0 0 q := zExt.rf
  refine zw_aload_n (pc := 0) (n := 0) (x := q) rfl (zdal_p dlA_Sums_init_11 (i := 0) rfl) ?_
  refine zw_objInit (pc := 1) o_Sums_5 o_in o_co (by decide) (Nat.le_of_ble_eq_true rfl) (zdal_p dlA_Sums_init_11 (i := 1) rfl) ?_
  refine zw_aload_n (pc := 4) (n := 0) (x := q) rfl (zdal_p dlA_Sums_init_11 (i := 2) rfl) ?_
  refine zw_new (pc := 5) (ci := 8) (by decide) n_Sums_11 (by have := he0.1; omega) (by have := he0.1; show _ ≤ zn M + 4; omega) (by have := he0.2.1; show _ + 1 ≤ zw M + (0 + 1 + (0 + 1080) + 1 + (0 + 27)); omega) (by decide) (zdal_p dlA_Sums_init_11 (i := 3) rfl) ?_
  have he1 : zExt M (zk_Sums_1 M q a0) 1 (0 + 1) q := he0.al
  show zW l m_Sums_init (zn M + 4, zw M + (0 + 1 + (0 + 1080) + 1 + (0 + 27))) (zk_Sums_1 M q a0) 8 [some (.ref q), some (.ref a0)] [.ref (zn (M)), .ref q] _
  refine zw_dup (pc := 8) rfl (zdal_p dlA_Sums_init_11 (i := 4) rfl) ?_
  refine zw_sipush (pc := 9) (v := nI 1080) (by decide) (zdal_p dlA_Sums_init_11 (i := 5) rfl) ?_
  refine zw_callI (pc := 12) (mc := 1) (ms := (0 + 1080)) (b := zn (M)) [.int (nI 1080)] [.ref (zn (M)), .ref q] l_Sums_13 (k_LongRow l (zk_Sums_1 M q a0) (zn (M)) (by have := he1.1; show zn (M) < zn (M) + 1; (exact zo_1083)) (congrArg Prod.fst (zal_sh (M := M) (t := 11) (n := 1))) 1080 (by decide) (by have := he1.1; omega)) rfl rfl (by decide) ⟨by have := he1.1; show _ ≤ zn M + 4; omega, by have := he1.2.1; show _ ≤ zw M + (0 + 1 + (0 + 1080) + 1 + (0 + 27)); omega⟩ (Nat.le_of_ble_eq_true rfl) (zdal_p dlA_Sums_init_11 (i := 6) rfl) (fun r M9 h9 _ _ => ?_)
  obtain ⟨rfl, rfl⟩ := h9
  have he2 : zExt M (zk_Sums_2 M q a0) 2 (0 + 1 + (0 + 1080)) q := he1.call (ext_LongRow (zk_Sums_1 M q a0) (zn (M)) 1080) (by have := he0.1; (exact zo_1447))
  show zW l m_Sums_init (zn M + 4, zw M + (0 + 1 + (0 + 1080) + 1 + (0 + 27))) (zk_Sums_2 M q a0) 15 [some (.ref q), some (.ref a0)] [.ref (zn (M)), .ref q] _
  refine zw_putR (pc := 15) (x := zn (M)) (Or.inr ⟨g_Sums_16, rfl, rfl, rfl⟩) rfl (he2.q hq hqk) (fun _ => rfl) (fun _ => rfl) (zdal_p dlA_Sums_init_11 (i := 7) rfl) ?_
  have he3 : zExt M (zk_Sums_3 M q a0) 2 (0 + 1 + (0 + 1080)) q := he2.put
  show zW l m_Sums_init (zn M + 4, zw M + (0 + 1 + (0 + 1080) + 1 + (0 + 27))) (zk_Sums_3 M q a0) 18 [some (.ref q), some (.ref a0)] [] _
  have kn3 : zf (zk_Sums_3 M q a0) q 1 = some (zn (M)) := zup2_s
  refine zw_aload_n (pc := 18) (n := 0) (x := q) rfl (zdal_p dlA_Sums_init_11 (i := 8) rfl) ?_
  refine zw_new (pc := 19) (ci := 8) (by decide) n_Sums_11 (by have := he3.1; omega) (by have := he3.1; show _ ≤ zn M + 4; omega) (by have := he3.2.1; show _ + 1 ≤ zw M + (0 + 1 + (0 + 1080) + 1 + (0 + 27)); omega) (by decide) (zdal_p dlA_Sums_init_11 (i := 9) rfl) ?_
  have he4 : zExt M (zk_Sums_4 M q a0) 3 (0 + 1 + (0 + 1080) + 1) q := he3.al
  have kf4_1 : zf (zk_Sums_4 M q a0) q 1 = some (zn (M)) := (congrFun (zal_old (by have := he3.1; omega)).2 1).trans kn3
  show zW l m_Sums_init (zn M + 4, zw M + (0 + 1 + (0 + 1080) + 1 + (0 + 27))) (zk_Sums_4 M q a0) 22 [some (.ref q), some (.ref a0)] [.ref (zn (zk_Sums_3 M q a0)), .ref q] _
  refine zw_dup (pc := 22) rfl (zdal_p dlA_Sums_init_11 (i := 10) rfl) ?_
  refine zw_bipush (pc := 23) (v := nI 27) (by decide) (zdal_p dlA_Sums_init_11 (i := 11) rfl) ?_
  refine zw_callI (pc := 25) (mc := 1) (ms := (0 + 27)) (b := zn (zk_Sums_3 M q a0)) [.int (nI 27)] [.ref (zn (zk_Sums_3 M q a0)), .ref q] l_Sums_13 (k_LongRow l (zk_Sums_4 M q a0) (zn (zk_Sums_3 M q a0)) (by have := he4.1; show zn (zk_Sums_3 M q a0) < zn (zk_Sums_3 M q a0) + 1; (exact zo_1083)) (congrArg Prod.fst (zal_sh (M := zk_Sums_3 M q a0) (t := 11) (n := 1))) 27 (by decide) (by have := he4.1; omega)) rfl rfl (by decide) ⟨by have := he4.1; show _ ≤ zn M + 4; omega, by have := he4.2.1; show _ ≤ zw M + (0 + 1 + (0 + 1080) + 1 + (0 + 27)); omega⟩ (Nat.le_of_ble_eq_true rfl) (zdal_p dlA_Sums_init_11 (i := 12) rfl) (fun r M9 h9 _ _ => ?_)
  obtain ⟨rfl, rfl⟩ := h9
  have he5 : zExt M (zk_Sums_5 M q a0) 4 (0 + 1 + (0 + 1080) + 1 + (0 + 27)) q := he4.call (ext_LongRow (zk_Sums_4 M q a0) (zn (zk_Sums_3 M q a0)) 27) (by have := he3.1; omega)
  have kf5_1 : zf (zk_Sums_5 M q a0) q 1 = some (zn (M)) := (congrFun ((ext_LongRow (zk_Sums_4 M q a0) (zn (zk_Sums_3 M q a0)) 27).2.2.2 q (by have := he4.1; omega) (by have := he3.1; (exact zo_1473 hq this))) 1).trans kf4_1
  show zW l m_Sums_init (zn M + 4, zw M + (0 + 1 + (0 + 1080) + 1 + (0 + 27))) (zk_Sums_5 M q a0) 28 [some (.ref q), some (.ref a0)] [.ref (zn (zk_Sums_3 M q a0)), .ref q] _
  refine zw_putR (pc := 28) (x := zn (zk_Sums_3 M q a0)) (Or.inr ⟨g_Sums_20, rfl, rfl, rfl⟩) rfl (he5.q hq hqk) (fun _ => rfl) (fun _ => rfl) (zdal_p dlA_Sums_init_11 (i := 13) rfl) ?_
  have he6 : zExt M (zk_Sums_6 M q a0) 4 (0 + 1 + (0 + 1080) + 1 + (0 + 27)) q := he5.put
  have kf6_1 : zf (zk_Sums_6 M q a0) q 1 = some (zn (M)) := (zup2_n (fun z => absurd z.2 (by decide))).trans kf5_1
  show zW l m_Sums_init (zn M + 4, zw M + (0 + 1 + (0 + 1080) + 1 + (0 + 27))) (zk_Sums_6 M q a0) 31 [some (.ref q), some (.ref a0)] [] _
  have kn6 : zf (zk_Sums_6 M q a0) q 2 = some (zn (zk_Sums_3 M q a0)) := zup2_s
  refine zw_aload_n (pc := 31) (n := 0) (x := q) rfl (zdal_p dlA_Sums_init_11 (i := 14) rfl) ?_
  refine zw_aload_n (pc := 32) (n := 1) (x := a0) rfl (zdal_p dlA_Sums_init_11 (i := 15) rfl) ?_
  refine zw_putR (pc := 33) (x := a0) (Or.inr ⟨g_Sums_23, rfl, rfl, rfl⟩) rfl (he6.q hq hqk) (fun _ => rfl) (fun _ => rfl) (zdal_p dlA_Sums_init_11 (i := 16) rfl) ?_
  have he7 : zExt M (zk_Sums_7 M q a0) 4 (0 + 1 + (0 + 1080) + 1 + (0 + 27)) q := he6.put
  have kf7_1 : zf (zk_Sums_7 M q a0) q 1 = some (zn (M)) := (zup2_n (fun z => absurd z.2 (by decide))).trans kf6_1
  have kf7_2 : zf (zk_Sums_7 M q a0) q 2 = some (zn (zk_Sums_3 M q a0)) := (zup2_n (fun z => absurd z.2 (by decide))).trans kn6
  show zW l m_Sums_init (zn M + 4, zw M + (0 + 1 + (0 + 1080) + 1 + (0 + 27))) (zk_Sums_7 M q a0) 36 [some (.ref q), some (.ref a0)] [] _
  have kn7 : zf (zk_Sums_7 M q a0) q 0 = some (a0) := zup2_s
  exact zw_vret (S := []) (pc := 36) rfl (zdal_p dlA_Sums_init_11 (i := 17) rfl) ⟨rfl, rfl⟩
def zk_Units_1 (M : zMem) (q : Nat) (a0 : Nat) : zMem := zal (M) 5 1
def zk_Units_2 (M : zMem) (q : Nat) (a0 : Nat) : zMem := zk_IntRow (zk_Units_1 M q a0) (zn (M)) 27
def zk_Units_3 (M : zMem) (q : Nat) (a0 : Nat) : zMem := zsF (zk_Units_2 M q a0) q 1 (some (zn (M)))
def zk_Units_4 (M : zMem) (q : Nat) (a0 : Nat) : zMem := zal (zk_Units_3 M q a0) 5 1
def zk_Units_5 (M : zMem) (q : Nat) (a0 : Nat) : zMem := zk_IntRow (zk_Units_4 M q a0) (zn (zk_Units_3 M q a0)) 24
def zk_Units_6 (M : zMem) (q : Nat) (a0 : Nat) : zMem := zsF (zk_Units_5 M q a0) q 2 (some (zn (zk_Units_3 M q a0)))
def zk_Units_7 (M : zMem) (q : Nat) (a0 : Nat) : zMem := zsF (zk_Units_6 M q a0) q 0 (some (a0))
def zk_Units (M : zMem) (q : Nat) (a0 : Nat) : zMem := zk_Units_7 M q a0
set_option maxRecDepth 20000 in
theorem ext_Units (M : zMem) (q : Nat) (a0 : Nat) : zExt M (zk_Units M q a0) 4 (0 + 1 + (0 + 27) + 1 + (0 + 24)) q := by
  have he0 : zExt M M 0 0 q := zExt.rf
  have he1 : zExt M (zk_Units_1 M q a0) 1 (0 + 1) q := he0.al
  have he2 : zExt M (zk_Units_2 M q a0) 2 (0 + 1 + (0 + 27)) q := he1.call (ext_IntRow (zk_Units_1 M q a0) (zn (M)) 27) (by have := he0.1; (exact zo_1447))
  have he3 : zExt M (zk_Units_3 M q a0) 2 (0 + 1 + (0 + 27)) q := he2.put
  have he4 : zExt M (zk_Units_4 M q a0) 3 (0 + 1 + (0 + 27) + 1) q := he3.al
  have he5 : zExt M (zk_Units_5 M q a0) 4 (0 + 1 + (0 + 27) + 1 + (0 + 24)) q := he4.call (ext_IntRow (zk_Units_4 M q a0) (zn (zk_Units_3 M q a0)) 24) (by have := he3.1; (exact zo_1454 this))
  have he6 : zExt M (zk_Units_6 M q a0) 4 (0 + 1 + (0 + 27) + 1 + (0 + 24)) q := he5.put
  have he7 : zExt M (zk_Units_7 M q a0) 4 (0 + 1 + (0 + 27) + 1 + (0 + 24)) q := he6.put
  exact he7
set_option maxRecDepth 20000 in
set_option maxHeartbeats 4000000 in
theorem k_Units (l : Launch) (M : zMem) (q : Nat) (hq : q < zn M) (hqk : (zsh M q).1 = 9 + 3) (a0 : Nat) (hm : zn M + 4 < 1000000) : zC l m_Units_init 4 (0 + 1 + (0 + 27) + 1 + (0 + 24)) [.ref q, .ref a0] M (fun r M' => r = none ∧ M' = zk_Units M q a0) := by
  have hex := ext_Units M q a0
  refine zC_of (L0 := [some (.ref q), some (.ref a0)]) md_Units_init (Nat.le_of_ble_eq_true rfl) rfl ?_ (fun r M' h _ => by obtain ⟨-, rfl⟩ := h; exact ⟨hex.1, hex.2.1⟩)
  have he0 : zExt M M 0 0 q := zExt.rf
  refine zw_aload_n (pc := 0) (n := 0) (x := q) rfl (zdal_p dlA_Units_init_13 (i := 0) rfl) ?_
  refine zw_objInit (pc := 1) o_Units_3 o_in o_co (by decide) (Nat.le_of_ble_eq_true rfl) (zdal_p dlA_Units_init_13 (i := 1) rfl) ?_
  refine zw_aload_n (pc := 4) (n := 0) (x := q) rfl (zdal_p dlA_Units_init_13 (i := 2) rfl) ?_
  refine zw_new (pc := 5) (ci := 2) (by decide) n_Units_9 (by have := he0.1; omega) (by have := he0.1; show _ ≤ zn M + 4; omega) (by have := he0.2.1; show _ + 1 ≤ zw M + (0 + 1 + (0 + 27) + 1 + (0 + 24)); omega) (by decide) (zdal_p dlA_Units_init_13 (i := 3) rfl) ?_
  have he1 : zExt M (zk_Units_1 M q a0) 1 (0 + 1) q := he0.al
  show zW l m_Units_init (zn M + 4, zw M + (0 + 1 + (0 + 27) + 1 + (0 + 24))) (zk_Units_1 M q a0) 8 [some (.ref q), some (.ref a0)] [.ref (zn (M)), .ref q] _
  refine zw_dup (pc := 8) rfl (zdal_p dlA_Units_init_13 (i := 4) rfl) ?_
  refine zw_bipush (pc := 9) (v := nI 27) (by decide) (zdal_p dlA_Units_init_13 (i := 5) rfl) ?_
  refine zw_callI (pc := 11) (mc := 1) (ms := (0 + 27)) (b := zn (M)) [.int (nI 27)] [.ref (zn (M)), .ref q] l_Units_11 (k_IntRow l (zk_Units_1 M q a0) (zn (M)) (by have := he1.1; show zn (M) < zn (M) + 1; (exact zo_1083)) (congrArg Prod.fst (zal_sh (M := M) (t := 5) (n := 1))) 27 (by decide) (by have := he1.1; omega)) rfl rfl (by decide) ⟨by have := he1.1; show _ ≤ zn M + 4; omega, by have := he1.2.1; show _ ≤ zw M + (0 + 1 + (0 + 27) + 1 + (0 + 24)); omega⟩ (Nat.le_of_ble_eq_true rfl) (zdal_p dlA_Units_init_13 (i := 6) rfl) (fun r M9 h9 _ _ => ?_)
  obtain ⟨rfl, rfl⟩ := h9
  have he2 : zExt M (zk_Units_2 M q a0) 2 (0 + 1 + (0 + 27)) q := he1.call (ext_IntRow (zk_Units_1 M q a0) (zn (M)) 27) (by have := he0.1; (exact zo_1447))
  show zW l m_Units_init (zn M + 4, zw M + (0 + 1 + (0 + 27) + 1 + (0 + 24))) (zk_Units_2 M q a0) 14 [some (.ref q), some (.ref a0)] [.ref (zn (M)), .ref q] _
  refine zw_putR (pc := 14) (x := zn (M)) (Or.inr ⟨g_Units_14, rfl, rfl, rfl⟩) rfl (he2.q hq hqk) (fun _ => rfl) (fun _ => rfl) (zdal_p dlA_Units_init_13 (i := 7) rfl) ?_
  have he3 : zExt M (zk_Units_3 M q a0) 2 (0 + 1 + (0 + 27)) q := he2.put
  show zW l m_Units_init (zn M + 4, zw M + (0 + 1 + (0 + 27) + 1 + (0 + 24))) (zk_Units_3 M q a0) 17 [some (.ref q), some (.ref a0)] [] _
  have kn3 : zf (zk_Units_3 M q a0) q 1 = some (zn (M)) := zup2_s
  refine zw_aload_n (pc := 17) (n := 0) (x := q) rfl (zdal_p dlA_Units_init_13 (i := 8) rfl) ?_
  refine zw_new (pc := 18) (ci := 2) (by decide) n_Units_9 (by have := he3.1; omega) (by have := he3.1; show _ ≤ zn M + 4; omega) (by have := he3.2.1; show _ + 1 ≤ zw M + (0 + 1 + (0 + 27) + 1 + (0 + 24)); omega) (by decide) (zdal_p dlA_Units_init_13 (i := 9) rfl) ?_
  have he4 : zExt M (zk_Units_4 M q a0) 3 (0 + 1 + (0 + 27) + 1) q := he3.al
  have kf4_1 : zf (zk_Units_4 M q a0) q 1 = some (zn (M)) := (congrFun (zal_old (by have := he3.1; omega)).2 1).trans kn3
  show zW l m_Units_init (zn M + 4, zw M + (0 + 1 + (0 + 27) + 1 + (0 + 24))) (zk_Units_4 M q a0) 21 [some (.ref q), some (.ref a0)] [.ref (zn (zk_Units_3 M q a0)), .ref q] _
  refine zw_dup (pc := 21) rfl (zdal_p dlA_Units_init_13 (i := 10) rfl) ?_
  refine zw_bipush (pc := 22) (v := nI 24) (by decide) (zdal_p dlA_Units_init_13 (i := 11) rfl) ?_
  refine zw_callI (pc := 24) (mc := 1) (ms := (0 + 24)) (b := zn (zk_Units_3 M q a0)) [.int (nI 24)] [.ref (zn (zk_Units_3 M q a0)), .ref q] l_Units_11 (k_IntRow l (zk_Units_4 M q a0) (zn (zk_Units_3 M q a0)) (by have := he4.1; show zn (zk_Units_3 M q a0) < zn (zk_Units_3 M q a0) + 1; (exact zo_1083)) (congrArg Prod.fst (zal_sh (M := zk_Units_3 M q a0) (t := 5) (n := 1))) 24 (by decide) (by have := he4.1; omega)) rfl rfl (by decide) ⟨by have := he4.1; show _ ≤ zn M + 4; omega, by have := he4.2.1; show _ ≤ zw M + (0 + 1 + (0 + 27) + 1 + (0 + 24)); omega⟩ (Nat.le_of_ble_eq_true rfl) (zdal_p dlA_Units_init_13 (i := 12) rfl) (fun r M9 h9 _ _ => ?_)
  obtain ⟨rfl, rfl⟩ := h9
  have he5 : zExt M (zk_Units_5 M q a0) 4 (0 + 1 + (0 + 27) + 1 + (0 + 24)) q := he4.call (ext_IntRow (zk_Units_4 M q a0) (zn (zk_Units_3 M q a0)) 24) (by have := he3.1; omega)
  have kf5_1 : zf (zk_Units_5 M q a0) q 1 = some (zn (M)) := (congrFun ((ext_IntRow (zk_Units_4 M q a0) (zn (zk_Units_3 M q a0)) 24).2.2.2 q (by have := he4.1; omega) (by have := he3.1; (exact zo_1473 hq this))) 1).trans kf4_1
  show zW l m_Units_init (zn M + 4, zw M + (0 + 1 + (0 + 27) + 1 + (0 + 24))) (zk_Units_5 M q a0) 27 [some (.ref q), some (.ref a0)] [.ref (zn (zk_Units_3 M q a0)), .ref q] _
  refine zw_putR (pc := 27) (x := zn (zk_Units_3 M q a0)) (Or.inr ⟨g_Units_20, rfl, rfl, rfl⟩) rfl (he5.q hq hqk) (fun _ => rfl) (fun _ => rfl) (zdal_p dlA_Units_init_13 (i := 13) rfl) ?_
  have he6 : zExt M (zk_Units_6 M q a0) 4 (0 + 1 + (0 + 27) + 1 + (0 + 24)) q := he5.put
  have kf6_1 : zf (zk_Units_6 M q a0) q 1 = some (zn (M)) := (zup2_n (fun z => absurd z.2 (by decide))).trans kf5_1
  show zW l m_Units_init (zn M + 4, zw M + (0 + 1 + (0 + 27) + 1 + (0 + 24))) (zk_Units_6 M q a0) 30 [some (.ref q), some (.ref a0)] [] _
  have kn6 : zf (zk_Units_6 M q a0) q 2 = some (zn (zk_Units_3 M q a0)) := zup2_s
  refine zw_aload_n (pc := 30) (n := 0) (x := q) rfl (zdal_p dlA_Units_init_13 (i := 14) rfl) ?_
  refine zw_aload_n (pc := 31) (n := 1) (x := a0) rfl (zdal_p dlA_Units_init_13 (i := 15) rfl) ?_
  refine zw_putR (pc := 32) (x := a0) (Or.inr ⟨g_Units_23, rfl, rfl, rfl⟩) rfl (he6.q hq hqk) (fun _ => rfl) (fun _ => rfl) (zdal_p dlA_Units_init_13 (i := 16) rfl) ?_
  have he7 : zExt M (zk_Units_7 M q a0) 4 (0 + 1 + (0 + 27) + 1 + (0 + 24)) q := he6.put
  have kf7_1 : zf (zk_Units_7 M q a0) q 1 = some (zn (M)) := (zup2_n (fun z => absurd z.2 (by decide))).trans kf6_1
  have kf7_2 : zf (zk_Units_7 M q a0) q 2 = some (zn (zk_Units_3 M q a0)) := (zup2_n (fun z => absurd z.2 (by decide))).trans kn6
  show zW l m_Units_init (zn M + 4, zw M + (0 + 1 + (0 + 27) + 1 + (0 + 24))) (zk_Units_7 M q a0) 35 [some (.ref q), some (.ref a0)] [] _
  have kn7 : zf (zk_Units_7 M q a0) q 0 = some (a0) := zup2_s
  exact zw_vret (S := []) (pc := 35) rfl (zdal_p dlA_Units_init_13 (i := 17) rfl) ⟨rfl, rfl⟩
def zk_Calc_1 (M : zMem) (q : Nat) (a0 : Nat) : zMem := zal (M) 5 1
def zk_Calc_2 (M : zMem) (q : Nat) (a0 : Nat) : zMem := zk_IntRow (zk_Calc_1 M q a0) (zn (M)) 24
def zk_Calc_3 (M : zMem) (q : Nat) (a0 : Nat) : zMem := zsF (zk_Calc_2 M q a0) q 1 (some (zn (M)))
def zk_Calc_4 (M : zMem) (q : Nat) (a0 : Nat) : zMem := zsF (zk_Calc_3 M q a0) q 0 (some (a0))
def zk_Calc (M : zMem) (q : Nat) (a0 : Nat) : zMem := zk_Calc_4 M q a0
set_option maxRecDepth 20000 in
theorem ext_Calc (M : zMem) (q : Nat) (a0 : Nat) : zExt M (zk_Calc M q a0) 2 (0 + 1 + (0 + 24)) q := by
  have he0 : zExt M M 0 0 q := zExt.rf
  have he1 : zExt M (zk_Calc_1 M q a0) 1 (0 + 1) q := he0.al
  have he2 : zExt M (zk_Calc_2 M q a0) 2 (0 + 1 + (0 + 24)) q := he1.call (ext_IntRow (zk_Calc_1 M q a0) (zn (M)) 24) (by have := he0.1; (exact zo_1447))
  have he3 : zExt M (zk_Calc_3 M q a0) 2 (0 + 1 + (0 + 24)) q := he2.put
  have he4 : zExt M (zk_Calc_4 M q a0) 2 (0 + 1 + (0 + 24)) q := he3.put
  exact he4
set_option maxRecDepth 20000 in
set_option maxHeartbeats 4000000 in
theorem k_Calc (l : Launch) (M : zMem) (q : Nat) (hq : q < zn M) (hqk : (zsh M q).1 = 10 + 3) (a0 : Nat) (hm : zn M + 2 < 1000000) : zC l m_Calc_init 2 (0 + 1 + (0 + 24)) [.ref q, .ref a0] M (fun r M' => r = none ∧ M' = zk_Calc M q a0) := by
  have hex := ext_Calc M q a0
  refine zC_of (L0 := [some (.ref q), some (.ref a0)]) md_Calc_init (Nat.le_of_ble_eq_true rfl) rfl ?_ (fun r M' h _ => by obtain ⟨-, rfl⟩ := h; exact ⟨hex.1, hex.2.1⟩)
  have he0 : zExt M M 0 0 q := zExt.rf
  refine zw_aload_n (pc := 0) (n := 0) (x := q) rfl (zdal_p dlA_Calc_init_14 (i := 0) rfl) ?_
  refine zw_objInit (pc := 1) o_Calc_3 o_in o_co (by decide) (Nat.le_of_ble_eq_true rfl) (zdal_p dlA_Calc_init_14 (i := 1) rfl) ?_
  refine zw_aload_n (pc := 4) (n := 0) (x := q) rfl (zdal_p dlA_Calc_init_14 (i := 2) rfl) ?_
  refine zw_new (pc := 5) (ci := 2) (by decide) n_Calc_9 (by have := he0.1; omega) (by have := he0.1; show _ ≤ zn M + 2; omega) (by have := he0.2.1; show _ + 1 ≤ zw M + (0 + 1 + (0 + 24)); omega) (by decide) (zdal_p dlA_Calc_init_14 (i := 3) rfl) ?_
  have he1 : zExt M (zk_Calc_1 M q a0) 1 (0 + 1) q := he0.al
  show zW l m_Calc_init (zn M + 2, zw M + (0 + 1 + (0 + 24))) (zk_Calc_1 M q a0) 8 [some (.ref q), some (.ref a0)] [.ref (zn (M)), .ref q] _
  refine zw_dup (pc := 8) rfl (zdal_p dlA_Calc_init_14 (i := 4) rfl) ?_
  refine zw_bipush (pc := 9) (v := nI 24) (by decide) (zdal_p dlA_Calc_init_14 (i := 5) rfl) ?_
  refine zw_callI (pc := 11) (mc := 1) (ms := (0 + 24)) (b := zn (M)) [.int (nI 24)] [.ref (zn (M)), .ref q] l_Calc_11 (k_IntRow l (zk_Calc_1 M q a0) (zn (M)) (by have := he1.1; show zn (M) < zn (M) + 1; (exact zo_1083)) (congrArg Prod.fst (zal_sh (M := M) (t := 5) (n := 1))) 24 (by decide) (by have := he1.1; omega)) rfl rfl (by decide) ⟨by have := he1.1; show _ ≤ zn M + 2; omega, by have := he1.2.1; show _ ≤ zw M + (0 + 1 + (0 + 24)); omega⟩ (Nat.le_of_ble_eq_true rfl) (zdal_p dlA_Calc_init_14 (i := 6) rfl) (fun r M9 h9 _ _ => ?_)
  obtain ⟨rfl, rfl⟩ := h9
  have he2 : zExt M (zk_Calc_2 M q a0) 2 (0 + 1 + (0 + 24)) q := he1.call (ext_IntRow (zk_Calc_1 M q a0) (zn (M)) 24) (by have := he0.1; (exact zo_1447))
  show zW l m_Calc_init (zn M + 2, zw M + (0 + 1 + (0 + 24))) (zk_Calc_2 M q a0) 14 [some (.ref q), some (.ref a0)] [.ref (zn (M)), .ref q] _
  refine zw_putR (pc := 14) (x := zn (M)) (Or.inr ⟨g_Calc_14, rfl, rfl, rfl⟩) rfl (he2.q hq hqk) (fun _ => rfl) (fun _ => rfl) (zdal_p dlA_Calc_init_14 (i := 7) rfl) ?_
  have he3 : zExt M (zk_Calc_3 M q a0) 2 (0 + 1 + (0 + 24)) q := he2.put
  show zW l m_Calc_init (zn M + 2, zw M + (0 + 1 + (0 + 24))) (zk_Calc_3 M q a0) 17 [some (.ref q), some (.ref a0)] [] _
  have kn3 : zf (zk_Calc_3 M q a0) q 1 = some (zn (M)) := zup2_s
  refine zw_aload_n (pc := 17) (n := 0) (x := q) rfl (zdal_p dlA_Calc_init_14 (i := 8) rfl) ?_
  refine zw_aload_n (pc := 18) (n := 1) (x := a0) rfl (zdal_p dlA_Calc_init_14 (i := 9) rfl) ?_
  refine zw_putR (pc := 19) (x := a0) (Or.inr ⟨g_Calc_20, rfl, rfl, rfl⟩) rfl (he3.q hq hqk) (fun _ => rfl) (fun _ => rfl) (zdal_p dlA_Calc_init_14 (i := 10) rfl) ?_
  have he4 : zExt M (zk_Calc_4 M q a0) 2 (0 + 1 + (0 + 24)) q := he3.put
  have kf4_1 : zf (zk_Calc_4 M q a0) q 1 = some (zn (M)) := (zup2_n (fun z => absurd z.2 (by decide))).trans kn3
  show zW l m_Calc_init (zn M + 2, zw M + (0 + 1 + (0 + 24))) (zk_Calc_4 M q a0) 22 [some (.ref q), some (.ref a0)] [] _
  have kn4 : zf (zk_Calc_4 M q a0) q 0 = some (a0) := zup2_s
  exact zw_vret (S := []) (pc := 22) rfl (zdal_p dlA_Calc_init_14 (i := 11) rfl) ⟨rfl, rfl⟩
def zk_Troupe_1 (M : zMem) (q : Nat)  : zMem := zal (M) 8 8
def zk_Troupe_2 (M : zMem) (q : Nat)  : zMem := zk_Group (zk_Troupe_1 M q ) (zn (M))
def zk_Troupe_3 (M : zMem) (q : Nat)  : zMem := zsF (zk_Troupe_2 M q ) q 0 (some (zn (M)))
def zk_Troupe_4 (M : zMem) (q : Nat)  : zMem := zal (zk_Troupe_3 M q ) 9 8
def zk_Troupe_5 (M : zMem) (q : Nat)  : zMem := zk_Sorts (zk_Troupe_4 M q ) (zn (zk_Troupe_3 M q )) (zn (M))
def zk_Troupe_6 (M : zMem) (q : Nat)  : zMem := zsF (zk_Troupe_5 M q ) q 1 (some (zn (zk_Troupe_3 M q )))
def zk_Troupe_7 (M : zMem) (q : Nat)  : zMem := zal (zk_Troupe_6 M q ) 10 3
def zk_Troupe_8 (M : zMem) (q : Nat)  : zMem := zk_Sums (zk_Troupe_7 M q ) (zn (zk_Troupe_6 M q )) (zn (zk_Troupe_3 M q ))
def zk_Troupe_9 (M : zMem) (q : Nat)  : zMem := zsF (zk_Troupe_8 M q ) q 2 (some (zn (zk_Troupe_6 M q )))
def zk_Troupe_10 (M : zMem) (q : Nat)  : zMem := zal (zk_Troupe_9 M q ) 12 5
def zk_Troupe_11 (M : zMem) (q : Nat)  : zMem := zk_Units (zk_Troupe_10 M q ) (zn (zk_Troupe_9 M q )) (zn (zk_Troupe_3 M q ))
def zk_Troupe_12 (M : zMem) (q : Nat)  : zMem := zsF (zk_Troupe_11 M q ) q 3 (some (zn (zk_Troupe_9 M q )))
def zk_Troupe_13 (M : zMem) (q : Nat)  : zMem := zal (zk_Troupe_12 M q ) 13 7
def zk_Troupe_14 (M : zMem) (q : Nat)  : zMem := zk_Calc (zk_Troupe_13 M q ) (zn (zk_Troupe_12 M q )) (zn (zk_Troupe_6 M q ))
def zk_Troupe_15 (M : zMem) (q : Nat)  : zMem := zsF (zk_Troupe_14 M q ) q 4 (some (zn (zk_Troupe_12 M q )))
def zk_Troupe_16 (M : zMem) (q : Nat)  : zMem := zal (zk_Troupe_15 M q ) 5 1
def zk_Troupe_17 (M : zMem) (q : Nat)  : zMem := zk_IntRow (zk_Troupe_16 M q ) (zn (zk_Troupe_15 M q )) 8
def zk_Troupe_18 (M : zMem) (q : Nat)  : zMem := zsF (zk_Troupe_17 M q ) q 5 (some (zn (zk_Troupe_15 M q )))
def zk_Troupe (M : zMem) (q : Nat)  : zMem := zk_Troupe_18 M q 
set_option maxRecDepth 20000 in
theorem ext_Troupe (M : zMem) (q : Nat)  : zExt M (zk_Troupe M q ) 37 (0 + 8 + (0 + 1 + (0 + 4) + 1 + (0 + 24) + 1 + (0 + 576) + 1 + (0 + 24) + 1 + (0 + 24)) + 8 + (0 + 1 + (0 + 35) + 1 + (0 + 35) + 1 + (0 + 35) + 1 + (0 + 27) + 1 + (0 + 729)) + 3 + (0 + 1 + (0 + 1080) + 1 + (0 + 27)) + 5 + (0 + 1 + (0 + 27) + 1 + (0 + 24)) + 7 + (0 + 1 + (0 + 24)) + 1 + (0 + 8)) q := by
  have he0 : zExt M M 0 0 q := zExt.rf
  have he1 : zExt M (zk_Troupe_1 M q ) 1 (0 + 8) q := he0.al
  have he2 : zExt M (zk_Troupe_2 M q ) 11 (0 + 8 + (0 + 1 + (0 + 4) + 1 + (0 + 24) + 1 + (0 + 576) + 1 + (0 + 24) + 1 + (0 + 24))) q := he1.call (ext_Group (zk_Troupe_1 M q ) (zn (M))) (by have := he0.1; (exact zo_1447))
  have he3 : zExt M (zk_Troupe_3 M q ) 11 (0 + 8 + (0 + 1 + (0 + 4) + 1 + (0 + 24) + 1 + (0 + 576) + 1 + (0 + 24) + 1 + (0 + 24))) q := he2.put
  have he4 : zExt M (zk_Troupe_4 M q ) 12 (0 + 8 + (0 + 1 + (0 + 4) + 1 + (0 + 24) + 1 + (0 + 576) + 1 + (0 + 24) + 1 + (0 + 24)) + 8) q := he3.al
  have he5 : zExt M (zk_Troupe_5 M q ) 22 (0 + 8 + (0 + 1 + (0 + 4) + 1 + (0 + 24) + 1 + (0 + 576) + 1 + (0 + 24) + 1 + (0 + 24)) + 8 + (0 + 1 + (0 + 35) + 1 + (0 + 35) + 1 + (0 + 35) + 1 + (0 + 27) + 1 + (0 + 729))) q := he4.call (ext_Sorts (zk_Troupe_4 M q ) (zn (zk_Troupe_3 M q )) (zn (M))) (by have := he3.1; omega)
  have he6 : zExt M (zk_Troupe_6 M q ) 22 (0 + 8 + (0 + 1 + (0 + 4) + 1 + (0 + 24) + 1 + (0 + 576) + 1 + (0 + 24) + 1 + (0 + 24)) + 8 + (0 + 1 + (0 + 35) + 1 + (0 + 35) + 1 + (0 + 35) + 1 + (0 + 27) + 1 + (0 + 729))) q := he5.put
  have he7 : zExt M (zk_Troupe_7 M q ) 23 (0 + 8 + (0 + 1 + (0 + 4) + 1 + (0 + 24) + 1 + (0 + 576) + 1 + (0 + 24) + 1 + (0 + 24)) + 8 + (0 + 1 + (0 + 35) + 1 + (0 + 35) + 1 + (0 + 35) + 1 + (0 + 27) + 1 + (0 + 729)) + 3) q := he6.al
  have he8 : zExt M (zk_Troupe_8 M q ) 27 (0 + 8 + (0 + 1 + (0 + 4) + 1 + (0 + 24) + 1 + (0 + 576) + 1 + (0 + 24) + 1 + (0 + 24)) + 8 + (0 + 1 + (0 + 35) + 1 + (0 + 35) + 1 + (0 + 35) + 1 + (0 + 27) + 1 + (0 + 729)) + 3 + (0 + 1 + (0 + 1080) + 1 + (0 + 27))) q := he7.call (ext_Sums (zk_Troupe_7 M q ) (zn (zk_Troupe_6 M q )) (zn (zk_Troupe_3 M q ))) (by have := he6.1; omega)
  have he9 : zExt M (zk_Troupe_9 M q ) 27 (0 + 8 + (0 + 1 + (0 + 4) + 1 + (0 + 24) + 1 + (0 + 576) + 1 + (0 + 24) + 1 + (0 + 24)) + 8 + (0 + 1 + (0 + 35) + 1 + (0 + 35) + 1 + (0 + 35) + 1 + (0 + 27) + 1 + (0 + 729)) + 3 + (0 + 1 + (0 + 1080) + 1 + (0 + 27))) q := he8.put
  have he10 : zExt M (zk_Troupe_10 M q ) 28 (0 + 8 + (0 + 1 + (0 + 4) + 1 + (0 + 24) + 1 + (0 + 576) + 1 + (0 + 24) + 1 + (0 + 24)) + 8 + (0 + 1 + (0 + 35) + 1 + (0 + 35) + 1 + (0 + 35) + 1 + (0 + 27) + 1 + (0 + 729)) + 3 + (0 + 1 + (0 + 1080) + 1 + (0 + 27)) + 5) q := he9.al
  have he11 : zExt M (zk_Troupe_11 M q ) 32 (0 + 8 + (0 + 1 + (0 + 4) + 1 + (0 + 24) + 1 + (0 + 576) + 1 + (0 + 24) + 1 + (0 + 24)) + 8 + (0 + 1 + (0 + 35) + 1 + (0 + 35) + 1 + (0 + 35) + 1 + (0 + 27) + 1 + (0 + 729)) + 3 + (0 + 1 + (0 + 1080) + 1 + (0 + 27)) + 5 + (0 + 1 + (0 + 27) + 1 + (0 + 24))) q := he10.call (ext_Units (zk_Troupe_10 M q ) (zn (zk_Troupe_9 M q )) (zn (zk_Troupe_3 M q ))) (by have := he9.1; omega)
  have he12 : zExt M (zk_Troupe_12 M q ) 32 (0 + 8 + (0 + 1 + (0 + 4) + 1 + (0 + 24) + 1 + (0 + 576) + 1 + (0 + 24) + 1 + (0 + 24)) + 8 + (0 + 1 + (0 + 35) + 1 + (0 + 35) + 1 + (0 + 35) + 1 + (0 + 27) + 1 + (0 + 729)) + 3 + (0 + 1 + (0 + 1080) + 1 + (0 + 27)) + 5 + (0 + 1 + (0 + 27) + 1 + (0 + 24))) q := he11.put
  have he13 : zExt M (zk_Troupe_13 M q ) 33 (0 + 8 + (0 + 1 + (0 + 4) + 1 + (0 + 24) + 1 + (0 + 576) + 1 + (0 + 24) + 1 + (0 + 24)) + 8 + (0 + 1 + (0 + 35) + 1 + (0 + 35) + 1 + (0 + 35) + 1 + (0 + 27) + 1 + (0 + 729)) + 3 + (0 + 1 + (0 + 1080) + 1 + (0 + 27)) + 5 + (0 + 1 + (0 + 27) + 1 + (0 + 24)) + 7) q := he12.al
  have he14 : zExt M (zk_Troupe_14 M q ) 35 (0 + 8 + (0 + 1 + (0 + 4) + 1 + (0 + 24) + 1 + (0 + 576) + 1 + (0 + 24) + 1 + (0 + 24)) + 8 + (0 + 1 + (0 + 35) + 1 + (0 + 35) + 1 + (0 + 35) + 1 + (0 + 27) + 1 + (0 + 729)) + 3 + (0 + 1 + (0 + 1080) + 1 + (0 + 27)) + 5 + (0 + 1 + (0 + 27) + 1 + (0 + 24)) + 7 + (0 + 1 + (0 + 24))) q := he13.call (ext_Calc (zk_Troupe_13 M q ) (zn (zk_Troupe_12 M q )) (zn (zk_Troupe_6 M q ))) (by have := he12.1; omega)
  have he15 : zExt M (zk_Troupe_15 M q ) 35 (0 + 8 + (0 + 1 + (0 + 4) + 1 + (0 + 24) + 1 + (0 + 576) + 1 + (0 + 24) + 1 + (0 + 24)) + 8 + (0 + 1 + (0 + 35) + 1 + (0 + 35) + 1 + (0 + 35) + 1 + (0 + 27) + 1 + (0 + 729)) + 3 + (0 + 1 + (0 + 1080) + 1 + (0 + 27)) + 5 + (0 + 1 + (0 + 27) + 1 + (0 + 24)) + 7 + (0 + 1 + (0 + 24))) q := he14.put
  have he16 : zExt M (zk_Troupe_16 M q ) 36 (0 + 8 + (0 + 1 + (0 + 4) + 1 + (0 + 24) + 1 + (0 + 576) + 1 + (0 + 24) + 1 + (0 + 24)) + 8 + (0 + 1 + (0 + 35) + 1 + (0 + 35) + 1 + (0 + 35) + 1 + (0 + 27) + 1 + (0 + 729)) + 3 + (0 + 1 + (0 + 1080) + 1 + (0 + 27)) + 5 + (0 + 1 + (0 + 27) + 1 + (0 + 24)) + 7 + (0 + 1 + (0 + 24)) + 1) q := he15.al
  have he17 : zExt M (zk_Troupe_17 M q ) 37 (0 + 8 + (0 + 1 + (0 + 4) + 1 + (0 + 24) + 1 + (0 + 576) + 1 + (0 + 24) + 1 + (0 + 24)) + 8 + (0 + 1 + (0 + 35) + 1 + (0 + 35) + 1 + (0 + 35) + 1 + (0 + 27) + 1 + (0 + 729)) + 3 + (0 + 1 + (0 + 1080) + 1 + (0 + 27)) + 5 + (0 + 1 + (0 + 27) + 1 + (0 + 24)) + 7 + (0 + 1 + (0 + 24)) + 1 + (0 + 8)) q := he16.call (ext_IntRow (zk_Troupe_16 M q ) (zn (zk_Troupe_15 M q )) 8) (by have := he15.1; omega)
  have he18 : zExt M (zk_Troupe_18 M q ) 37 (0 + 8 + (0 + 1 + (0 + 4) + 1 + (0 + 24) + 1 + (0 + 576) + 1 + (0 + 24) + 1 + (0 + 24)) + 8 + (0 + 1 + (0 + 35) + 1 + (0 + 35) + 1 + (0 + 35) + 1 + (0 + 27) + 1 + (0 + 729)) + 3 + (0 + 1 + (0 + 1080) + 1 + (0 + 27)) + 5 + (0 + 1 + (0 + 27) + 1 + (0 + 24)) + 7 + (0 + 1 + (0 + 24)) + 1 + (0 + 8)) q := he17.put
  exact he18
set_option maxRecDepth 20000 in
set_option maxHeartbeats 4000000 in
theorem k_Troupe (l : Launch) (M : zMem) (q : Nat) (hq : q < zn M) (hqk : (zsh M q).1 = 4 + 3)  (hm : zn M + 37 < 1000000) : zC l m_Troupe_init 37 (0 + 8 + (0 + 1 + (0 + 4) + 1 + (0 + 24) + 1 + (0 + 576) + 1 + (0 + 24) + 1 + (0 + 24)) + 8 + (0 + 1 + (0 + 35) + 1 + (0 + 35) + 1 + (0 + 35) + 1 + (0 + 27) + 1 + (0 + 729)) + 3 + (0 + 1 + (0 + 1080) + 1 + (0 + 27)) + 5 + (0 + 1 + (0 + 27) + 1 + (0 + 24)) + 7 + (0 + 1 + (0 + 24)) + 1 + (0 + 8)) [.ref q] M (fun r M' => r = none ∧ M' = zk_Troupe M q ) := by
  have hex := ext_Troupe M q 
  refine zC_of (L0 := [some (.ref q)]) md_Troupe_init (Nat.le_of_ble_eq_true rfl) rfl ?_ (fun r M' h _ => by obtain ⟨-, rfl⟩ := h; exact ⟨hex.1, hex.2.1⟩)
  have he0 : zExt M M 0 0 q := zExt.rf
  refine zw_aload_n (pc := 0) (n := 0) (x := q) rfl (zdal_p dlA_Troupe_init_5 (i := 0) rfl) ?_
  refine zw_objInit (pc := 1) o_Troupe_3 o_in o_co (by decide) (Nat.le_of_ble_eq_true rfl) (zdal_p dlA_Troupe_init_5 (i := 1) rfl) ?_
  refine zw_aload_n (pc := 4) (n := 0) (x := q) rfl (zdal_p dlA_Troupe_init_5 (i := 2) rfl) ?_
  refine zw_new (pc := 5) (ci := 5) (by decide) n_Troupe_9 (by have := he0.1; omega) (by have := he0.1; show _ ≤ zn M + 37; omega) (by have := he0.2.1; show _ + 8 ≤ zw M + (0 + 8 + (0 + 1 + (0 + 4) + 1 + (0 + 24) + 1 + (0 + 576) + 1 + (0 + 24) + 1 + (0 + 24)) + 8 + (0 + 1 + (0 + 35) + 1 + (0 + 35) + 1 + (0 + 35) + 1 + (0 + 27) + 1 + (0 + 729)) + 3 + (0 + 1 + (0 + 1080) + 1 + (0 + 27)) + 5 + (0 + 1 + (0 + 27) + 1 + (0 + 24)) + 7 + (0 + 1 + (0 + 24)) + 1 + (0 + 8)); omega) (by decide) (zdal_p dlA_Troupe_init_5 (i := 3) rfl) ?_
  have he1 : zExt M (zk_Troupe_1 M q ) 1 (0 + 8) q := he0.al
  show zW l m_Troupe_init (zn M + 37, zw M + (0 + 8 + (0 + 1 + (0 + 4) + 1 + (0 + 24) + 1 + (0 + 576) + 1 + (0 + 24) + 1 + (0 + 24)) + 8 + (0 + 1 + (0 + 35) + 1 + (0 + 35) + 1 + (0 + 35) + 1 + (0 + 27) + 1 + (0 + 729)) + 3 + (0 + 1 + (0 + 1080) + 1 + (0 + 27)) + 5 + (0 + 1 + (0 + 27) + 1 + (0 + 24)) + 7 + (0 + 1 + (0 + 24)) + 1 + (0 + 8))) (zk_Troupe_1 M q ) 8 [some (.ref q)] [.ref (zn (M)), .ref q] _
  refine zw_dup (pc := 8) rfl (zdal_p dlA_Troupe_init_5 (i := 4) rfl) ?_
  refine zw_callI (pc := 9) (mc := 10) (ms := (0 + 1 + (0 + 4) + 1 + (0 + 24) + 1 + (0 + 576) + 1 + (0 + 24) + 1 + (0 + 24))) (b := zn (M)) [] [.ref (zn (M)), .ref q] l_Troupe_11 (k_Group l (zk_Troupe_1 M q ) (zn (M)) (by have := he1.1; show zn (M) < zn (M) + 1; (exact zo_1083)) (congrArg Prod.fst (zal_sh (M := M) (t := 8) (n := 8)))  (by have := he1.1; omega)) rfl rfl (by decide) ⟨by have := he1.1; show _ ≤ zn M + 37; omega, by have := he1.2.1; show _ ≤ zw M + (0 + 8 + (0 + 1 + (0 + 4) + 1 + (0 + 24) + 1 + (0 + 576) + 1 + (0 + 24) + 1 + (0 + 24)) + 8 + (0 + 1 + (0 + 35) + 1 + (0 + 35) + 1 + (0 + 35) + 1 + (0 + 27) + 1 + (0 + 729)) + 3 + (0 + 1 + (0 + 1080) + 1 + (0 + 27)) + 5 + (0 + 1 + (0 + 27) + 1 + (0 + 24)) + 7 + (0 + 1 + (0 + 24)) + 1 + (0 + 8)); omega⟩ (Nat.le_of_ble_eq_true rfl) (zdal_p dlA_Troupe_init_5 (i := 5) rfl) (fun r M9 h9 _ _ => ?_)
  obtain ⟨rfl, rfl⟩ := h9
  have he2 : zExt M (zk_Troupe_2 M q ) 11 (0 + 8 + (0 + 1 + (0 + 4) + 1 + (0 + 24) + 1 + (0 + 576) + 1 + (0 + 24) + 1 + (0 + 24))) q := he1.call (ext_Group (zk_Troupe_1 M q ) (zn (M))) (by have := he0.1; (exact zo_1447))
  show zW l m_Troupe_init (zn M + 37, zw M + (0 + 8 + (0 + 1 + (0 + 4) + 1 + (0 + 24) + 1 + (0 + 576) + 1 + (0 + 24) + 1 + (0 + 24)) + 8 + (0 + 1 + (0 + 35) + 1 + (0 + 35) + 1 + (0 + 35) + 1 + (0 + 27) + 1 + (0 + 729)) + 3 + (0 + 1 + (0 + 1080) + 1 + (0 + 27)) + 5 + (0 + 1 + (0 + 27) + 1 + (0 + 24)) + 7 + (0 + 1 + (0 + 24)) + 1 + (0 + 8))) (zk_Troupe_2 M q ) 12 [some (.ref q)] [.ref (zn (M)), .ref q] _
  refine zw_putR (pc := 12) (x := zn (M)) (Or.inr ⟨g_Troupe_12, rfl, rfl, rfl⟩) rfl (he2.q hq hqk) (fun _ => rfl) (fun _ => rfl) (zdal_p dlA_Troupe_init_5 (i := 6) rfl) ?_
  have he3 : zExt M (zk_Troupe_3 M q ) 11 (0 + 8 + (0 + 1 + (0 + 4) + 1 + (0 + 24) + 1 + (0 + 576) + 1 + (0 + 24) + 1 + (0 + 24))) q := he2.put
  show zW l m_Troupe_init (zn M + 37, zw M + (0 + 8 + (0 + 1 + (0 + 4) + 1 + (0 + 24) + 1 + (0 + 576) + 1 + (0 + 24) + 1 + (0 + 24)) + 8 + (0 + 1 + (0 + 35) + 1 + (0 + 35) + 1 + (0 + 35) + 1 + (0 + 27) + 1 + (0 + 729)) + 3 + (0 + 1 + (0 + 1080) + 1 + (0 + 27)) + 5 + (0 + 1 + (0 + 27) + 1 + (0 + 24)) + 7 + (0 + 1 + (0 + 24)) + 1 + (0 + 8))) (zk_Troupe_3 M q ) 15 [some (.ref q)] [] _
  have kn3 : zf (zk_Troupe_3 M q ) q 0 = some (zn (M)) := zup2_s
  refine zw_aload_n (pc := 15) (n := 0) (x := q) rfl (zdal_p dlA_Troupe_init_5 (i := 7) rfl) ?_
  refine zw_new (pc := 16) (ci := 6) (by decide) n_Troupe_18 (by have := he3.1; omega) (by have := he3.1; show _ ≤ zn M + 37; omega) (by have := he3.2.1; show _ + 8 ≤ zw M + (0 + 8 + (0 + 1 + (0 + 4) + 1 + (0 + 24) + 1 + (0 + 576) + 1 + (0 + 24) + 1 + (0 + 24)) + 8 + (0 + 1 + (0 + 35) + 1 + (0 + 35) + 1 + (0 + 35) + 1 + (0 + 27) + 1 + (0 + 729)) + 3 + (0 + 1 + (0 + 1080) + 1 + (0 + 27)) + 5 + (0 + 1 + (0 + 27) + 1 + (0 + 24)) + 7 + (0 + 1 + (0 + 24)) + 1 + (0 + 8)); omega) (by decide) (zdal_p dlA_Troupe_init_5 (i := 8) rfl) ?_
  have he4 : zExt M (zk_Troupe_4 M q ) 12 (0 + 8 + (0 + 1 + (0 + 4) + 1 + (0 + 24) + 1 + (0 + 576) + 1 + (0 + 24) + 1 + (0 + 24)) + 8) q := he3.al
  have kf4_0 : zf (zk_Troupe_4 M q ) q 0 = some (zn (M)) := (congrFun (zal_old (by have := he3.1; omega)).2 0).trans kn3
  show zW l m_Troupe_init (zn M + 37, zw M + (0 + 8 + (0 + 1 + (0 + 4) + 1 + (0 + 24) + 1 + (0 + 576) + 1 + (0 + 24) + 1 + (0 + 24)) + 8 + (0 + 1 + (0 + 35) + 1 + (0 + 35) + 1 + (0 + 35) + 1 + (0 + 27) + 1 + (0 + 729)) + 3 + (0 + 1 + (0 + 1080) + 1 + (0 + 27)) + 5 + (0 + 1 + (0 + 27) + 1 + (0 + 24)) + 7 + (0 + 1 + (0 + 24)) + 1 + (0 + 8))) (zk_Troupe_4 M q ) 19 [some (.ref q)] [.ref (zn (zk_Troupe_3 M q )), .ref q] _
  refine zw_dup (pc := 19) rfl (zdal_p dlA_Troupe_init_5 (i := 9) rfl) ?_
  refine zw_aload_n (pc := 20) (n := 0) (x := q) rfl (zdal_p dlA_Troupe_init_5 (i := 10) rfl) ?_
  refine zw_getF (pc := 21) f_Troupe_12 rfl (he4.q hq hqk) kf4_0 (zdal_p dlA_Troupe_init_5 (i := 11) rfl) ?_
  refine zw_callI (pc := 24) (mc := 10) (ms := (0 + 1 + (0 + 35) + 1 + (0 + 35) + 1 + (0 + 35) + 1 + (0 + 27) + 1 + (0 + 729))) (b := zn (zk_Troupe_3 M q )) [.ref (zn (M))] [.ref (zn (zk_Troupe_3 M q )), .ref q] l_Troupe_20 (k_Sorts l (zk_Troupe_4 M q ) (zn (zk_Troupe_3 M q )) (by have := he4.1; show zn (zk_Troupe_3 M q ) < zn (zk_Troupe_3 M q ) + 1; (exact zo_1083)) (congrArg Prod.fst (zal_sh (M := zk_Troupe_3 M q ) (t := 9) (n := 8))) (zn (M)) (by have := he4.1; omega)) rfl rfl (by decide) ⟨by have := he4.1; show _ ≤ zn M + 37; omega, by have := he4.2.1; show _ ≤ zw M + (0 + 8 + (0 + 1 + (0 + 4) + 1 + (0 + 24) + 1 + (0 + 576) + 1 + (0 + 24) + 1 + (0 + 24)) + 8 + (0 + 1 + (0 + 35) + 1 + (0 + 35) + 1 + (0 + 35) + 1 + (0 + 27) + 1 + (0 + 729)) + 3 + (0 + 1 + (0 + 1080) + 1 + (0 + 27)) + 5 + (0 + 1 + (0 + 27) + 1 + (0 + 24)) + 7 + (0 + 1 + (0 + 24)) + 1 + (0 + 8)); omega⟩ (Nat.le_of_ble_eq_true rfl) (zdal_p dlA_Troupe_init_5 (i := 12) rfl) (fun r M9 h9 _ _ => ?_)
  obtain ⟨rfl, rfl⟩ := h9
  have he5 : zExt M (zk_Troupe_5 M q ) 22 (0 + 8 + (0 + 1 + (0 + 4) + 1 + (0 + 24) + 1 + (0 + 576) + 1 + (0 + 24) + 1 + (0 + 24)) + 8 + (0 + 1 + (0 + 35) + 1 + (0 + 35) + 1 + (0 + 35) + 1 + (0 + 27) + 1 + (0 + 729))) q := he4.call (ext_Sorts (zk_Troupe_4 M q ) (zn (zk_Troupe_3 M q )) (zn (M))) (by have := he3.1; omega)
  have kf5_0 : zf (zk_Troupe_5 M q ) q 0 = some (zn (M)) := (congrFun ((ext_Sorts (zk_Troupe_4 M q ) (zn (zk_Troupe_3 M q )) (zn (M))).2.2.2 q (by have := he4.1; omega) (by have := he3.1; omega)) 0).trans kf4_0
  show zW l m_Troupe_init (zn M + 37, zw M + (0 + 8 + (0 + 1 + (0 + 4) + 1 + (0 + 24) + 1 + (0 + 576) + 1 + (0 + 24) + 1 + (0 + 24)) + 8 + (0 + 1 + (0 + 35) + 1 + (0 + 35) + 1 + (0 + 35) + 1 + (0 + 27) + 1 + (0 + 729)) + 3 + (0 + 1 + (0 + 1080) + 1 + (0 + 27)) + 5 + (0 + 1 + (0 + 27) + 1 + (0 + 24)) + 7 + (0 + 1 + (0 + 24)) + 1 + (0 + 8))) (zk_Troupe_5 M q ) 27 [some (.ref q)] [.ref (zn (zk_Troupe_3 M q )), .ref q] _
  refine zw_putR (pc := 27) (x := zn (zk_Troupe_3 M q )) (Or.inr ⟨g_Troupe_23, rfl, rfl, rfl⟩) rfl (he5.q hq hqk) (fun _ => rfl) (fun _ => rfl) (zdal_p dlA_Troupe_init_5 (i := 13) rfl) ?_
  have he6 : zExt M (zk_Troupe_6 M q ) 22 (0 + 8 + (0 + 1 + (0 + 4) + 1 + (0 + 24) + 1 + (0 + 576) + 1 + (0 + 24) + 1 + (0 + 24)) + 8 + (0 + 1 + (0 + 35) + 1 + (0 + 35) + 1 + (0 + 35) + 1 + (0 + 27) + 1 + (0 + 729))) q := he5.put
  have kf6_0 : zf (zk_Troupe_6 M q ) q 0 = some (zn (M)) := (zup2_n (fun z => absurd z.2 (by decide))).trans kf5_0
  show zW l m_Troupe_init (zn M + 37, zw M + (0 + 8 + (0 + 1 + (0 + 4) + 1 + (0 + 24) + 1 + (0 + 576) + 1 + (0 + 24) + 1 + (0 + 24)) + 8 + (0 + 1 + (0 + 35) + 1 + (0 + 35) + 1 + (0 + 35) + 1 + (0 + 27) + 1 + (0 + 729)) + 3 + (0 + 1 + (0 + 1080) + 1 + (0 + 27)) + 5 + (0 + 1 + (0 + 27) + 1 + (0 + 24)) + 7 + (0 + 1 + (0 + 24)) + 1 + (0 + 8))) (zk_Troupe_6 M q ) 30 [some (.ref q)] [] _
  have kn6 : zf (zk_Troupe_6 M q ) q 1 = some (zn (zk_Troupe_3 M q )) := zup2_s
  refine zw_aload_n (pc := 30) (n := 0) (x := q) rfl (zdal_p dlA_Troupe_init_5 (i := 14) rfl) ?_
  refine zw_new (pc := 31) (ci := 7) (by decide) n_Troupe_27 (by have := he6.1; omega) (by have := he6.1; show _ ≤ zn M + 37; omega) (by have := he6.2.1; show _ + 3 ≤ zw M + (0 + 8 + (0 + 1 + (0 + 4) + 1 + (0 + 24) + 1 + (0 + 576) + 1 + (0 + 24) + 1 + (0 + 24)) + 8 + (0 + 1 + (0 + 35) + 1 + (0 + 35) + 1 + (0 + 35) + 1 + (0 + 27) + 1 + (0 + 729)) + 3 + (0 + 1 + (0 + 1080) + 1 + (0 + 27)) + 5 + (0 + 1 + (0 + 27) + 1 + (0 + 24)) + 7 + (0 + 1 + (0 + 24)) + 1 + (0 + 8)); omega) (by decide) (zdal_p dlA_Troupe_init_5 (i := 15) rfl) ?_
  have he7 : zExt M (zk_Troupe_7 M q ) 23 (0 + 8 + (0 + 1 + (0 + 4) + 1 + (0 + 24) + 1 + (0 + 576) + 1 + (0 + 24) + 1 + (0 + 24)) + 8 + (0 + 1 + (0 + 35) + 1 + (0 + 35) + 1 + (0 + 35) + 1 + (0 + 27) + 1 + (0 + 729)) + 3) q := he6.al
  have kf7_0 : zf (zk_Troupe_7 M q ) q 0 = some (zn (M)) := (congrFun (zal_old (by have := he6.1; omega)).2 0).trans kf6_0
  have kf7_1 : zf (zk_Troupe_7 M q ) q 1 = some (zn (zk_Troupe_3 M q )) := (congrFun (zal_old (by have := he6.1; omega)).2 1).trans kn6
  show zW l m_Troupe_init (zn M + 37, zw M + (0 + 8 + (0 + 1 + (0 + 4) + 1 + (0 + 24) + 1 + (0 + 576) + 1 + (0 + 24) + 1 + (0 + 24)) + 8 + (0 + 1 + (0 + 35) + 1 + (0 + 35) + 1 + (0 + 35) + 1 + (0 + 27) + 1 + (0 + 729)) + 3 + (0 + 1 + (0 + 1080) + 1 + (0 + 27)) + 5 + (0 + 1 + (0 + 27) + 1 + (0 + 24)) + 7 + (0 + 1 + (0 + 24)) + 1 + (0 + 8))) (zk_Troupe_7 M q ) 34 [some (.ref q)] [.ref (zn (zk_Troupe_6 M q )), .ref q] _
  refine zw_dup (pc := 34) rfl (zdal_p dlA_Troupe_init_5 (i := 16) rfl) ?_
  refine zw_aload_n (pc := 35) (n := 0) (x := q) rfl (zdal_p dlA_Troupe_init_5 (i := 17) rfl) ?_
  refine zw_getF (pc := 36) f_Troupe_23 rfl (he7.q hq hqk) kf7_1 (zdal_p dlA_Troupe_init_5 (i := 18) rfl) ?_
  refine zw_callI (pc := 39) (mc := 4) (ms := (0 + 1 + (0 + 1080) + 1 + (0 + 27))) (b := zn (zk_Troupe_6 M q )) [.ref (zn (zk_Troupe_3 M q ))] [.ref (zn (zk_Troupe_6 M q )), .ref q] l_Troupe_29 (k_Sums l (zk_Troupe_7 M q ) (zn (zk_Troupe_6 M q )) (by have := he7.1; show zn (zk_Troupe_6 M q ) < zn (zk_Troupe_6 M q ) + 1; (exact zo_1083)) (congrArg Prod.fst (zal_sh (M := zk_Troupe_6 M q ) (t := 10) (n := 3))) (zn (zk_Troupe_3 M q )) (by have := he7.1; omega)) rfl rfl (by decide) ⟨by have := he7.1; show _ ≤ zn M + 37; omega, by have := he7.2.1; show _ ≤ zw M + (0 + 8 + (0 + 1 + (0 + 4) + 1 + (0 + 24) + 1 + (0 + 576) + 1 + (0 + 24) + 1 + (0 + 24)) + 8 + (0 + 1 + (0 + 35) + 1 + (0 + 35) + 1 + (0 + 35) + 1 + (0 + 27) + 1 + (0 + 729)) + 3 + (0 + 1 + (0 + 1080) + 1 + (0 + 27)) + 5 + (0 + 1 + (0 + 27) + 1 + (0 + 24)) + 7 + (0 + 1 + (0 + 24)) + 1 + (0 + 8)); omega⟩ (Nat.le_of_ble_eq_true rfl) (zdal_p dlA_Troupe_init_5 (i := 19) rfl) (fun r M9 h9 _ _ => ?_)
  obtain ⟨rfl, rfl⟩ := h9
  have he8 : zExt M (zk_Troupe_8 M q ) 27 (0 + 8 + (0 + 1 + (0 + 4) + 1 + (0 + 24) + 1 + (0 + 576) + 1 + (0 + 24) + 1 + (0 + 24)) + 8 + (0 + 1 + (0 + 35) + 1 + (0 + 35) + 1 + (0 + 35) + 1 + (0 + 27) + 1 + (0 + 729)) + 3 + (0 + 1 + (0 + 1080) + 1 + (0 + 27))) q := he7.call (ext_Sums (zk_Troupe_7 M q ) (zn (zk_Troupe_6 M q )) (zn (zk_Troupe_3 M q ))) (by have := he6.1; omega)
  have kf8_0 : zf (zk_Troupe_8 M q ) q 0 = some (zn (M)) := (congrFun ((ext_Sums (zk_Troupe_7 M q ) (zn (zk_Troupe_6 M q )) (zn (zk_Troupe_3 M q ))).2.2.2 q (by have := he7.1; omega) (by have := he6.1; omega)) 0).trans kf7_0
  have kf8_1 : zf (zk_Troupe_8 M q ) q 1 = some (zn (zk_Troupe_3 M q )) := (congrFun ((ext_Sums (zk_Troupe_7 M q ) (zn (zk_Troupe_6 M q )) (zn (zk_Troupe_3 M q ))).2.2.2 q (by have := he7.1; omega) (by have := he6.1; omega)) 1).trans kf7_1
  show zW l m_Troupe_init (zn M + 37, zw M + (0 + 8 + (0 + 1 + (0 + 4) + 1 + (0 + 24) + 1 + (0 + 576) + 1 + (0 + 24) + 1 + (0 + 24)) + 8 + (0 + 1 + (0 + 35) + 1 + (0 + 35) + 1 + (0 + 35) + 1 + (0 + 27) + 1 + (0 + 729)) + 3 + (0 + 1 + (0 + 1080) + 1 + (0 + 27)) + 5 + (0 + 1 + (0 + 27) + 1 + (0 + 24)) + 7 + (0 + 1 + (0 + 24)) + 1 + (0 + 8))) (zk_Troupe_8 M q ) 42 [some (.ref q)] [.ref (zn (zk_Troupe_6 M q )), .ref q] _
  refine zw_putR (pc := 42) (x := zn (zk_Troupe_6 M q )) (Or.inr ⟨g_Troupe_32, rfl, rfl, rfl⟩) rfl (he8.q hq hqk) (fun _ => rfl) (fun _ => rfl) (zdal_p dlA_Troupe_init_5 (i := 20) rfl) ?_
  have he9 : zExt M (zk_Troupe_9 M q ) 27 (0 + 8 + (0 + 1 + (0 + 4) + 1 + (0 + 24) + 1 + (0 + 576) + 1 + (0 + 24) + 1 + (0 + 24)) + 8 + (0 + 1 + (0 + 35) + 1 + (0 + 35) + 1 + (0 + 35) + 1 + (0 + 27) + 1 + (0 + 729)) + 3 + (0 + 1 + (0 + 1080) + 1 + (0 + 27))) q := he8.put
  have kf9_0 : zf (zk_Troupe_9 M q ) q 0 = some (zn (M)) := (zup2_n (fun z => absurd z.2 (by decide))).trans kf8_0
  have kf9_1 : zf (zk_Troupe_9 M q ) q 1 = some (zn (zk_Troupe_3 M q )) := (zup2_n (fun z => absurd z.2 (by decide))).trans kf8_1
  show zW l m_Troupe_init (zn M + 37, zw M + (0 + 8 + (0 + 1 + (0 + 4) + 1 + (0 + 24) + 1 + (0 + 576) + 1 + (0 + 24) + 1 + (0 + 24)) + 8 + (0 + 1 + (0 + 35) + 1 + (0 + 35) + 1 + (0 + 35) + 1 + (0 + 27) + 1 + (0 + 729)) + 3 + (0 + 1 + (0 + 1080) + 1 + (0 + 27)) + 5 + (0 + 1 + (0 + 27) + 1 + (0 + 24)) + 7 + (0 + 1 + (0 + 24)) + 1 + (0 + 8))) (zk_Troupe_9 M q ) 45 [some (.ref q)] [] _
  have kn9 : zf (zk_Troupe_9 M q ) q 2 = some (zn (zk_Troupe_6 M q )) := zup2_s
  refine zw_aload_n (pc := 45) (n := 0) (x := q) rfl (zdal_p dlA_Troupe_init_5 (i := 21) rfl) ?_
  refine zw_new (pc := 46) (ci := 9) (by decide) n_Troupe_36 (by have := he9.1; omega) (by have := he9.1; show _ ≤ zn M + 37; omega) (by have := he9.2.1; show _ + 5 ≤ zw M + (0 + 8 + (0 + 1 + (0 + 4) + 1 + (0 + 24) + 1 + (0 + 576) + 1 + (0 + 24) + 1 + (0 + 24)) + 8 + (0 + 1 + (0 + 35) + 1 + (0 + 35) + 1 + (0 + 35) + 1 + (0 + 27) + 1 + (0 + 729)) + 3 + (0 + 1 + (0 + 1080) + 1 + (0 + 27)) + 5 + (0 + 1 + (0 + 27) + 1 + (0 + 24)) + 7 + (0 + 1 + (0 + 24)) + 1 + (0 + 8)); omega) (by decide) (zdal_p dlA_Troupe_init_5 (i := 22) rfl) ?_
  have he10 : zExt M (zk_Troupe_10 M q ) 28 (0 + 8 + (0 + 1 + (0 + 4) + 1 + (0 + 24) + 1 + (0 + 576) + 1 + (0 + 24) + 1 + (0 + 24)) + 8 + (0 + 1 + (0 + 35) + 1 + (0 + 35) + 1 + (0 + 35) + 1 + (0 + 27) + 1 + (0 + 729)) + 3 + (0 + 1 + (0 + 1080) + 1 + (0 + 27)) + 5) q := he9.al
  have kf10_0 : zf (zk_Troupe_10 M q ) q 0 = some (zn (M)) := (congrFun (zal_old (by have := he9.1; (exact zo_1569 hm hq this))).2 0).trans kf9_0
  have kf10_1 : zf (zk_Troupe_10 M q ) q 1 = some (zn (zk_Troupe_3 M q )) := (congrFun (zal_old (by have := he9.1; (exact zo_1569 hm hq this))).2 1).trans kf9_1
  have kf10_2 : zf (zk_Troupe_10 M q ) q 2 = some (zn (zk_Troupe_6 M q )) := (congrFun (zal_old (by have := he9.1; (exact zo_1569 hm hq this))).2 2).trans kn9
  show zW l m_Troupe_init (zn M + 37, zw M + (0 + 8 + (0 + 1 + (0 + 4) + 1 + (0 + 24) + 1 + (0 + 576) + 1 + (0 + 24) + 1 + (0 + 24)) + 8 + (0 + 1 + (0 + 35) + 1 + (0 + 35) + 1 + (0 + 35) + 1 + (0 + 27) + 1 + (0 + 729)) + 3 + (0 + 1 + (0 + 1080) + 1 + (0 + 27)) + 5 + (0 + 1 + (0 + 27) + 1 + (0 + 24)) + 7 + (0 + 1 + (0 + 24)) + 1 + (0 + 8))) (zk_Troupe_10 M q ) 49 [some (.ref q)] [.ref (zn (zk_Troupe_9 M q )), .ref q] _
  refine zw_dup (pc := 49) rfl (zdal_p dlA_Troupe_init_5 (i := 23) rfl) ?_
  refine zw_aload_n (pc := 50) (n := 0) (x := q) rfl (zdal_p dlA_Troupe_init_6 (i := 0) rfl) ?_
  refine zw_getF (pc := 51) f_Troupe_23 rfl (he10.q hq hqk) kf10_1 (zdal_p dlA_Troupe_init_6 (i := 1) rfl) ?_
  refine zw_callI (pc := 54) (mc := 4) (ms := (0 + 1 + (0 + 27) + 1 + (0 + 24))) (b := zn (zk_Troupe_9 M q )) [.ref (zn (zk_Troupe_3 M q ))] [.ref (zn (zk_Troupe_9 M q )), .ref q] l_Troupe_38 (k_Units l (zk_Troupe_10 M q ) (zn (zk_Troupe_9 M q )) (by have := he10.1; show zn (zk_Troupe_9 M q ) < zn (zk_Troupe_9 M q ) + 1; (exact zo_1083)) (congrArg Prod.fst (zal_sh (M := zk_Troupe_9 M q ) (t := 12) (n := 5))) (zn (zk_Troupe_3 M q )) (by have := he10.1; omega)) rfl rfl (by decide) ⟨by have := he10.1; show _ ≤ zn M + 37; omega, by have := he10.2.1; show _ ≤ zw M + (0 + 8 + (0 + 1 + (0 + 4) + 1 + (0 + 24) + 1 + (0 + 576) + 1 + (0 + 24) + 1 + (0 + 24)) + 8 + (0 + 1 + (0 + 35) + 1 + (0 + 35) + 1 + (0 + 35) + 1 + (0 + 27) + 1 + (0 + 729)) + 3 + (0 + 1 + (0 + 1080) + 1 + (0 + 27)) + 5 + (0 + 1 + (0 + 27) + 1 + (0 + 24)) + 7 + (0 + 1 + (0 + 24)) + 1 + (0 + 8)); omega⟩ (Nat.le_of_ble_eq_true rfl) (zdal_p dlA_Troupe_init_6 (i := 2) rfl) (fun r M9 h9 _ _ => ?_)
  obtain ⟨rfl, rfl⟩ := h9
  have he11 : zExt M (zk_Troupe_11 M q ) 32 (0 + 8 + (0 + 1 + (0 + 4) + 1 + (0 + 24) + 1 + (0 + 576) + 1 + (0 + 24) + 1 + (0 + 24)) + 8 + (0 + 1 + (0 + 35) + 1 + (0 + 35) + 1 + (0 + 35) + 1 + (0 + 27) + 1 + (0 + 729)) + 3 + (0 + 1 + (0 + 1080) + 1 + (0 + 27)) + 5 + (0 + 1 + (0 + 27) + 1 + (0 + 24))) q := he10.call (ext_Units (zk_Troupe_10 M q ) (zn (zk_Troupe_9 M q )) (zn (zk_Troupe_3 M q ))) (by have := he9.1; omega)
  have kf11_0 : zf (zk_Troupe_11 M q ) q 0 = some (zn (M)) := (congrFun ((ext_Units (zk_Troupe_10 M q ) (zn (zk_Troupe_9 M q )) (zn (zk_Troupe_3 M q ))).2.2.2 q (by have := he10.1; (exact zo_1574 hm hq this)) (by have := he9.1; (exact zo_1575 hq this))) 0).trans kf10_0
  have kf11_1 : zf (zk_Troupe_11 M q ) q 1 = some (zn (zk_Troupe_3 M q )) := (congrFun ((ext_Units (zk_Troupe_10 M q ) (zn (zk_Troupe_9 M q )) (zn (zk_Troupe_3 M q ))).2.2.2 q (by have := he10.1; (exact zo_1574 hm hq this)) (by have := he9.1; (exact zo_1575 hq this))) 1).trans kf10_1
  have kf11_2 : zf (zk_Troupe_11 M q ) q 2 = some (zn (zk_Troupe_6 M q )) := (congrFun ((ext_Units (zk_Troupe_10 M q ) (zn (zk_Troupe_9 M q )) (zn (zk_Troupe_3 M q ))).2.2.2 q (by have := he10.1; (exact zo_1574 hm hq this)) (by have := he9.1; (exact zo_1575 hq this))) 2).trans kf10_2
  show zW l m_Troupe_init (zn M + 37, zw M + (0 + 8 + (0 + 1 + (0 + 4) + 1 + (0 + 24) + 1 + (0 + 576) + 1 + (0 + 24) + 1 + (0 + 24)) + 8 + (0 + 1 + (0 + 35) + 1 + (0 + 35) + 1 + (0 + 35) + 1 + (0 + 27) + 1 + (0 + 729)) + 3 + (0 + 1 + (0 + 1080) + 1 + (0 + 27)) + 5 + (0 + 1 + (0 + 27) + 1 + (0 + 24)) + 7 + (0 + 1 + (0 + 24)) + 1 + (0 + 8))) (zk_Troupe_11 M q ) 57 [some (.ref q)] [.ref (zn (zk_Troupe_9 M q )), .ref q] _
  refine zw_putR (pc := 57) (x := zn (zk_Troupe_9 M q )) (Or.inr ⟨g_Troupe_39, rfl, rfl, rfl⟩) rfl (he11.q hq hqk) (fun _ => rfl) (fun _ => rfl) (zdal_p dlA_Troupe_init_6 (i := 3) rfl) ?_
  have he12 : zExt M (zk_Troupe_12 M q ) 32 (0 + 8 + (0 + 1 + (0 + 4) + 1 + (0 + 24) + 1 + (0 + 576) + 1 + (0 + 24) + 1 + (0 + 24)) + 8 + (0 + 1 + (0 + 35) + 1 + (0 + 35) + 1 + (0 + 35) + 1 + (0 + 27) + 1 + (0 + 729)) + 3 + (0 + 1 + (0 + 1080) + 1 + (0 + 27)) + 5 + (0 + 1 + (0 + 27) + 1 + (0 + 24))) q := he11.put
  have kf12_0 : zf (zk_Troupe_12 M q ) q 0 = some (zn (M)) := (zup2_n (fun z => absurd z.2 (by decide))).trans kf11_0
  have kf12_1 : zf (zk_Troupe_12 M q ) q 1 = some (zn (zk_Troupe_3 M q )) := (zup2_n (fun z => absurd z.2 (by decide))).trans kf11_1
  have kf12_2 : zf (zk_Troupe_12 M q ) q 2 = some (zn (zk_Troupe_6 M q )) := (zup2_n (fun z => absurd z.2 (by decide))).trans kf11_2
  show zW l m_Troupe_init (zn M + 37, zw M + (0 + 8 + (0 + 1 + (0 + 4) + 1 + (0 + 24) + 1 + (0 + 576) + 1 + (0 + 24) + 1 + (0 + 24)) + 8 + (0 + 1 + (0 + 35) + 1 + (0 + 35) + 1 + (0 + 35) + 1 + (0 + 27) + 1 + (0 + 729)) + 3 + (0 + 1 + (0 + 1080) + 1 + (0 + 27)) + 5 + (0 + 1 + (0 + 27) + 1 + (0 + 24)) + 7 + (0 + 1 + (0 + 24)) + 1 + (0 + 8))) (zk_Troupe_12 M q ) 60 [some (.ref q)] [] _
  have kn12 : zf (zk_Troupe_12 M q ) q 3 = some (zn (zk_Troupe_9 M q )) := zup2_s
  refine zw_aload_n (pc := 60) (n := 0) (x := q) rfl (zdal_p dlA_Troupe_init_6 (i := 4) rfl) ?_
  refine zw_new (pc := 61) (ci := 10) (by decide) n_Troupe_43 (by have := he12.1; omega) (by have := he12.1; show _ ≤ zn M + 37; omega) (by have := he12.2.1; show _ + 7 ≤ zw M + (0 + 8 + (0 + 1 + (0 + 4) + 1 + (0 + 24) + 1 + (0 + 576) + 1 + (0 + 24) + 1 + (0 + 24)) + 8 + (0 + 1 + (0 + 35) + 1 + (0 + 35) + 1 + (0 + 35) + 1 + (0 + 27) + 1 + (0 + 729)) + 3 + (0 + 1 + (0 + 1080) + 1 + (0 + 27)) + 5 + (0 + 1 + (0 + 27) + 1 + (0 + 24)) + 7 + (0 + 1 + (0 + 24)) + 1 + (0 + 8)); omega) (by decide) (zdal_p dlA_Troupe_init_6 (i := 5) rfl) ?_
  have he13 : zExt M (zk_Troupe_13 M q ) 33 (0 + 8 + (0 + 1 + (0 + 4) + 1 + (0 + 24) + 1 + (0 + 576) + 1 + (0 + 24) + 1 + (0 + 24)) + 8 + (0 + 1 + (0 + 35) + 1 + (0 + 35) + 1 + (0 + 35) + 1 + (0 + 27) + 1 + (0 + 729)) + 3 + (0 + 1 + (0 + 1080) + 1 + (0 + 27)) + 5 + (0 + 1 + (0 + 27) + 1 + (0 + 24)) + 7) q := he12.al
  have kf13_0 : zf (zk_Troupe_13 M q ) q 0 = some (zn (M)) := (congrFun (zal_old (by have := he12.1; (exact zo_1579 hm hq this))).2 0).trans kf12_0
  have kf13_1 : zf (zk_Troupe_13 M q ) q 1 = some (zn (zk_Troupe_3 M q )) := (congrFun (zal_old (by have := he12.1; (exact zo_1579 hm hq this))).2 1).trans kf12_1
  have kf13_2 : zf (zk_Troupe_13 M q ) q 2 = some (zn (zk_Troupe_6 M q )) := (congrFun (zal_old (by have := he12.1; (exact zo_1579 hm hq this))).2 2).trans kf12_2
  have kf13_3 : zf (zk_Troupe_13 M q ) q 3 = some (zn (zk_Troupe_9 M q )) := (congrFun (zal_old (by have := he12.1; (exact zo_1579 hm hq this))).2 3).trans kn12
  show zW l m_Troupe_init (zn M + 37, zw M + (0 + 8 + (0 + 1 + (0 + 4) + 1 + (0 + 24) + 1 + (0 + 576) + 1 + (0 + 24) + 1 + (0 + 24)) + 8 + (0 + 1 + (0 + 35) + 1 + (0 + 35) + 1 + (0 + 35) + 1 + (0 + 27) + 1 + (0 + 729)) + 3 + (0 + 1 + (0 + 1080) + 1 + (0 + 27)) + 5 + (0 + 1 + (0 + 27) + 1 + (0 + 24)) + 7 + (0 + 1 + (0 + 24)) + 1 + (0 + 8))) (zk_Troupe_13 M q ) 64 [some (.ref q)] [.ref (zn (zk_Troupe_12 M q )), .ref q] _
  refine zw_dup (pc := 64) rfl (zdal_p dlA_Troupe_init_6 (i := 6) rfl) ?_
  refine zw_aload_n (pc := 65) (n := 0) (x := q) rfl (zdal_p dlA_Troupe_init_6 (i := 7) rfl) ?_
  refine zw_getF (pc := 66) f_Troupe_32 rfl (he13.q hq hqk) kf13_2 (zdal_p dlA_Troupe_init_6 (i := 8) rfl) ?_
  refine zw_callI (pc := 69) (mc := 2) (ms := (0 + 1 + (0 + 24))) (b := zn (zk_Troupe_12 M q )) [.ref (zn (zk_Troupe_6 M q ))] [.ref (zn (zk_Troupe_12 M q )), .ref q] l_Troupe_45 (k_Calc l (zk_Troupe_13 M q ) (zn (zk_Troupe_12 M q )) (by have := he13.1; show zn (zk_Troupe_12 M q ) < zn (zk_Troupe_12 M q ) + 1; (exact zo_1083)) (congrArg Prod.fst (zal_sh (M := zk_Troupe_12 M q ) (t := 13) (n := 7))) (zn (zk_Troupe_6 M q )) (by have := he13.1; omega)) rfl rfl (by decide) ⟨by have := he13.1; show _ ≤ zn M + 37; omega, by have := he13.2.1; show _ ≤ zw M + (0 + 8 + (0 + 1 + (0 + 4) + 1 + (0 + 24) + 1 + (0 + 576) + 1 + (0 + 24) + 1 + (0 + 24)) + 8 + (0 + 1 + (0 + 35) + 1 + (0 + 35) + 1 + (0 + 35) + 1 + (0 + 27) + 1 + (0 + 729)) + 3 + (0 + 1 + (0 + 1080) + 1 + (0 + 27)) + 5 + (0 + 1 + (0 + 27) + 1 + (0 + 24)) + 7 + (0 + 1 + (0 + 24)) + 1 + (0 + 8)); omega⟩ (Nat.le_of_ble_eq_true rfl) (zdal_p dlA_Troupe_init_6 (i := 9) rfl) (fun r M9 h9 _ _ => ?_)
  obtain ⟨rfl, rfl⟩ := h9
  have he14 : zExt M (zk_Troupe_14 M q ) 35 (0 + 8 + (0 + 1 + (0 + 4) + 1 + (0 + 24) + 1 + (0 + 576) + 1 + (0 + 24) + 1 + (0 + 24)) + 8 + (0 + 1 + (0 + 35) + 1 + (0 + 35) + 1 + (0 + 35) + 1 + (0 + 27) + 1 + (0 + 729)) + 3 + (0 + 1 + (0 + 1080) + 1 + (0 + 27)) + 5 + (0 + 1 + (0 + 27) + 1 + (0 + 24)) + 7 + (0 + 1 + (0 + 24))) q := he13.call (ext_Calc (zk_Troupe_13 M q ) (zn (zk_Troupe_12 M q )) (zn (zk_Troupe_6 M q ))) (by have := he12.1; omega)
  have kf14_0 : zf (zk_Troupe_14 M q ) q 0 = some (zn (M)) := (congrFun ((ext_Calc (zk_Troupe_13 M q ) (zn (zk_Troupe_12 M q )) (zn (zk_Troupe_6 M q ))).2.2.2 q (by have := he13.1; (exact zo_1584 hm hq this)) (by have := he12.1; (exact zo_1585 hq this))) 0).trans kf13_0
  have kf14_1 : zf (zk_Troupe_14 M q ) q 1 = some (zn (zk_Troupe_3 M q )) := (congrFun ((ext_Calc (zk_Troupe_13 M q ) (zn (zk_Troupe_12 M q )) (zn (zk_Troupe_6 M q ))).2.2.2 q (by have := he13.1; (exact zo_1584 hm hq this)) (by have := he12.1; (exact zo_1585 hq this))) 1).trans kf13_1
  have kf14_2 : zf (zk_Troupe_14 M q ) q 2 = some (zn (zk_Troupe_6 M q )) := (congrFun ((ext_Calc (zk_Troupe_13 M q ) (zn (zk_Troupe_12 M q )) (zn (zk_Troupe_6 M q ))).2.2.2 q (by have := he13.1; (exact zo_1584 hm hq this)) (by have := he12.1; (exact zo_1585 hq this))) 2).trans kf13_2
  have kf14_3 : zf (zk_Troupe_14 M q ) q 3 = some (zn (zk_Troupe_9 M q )) := (congrFun ((ext_Calc (zk_Troupe_13 M q ) (zn (zk_Troupe_12 M q )) (zn (zk_Troupe_6 M q ))).2.2.2 q (by have := he13.1; (exact zo_1584 hm hq this)) (by have := he12.1; (exact zo_1585 hq this))) 3).trans kf13_3
  show zW l m_Troupe_init (zn M + 37, zw M + (0 + 8 + (0 + 1 + (0 + 4) + 1 + (0 + 24) + 1 + (0 + 576) + 1 + (0 + 24) + 1 + (0 + 24)) + 8 + (0 + 1 + (0 + 35) + 1 + (0 + 35) + 1 + (0 + 35) + 1 + (0 + 27) + 1 + (0 + 729)) + 3 + (0 + 1 + (0 + 1080) + 1 + (0 + 27)) + 5 + (0 + 1 + (0 + 27) + 1 + (0 + 24)) + 7 + (0 + 1 + (0 + 24)) + 1 + (0 + 8))) (zk_Troupe_14 M q ) 72 [some (.ref q)] [.ref (zn (zk_Troupe_12 M q )), .ref q] _
  refine zw_putR (pc := 72) (x := zn (zk_Troupe_12 M q )) (Or.inr ⟨g_Troupe_48, rfl, rfl, rfl⟩) rfl (he14.q hq hqk) (fun _ => rfl) (fun _ => rfl) (zdal_p dlA_Troupe_init_6 (i := 10) rfl) ?_
  have he15 : zExt M (zk_Troupe_15 M q ) 35 (0 + 8 + (0 + 1 + (0 + 4) + 1 + (0 + 24) + 1 + (0 + 576) + 1 + (0 + 24) + 1 + (0 + 24)) + 8 + (0 + 1 + (0 + 35) + 1 + (0 + 35) + 1 + (0 + 35) + 1 + (0 + 27) + 1 + (0 + 729)) + 3 + (0 + 1 + (0 + 1080) + 1 + (0 + 27)) + 5 + (0 + 1 + (0 + 27) + 1 + (0 + 24)) + 7 + (0 + 1 + (0 + 24))) q := he14.put
  have kf15_0 : zf (zk_Troupe_15 M q ) q 0 = some (zn (M)) := (zup2_n (fun z => absurd z.2 (by decide))).trans kf14_0
  have kf15_1 : zf (zk_Troupe_15 M q ) q 1 = some (zn (zk_Troupe_3 M q )) := (zup2_n (fun z => absurd z.2 (by decide))).trans kf14_1
  have kf15_2 : zf (zk_Troupe_15 M q ) q 2 = some (zn (zk_Troupe_6 M q )) := (zup2_n (fun z => absurd z.2 (by decide))).trans kf14_2
  have kf15_3 : zf (zk_Troupe_15 M q ) q 3 = some (zn (zk_Troupe_9 M q )) := (zup2_n (fun z => absurd z.2 (by decide))).trans kf14_3
  show zW l m_Troupe_init (zn M + 37, zw M + (0 + 8 + (0 + 1 + (0 + 4) + 1 + (0 + 24) + 1 + (0 + 576) + 1 + (0 + 24) + 1 + (0 + 24)) + 8 + (0 + 1 + (0 + 35) + 1 + (0 + 35) + 1 + (0 + 35) + 1 + (0 + 27) + 1 + (0 + 729)) + 3 + (0 + 1 + (0 + 1080) + 1 + (0 + 27)) + 5 + (0 + 1 + (0 + 27) + 1 + (0 + 24)) + 7 + (0 + 1 + (0 + 24)) + 1 + (0 + 8))) (zk_Troupe_15 M q ) 75 [some (.ref q)] [] _
  have kn15 : zf (zk_Troupe_15 M q ) q 4 = some (zn (zk_Troupe_12 M q )) := zup2_s
  refine zw_aload_n (pc := 75) (n := 0) (x := q) rfl (zdal_p dlA_Troupe_init_6 (i := 11) rfl) ?_
  refine zw_new (pc := 76) (ci := 2) (by decide) n_Troupe_52 (by have := he15.1; omega) (by have := he15.1; show _ ≤ zn M + 37; omega) (by have := he15.2.1; show _ + 1 ≤ zw M + (0 + 8 + (0 + 1 + (0 + 4) + 1 + (0 + 24) + 1 + (0 + 576) + 1 + (0 + 24) + 1 + (0 + 24)) + 8 + (0 + 1 + (0 + 35) + 1 + (0 + 35) + 1 + (0 + 35) + 1 + (0 + 27) + 1 + (0 + 729)) + 3 + (0 + 1 + (0 + 1080) + 1 + (0 + 27)) + 5 + (0 + 1 + (0 + 27) + 1 + (0 + 24)) + 7 + (0 + 1 + (0 + 24)) + 1 + (0 + 8)); omega) (by decide) (zdal_p dlA_Troupe_init_6 (i := 12) rfl) ?_
  have he16 : zExt M (zk_Troupe_16 M q ) 36 (0 + 8 + (0 + 1 + (0 + 4) + 1 + (0 + 24) + 1 + (0 + 576) + 1 + (0 + 24) + 1 + (0 + 24)) + 8 + (0 + 1 + (0 + 35) + 1 + (0 + 35) + 1 + (0 + 35) + 1 + (0 + 27) + 1 + (0 + 729)) + 3 + (0 + 1 + (0 + 1080) + 1 + (0 + 27)) + 5 + (0 + 1 + (0 + 27) + 1 + (0 + 24)) + 7 + (0 + 1 + (0 + 24)) + 1) q := he15.al
  have kf16_0 : zf (zk_Troupe_16 M q ) q 0 = some (zn (M)) := (congrFun (zal_old (by have := he15.1; (exact zo_1589 hm hq this))).2 0).trans kf15_0
  have kf16_1 : zf (zk_Troupe_16 M q ) q 1 = some (zn (zk_Troupe_3 M q )) := (congrFun (zal_old (by have := he15.1; (exact zo_1589 hm hq this))).2 1).trans kf15_1
  have kf16_2 : zf (zk_Troupe_16 M q ) q 2 = some (zn (zk_Troupe_6 M q )) := (congrFun (zal_old (by have := he15.1; (exact zo_1589 hm hq this))).2 2).trans kf15_2
  have kf16_3 : zf (zk_Troupe_16 M q ) q 3 = some (zn (zk_Troupe_9 M q )) := (congrFun (zal_old (by have := he15.1; (exact zo_1589 hm hq this))).2 3).trans kf15_3
  have kf16_4 : zf (zk_Troupe_16 M q ) q 4 = some (zn (zk_Troupe_12 M q )) := (congrFun (zal_old (by have := he15.1; (exact zo_1589 hm hq this))).2 4).trans kn15
  show zW l m_Troupe_init (zn M + 37, zw M + (0 + 8 + (0 + 1 + (0 + 4) + 1 + (0 + 24) + 1 + (0 + 576) + 1 + (0 + 24) + 1 + (0 + 24)) + 8 + (0 + 1 + (0 + 35) + 1 + (0 + 35) + 1 + (0 + 35) + 1 + (0 + 27) + 1 + (0 + 729)) + 3 + (0 + 1 + (0 + 1080) + 1 + (0 + 27)) + 5 + (0 + 1 + (0 + 27) + 1 + (0 + 24)) + 7 + (0 + 1 + (0 + 24)) + 1 + (0 + 8))) (zk_Troupe_16 M q ) 79 [some (.ref q)] [.ref (zn (zk_Troupe_15 M q )), .ref q] _
  refine zw_dup (pc := 79) rfl (zdal_p dlA_Troupe_init_6 (i := 13) rfl) ?_
  refine zw_bipush (pc := 80) (v := nI 8) (by decide) (zdal_p dlA_Troupe_init_6 (i := 14) rfl) ?_
  refine zw_callI (pc := 82) (mc := 1) (ms := (0 + 8)) (b := zn (zk_Troupe_15 M q )) [.int (nI 8)] [.ref (zn (zk_Troupe_15 M q )), .ref q] l_Troupe_54 (k_IntRow l (zk_Troupe_16 M q ) (zn (zk_Troupe_15 M q )) (by have := he16.1; show zn (zk_Troupe_15 M q ) < zn (zk_Troupe_15 M q ) + 1; (exact zo_1083)) (congrArg Prod.fst (zal_sh (M := zk_Troupe_15 M q ) (t := 5) (n := 1))) 8 (by decide) (by have := he16.1; omega)) rfl rfl (by decide) ⟨by have := he16.1; show _ ≤ zn M + 37; omega, by have := he16.2.1; show _ ≤ zw M + (0 + 8 + (0 + 1 + (0 + 4) + 1 + (0 + 24) + 1 + (0 + 576) + 1 + (0 + 24) + 1 + (0 + 24)) + 8 + (0 + 1 + (0 + 35) + 1 + (0 + 35) + 1 + (0 + 35) + 1 + (0 + 27) + 1 + (0 + 729)) + 3 + (0 + 1 + (0 + 1080) + 1 + (0 + 27)) + 5 + (0 + 1 + (0 + 27) + 1 + (0 + 24)) + 7 + (0 + 1 + (0 + 24)) + 1 + (0 + 8)); omega⟩ (Nat.le_of_ble_eq_true rfl) (zdal_p dlA_Troupe_init_6 (i := 15) rfl) (fun r M9 h9 _ _ => ?_)
  obtain ⟨rfl, rfl⟩ := h9
  have he17 : zExt M (zk_Troupe_17 M q ) 37 (0 + 8 + (0 + 1 + (0 + 4) + 1 + (0 + 24) + 1 + (0 + 576) + 1 + (0 + 24) + 1 + (0 + 24)) + 8 + (0 + 1 + (0 + 35) + 1 + (0 + 35) + 1 + (0 + 35) + 1 + (0 + 27) + 1 + (0 + 729)) + 3 + (0 + 1 + (0 + 1080) + 1 + (0 + 27)) + 5 + (0 + 1 + (0 + 27) + 1 + (0 + 24)) + 7 + (0 + 1 + (0 + 24)) + 1 + (0 + 8)) q := he16.call (ext_IntRow (zk_Troupe_16 M q ) (zn (zk_Troupe_15 M q )) 8) (by have := he15.1; omega)
  have kf17_0 : zf (zk_Troupe_17 M q ) q 0 = some (zn (M)) := (congrFun ((ext_IntRow (zk_Troupe_16 M q ) (zn (zk_Troupe_15 M q )) 8).2.2.2 q (by have := he16.1; (exact zo_1594 hm hq this)) (by have := he15.1; (exact zo_1595 hq this))) 0).trans kf16_0
  have kf17_1 : zf (zk_Troupe_17 M q ) q 1 = some (zn (zk_Troupe_3 M q )) := (congrFun ((ext_IntRow (zk_Troupe_16 M q ) (zn (zk_Troupe_15 M q )) 8).2.2.2 q (by have := he16.1; (exact zo_1594 hm hq this)) (by have := he15.1; (exact zo_1595 hq this))) 1).trans kf16_1
  have kf17_2 : zf (zk_Troupe_17 M q ) q 2 = some (zn (zk_Troupe_6 M q )) := (congrFun ((ext_IntRow (zk_Troupe_16 M q ) (zn (zk_Troupe_15 M q )) 8).2.2.2 q (by have := he16.1; (exact zo_1594 hm hq this)) (by have := he15.1; (exact zo_1595 hq this))) 2).trans kf16_2
  have kf17_3 : zf (zk_Troupe_17 M q ) q 3 = some (zn (zk_Troupe_9 M q )) := (congrFun ((ext_IntRow (zk_Troupe_16 M q ) (zn (zk_Troupe_15 M q )) 8).2.2.2 q (by have := he16.1; (exact zo_1594 hm hq this)) (by have := he15.1; (exact zo_1595 hq this))) 3).trans kf16_3
  have kf17_4 : zf (zk_Troupe_17 M q ) q 4 = some (zn (zk_Troupe_12 M q )) := (congrFun ((ext_IntRow (zk_Troupe_16 M q ) (zn (zk_Troupe_15 M q )) 8).2.2.2 q (by have := he16.1; (exact zo_1594 hm hq this)) (by have := he15.1; (exact zo_1595 hq this))) 4).trans kf16_4
  show zW l m_Troupe_init (zn M + 37, zw M + (0 + 8 + (0 + 1 + (0 + 4) + 1 + (0 + 24) + 1 + (0 + 576) + 1 + (0 + 24) + 1 + (0 + 24)) + 8 + (0 + 1 + (0 + 35) + 1 + (0 + 35) + 1 + (0 + 35) + 1 + (0 + 27) + 1 + (0 + 729)) + 3 + (0 + 1 + (0 + 1080) + 1 + (0 + 27)) + 5 + (0 + 1 + (0 + 27) + 1 + (0 + 24)) + 7 + (0 + 1 + (0 + 24)) + 1 + (0 + 8))) (zk_Troupe_17 M q ) 85 [some (.ref q)] [.ref (zn (zk_Troupe_15 M q )), .ref q] _
  refine zw_putR (pc := 85) (x := zn (zk_Troupe_15 M q )) (Or.inr ⟨g_Troupe_57, rfl, rfl, rfl⟩) rfl (he17.q hq hqk) (fun _ => rfl) (fun _ => rfl) (zdal_p dlA_Troupe_init_6 (i := 16) rfl) ?_
  have he18 : zExt M (zk_Troupe_18 M q ) 37 (0 + 8 + (0 + 1 + (0 + 4) + 1 + (0 + 24) + 1 + (0 + 576) + 1 + (0 + 24) + 1 + (0 + 24)) + 8 + (0 + 1 + (0 + 35) + 1 + (0 + 35) + 1 + (0 + 35) + 1 + (0 + 27) + 1 + (0 + 729)) + 3 + (0 + 1 + (0 + 1080) + 1 + (0 + 27)) + 5 + (0 + 1 + (0 + 27) + 1 + (0 + 24)) + 7 + (0 + 1 + (0 + 24)) + 1 + (0 + 8)) q := he17.put
  have kf18_0 : zf (zk_Troupe_18 M q ) q 0 = some (zn (M)) := (zup2_n (fun z => absurd z.2 (by decide))).trans kf17_0
  have kf18_1 : zf (zk_Troupe_18 M q ) q 1 = some (zn (zk_Troupe_3 M q )) := (zup2_n (fun z => absurd z.2 (by decide))).trans kf17_1
  have kf18_2 : zf (zk_Troupe_18 M q ) q 2 = some (zn (zk_Troupe_6 M q )) := (zup2_n (fun z => absurd z.2 (by decide))).trans kf17_2
  have kf18_3 : zf (zk_Troupe_18 M q ) q 3 = some (zn (zk_Troupe_9 M q )) := (zup2_n (fun z => absurd z.2 (by decide))).trans kf17_3
  have kf18_4 : zf (zk_Troupe_18 M q ) q 4 = some (zn (zk_Troupe_12 M q )) := (zup2_n (fun z => absurd z.2 (by decide))).trans kf17_4
  show zW l m_Troupe_init (zn M + 37, zw M + (0 + 8 + (0 + 1 + (0 + 4) + 1 + (0 + 24) + 1 + (0 + 576) + 1 + (0 + 24) + 1 + (0 + 24)) + 8 + (0 + 1 + (0 + 35) + 1 + (0 + 35) + 1 + (0 + 35) + 1 + (0 + 27) + 1 + (0 + 729)) + 3 + (0 + 1 + (0 + 1080) + 1 + (0 + 27)) + 5 + (0 + 1 + (0 + 27) + 1 + (0 + 24)) + 7 + (0 + 1 + (0 + 24)) + 1 + (0 + 8))) (zk_Troupe_18 M q ) 88 [some (.ref q)] [] _
  have kn18 : zf (zk_Troupe_18 M q ) q 5 = some (zn (zk_Troupe_15 M q )) := zup2_s
  exact zw_vret (S := []) (pc := 88) rfl (zdal_p dlA_Troupe_init_6 (i := 17) rfl) ⟨rfl, rfl⟩
def zk_T_1 (M : zMem) (q : Nat)  : zMem := zal (M) 4 6
def zk_T_2 (M : zMem) (q : Nat)  : zMem := zk_Tokens (zk_T_1 M q ) (zn (M))
def zk_T_3 (M : zMem) (q : Nat)  : zMem := zsF (zk_T_2 M q ) q 0 (some (zn (M)))
def zk_T_4 (M : zMem) (q : Nat)  : zMem := zal (zk_T_3 M q ) 6 4
def zk_T_5 (M : zMem) (q : Nat)  : zMem := zk_Reader (zk_T_4 M q ) (zn (zk_T_3 M q )) (zn (M))
def zk_T_6 (M : zMem) (q : Nat)  : zMem := zsF (zk_T_5 M q ) q 1 (some (zn (zk_T_3 M q )))
def zk_T_7 (M : zMem) (q : Nat)  : zMem := zal (zk_T_6 M q ) 7 9
def zk_T_8 (M : zMem) (q : Nat)  : zMem := zk_Troupe (zk_T_7 M q ) (zn (zk_T_6 M q ))
def zk_T_9 (M : zMem) (q : Nat)  : zMem := zsF (zk_T_8 M q ) q 2 (some (zn (zk_T_6 M q )))
def zk_T_10 (M : zMem) (q : Nat)  : zMem := zal (zk_T_9 M q ) 7 9
def zk_T_11 (M : zMem) (q : Nat)  : zMem := zk_Troupe (zk_T_10 M q ) (zn (zk_T_9 M q ))
def zk_T_12 (M : zMem) (q : Nat)  : zMem := zsF (zk_T_11 M q ) q 3 (some (zn (zk_T_9 M q )))
set_option maxRecDepth 20000 in
set_option maxHeartbeats 4000000 in
theorem k_Tpre (l : Launch) (X : Nat × Nat) (Q : Option Value → zMem → Prop) (M : zMem) (q : Nat) (hq : q < zn M) (hqk : (zsh M q).1 = 0 + 3) (hm : zn M + 80 < 1000000) (hX : zn M + 80 ≤ X.1 ∧ zw M + (0 + 6 + (0 + 1 + (0 + 700)) + 4 + (0) + 9 + (0 + 8 + (0 + 1 + (0 + 4) + 1 + (0 + 24) + 1 + (0 + 576) + 1 + (0 + 24) + 1 + (0 + 24)) + 8 + (0 + 1 + (0 + 35) + 1 + (0 + 35) + 1 + (0 + 35) + 1 + (0 + 27) + 1 + (0 + 729)) + 3 + (0 + 1 + (0 + 1080) + 1 + (0 + 27)) + 5 + (0 + 1 + (0 + 27) + 1 + (0 + 24)) + 7 + (0 + 1 + (0 + 24)) + 1 + (0 + 8)) + 9 + (0 + 8 + (0 + 1 + (0 + 4) + 1 + (0 + 24) + 1 + (0 + 576) + 1 + (0 + 24) + 1 + (0 + 24)) + 8 + (0 + 1 + (0 + 35) + 1 + (0 + 35) + 1 + (0 + 35) + 1 + (0 + 27) + 1 + (0 + 729)) + 3 + (0 + 1 + (0 + 1080) + 1 + (0 + 27)) + 5 + (0 + 1 + (0 + 27) + 1 + (0 + 24)) + 7 + (0 + 1 + (0 + 24)) + 1 + (0 + 8))) ≤ X.2) (kk : zW l m_T_init X (zk_T_12 M q ) 57 [some (.ref q)] [.int (nI 1), .ref (zn (zk_T_6 M q ))] Q) : zW l m_T_init X M 0 [some (.ref q)] [] Q := by
  have he0 : zExt M M 0 0 q := zExt.rf
  refine zw_aload_n (pc := 0) (n := 0) (x := q) rfl (zdal_p dlA_T_init_0 (i := 0) rfl) ?_
  refine zw_objInit (pc := 1) o_T_1 o_in o_co (by decide) (Nat.le_of_ble_eq_true rfl) (zdal_p dlA_T_init_0 (i := 1) rfl) ?_
  refine zw_aload_n (pc := 4) (n := 0) (x := q) rfl (zdal_p dlA_T_init_0 (i := 2) rfl) ?_
  refine zw_new (pc := 5) (ci := 1) (by decide) n_T_7 (by have := he0.1; omega) (by have := he0.1; have := hX.1; omega) (by have := he0.2.1; show _ + 6 ≤ X.2; have := hX.2; omega) (by decide) (zdal_p dlA_T_init_0 (i := 3) rfl) ?_
  have he1 : zExt M (zk_T_1 M q ) 1 (0 + 6) q := he0.al
  show zW l m_T_init X (zk_T_1 M q ) 8 [some (.ref q)] [.ref (zn (M)), .ref q] _
  refine zw_dup (pc := 8) rfl (zdal_p dlA_T_init_0 (i := 4) rfl) ?_
  refine zw_callI (pc := 9) (mc := 2) (ms := (0 + 1 + (0 + 700))) (b := zn (M)) [] [.ref (zn (M)), .ref q] l_T_9 (k_Tokens l (zk_T_1 M q ) (zn (M)) (by have := he1.1; show zn (M) < zn (M) + 1; (exact zo_1083)) (congrArg Prod.fst (zal_sh (M := M) (t := 4) (n := 6)))  (by have := he1.1; omega)) rfl rfl (by decide) ⟨by have := he1.1; have := hX.1; omega, by have := he1.2.1; show _ ≤ X.2; have := hX.2; omega⟩ (Nat.le_of_ble_eq_true rfl) (zdal_p dlA_T_init_0 (i := 5) rfl) (fun r M9 h9 _ _ => ?_)
  obtain ⟨rfl, rfl⟩ := h9
  have he2 : zExt M (zk_T_2 M q ) 3 (0 + 6 + (0 + 1 + (0 + 700))) q := he1.call (ext_Tokens (zk_T_1 M q ) (zn (M))) (by have := he0.1; (exact zo_1447))
  show zW l m_T_init X (zk_T_2 M q ) 12 [some (.ref q)] [.ref (zn (M)), .ref q] _
  refine zw_putR (pc := 12) (x := zn (M)) (Or.inr ⟨g_T_10, rfl, rfl, rfl⟩) rfl (he2.q hq hqk) (fun _ => rfl) (fun _ => rfl) (zdal_p dlA_T_init_0 (i := 6) rfl) ?_
  have he3 : zExt M (zk_T_3 M q ) 3 (0 + 6 + (0 + 1 + (0 + 700))) q := he2.put
  show zW l m_T_init X (zk_T_3 M q ) 15 [some (.ref q)] [] _
  have kn3 : zf (zk_T_3 M q ) q 0 = some (zn (M)) := zup2_s
  refine zw_aload_n (pc := 15) (n := 0) (x := q) rfl (zdal_p dlA_T_init_0 (i := 7) rfl) ?_
  refine zw_new (pc := 16) (ci := 3) (by decide) n_T_16 (by have := he3.1; omega) (by have := he3.1; have := hX.1; omega) (by have := he3.2.1; show _ + 4 ≤ X.2; have := hX.2; omega) (by decide) (zdal_p dlA_T_init_0 (i := 8) rfl) ?_
  have he4 : zExt M (zk_T_4 M q ) 4 (0 + 6 + (0 + 1 + (0 + 700)) + 4) q := he3.al
  have kf4_0 : zf (zk_T_4 M q ) q 0 = some (zn (M)) := (congrFun (zal_old (by have := he3.1; omega)).2 0).trans kn3
  show zW l m_T_init X (zk_T_4 M q ) 19 [some (.ref q)] [.ref (zn (zk_T_3 M q )), .ref q] _
  refine zw_dup (pc := 19) rfl (zdal_p dlA_T_init_0 (i := 9) rfl) ?_
  refine zw_aload_n (pc := 20) (n := 0) (x := q) rfl (zdal_p dlA_T_init_0 (i := 10) rfl) ?_
  refine zw_getF (pc := 21) f_T_10 rfl (he4.q hq hqk) kf4_0 (zdal_p dlA_T_init_0 (i := 11) rfl) ?_
  refine zw_callI (pc := 24) (mc := 0) (ms := (0)) (b := zn (zk_T_3 M q )) [.ref (zn (M))] [.ref (zn (zk_T_3 M q )), .ref q] l_T_18 (k_Reader l (zk_T_4 M q ) (zn (zk_T_3 M q )) (by have := he4.1; show zn (zk_T_3 M q ) < zn (zk_T_3 M q ) + 1; (exact zo_1083)) (congrArg Prod.fst (zal_sh (M := zk_T_3 M q ) (t := 6) (n := 4))) (zn (M)) (by have := he4.1; omega)) rfl rfl (by decide) ⟨by have := he4.1; have := hX.1; omega, by have := he4.2.1; show _ ≤ X.2; have := hX.2; omega⟩ (Nat.le_of_ble_eq_true rfl) (zdal_p dlA_T_init_0 (i := 12) rfl) (fun r M9 h9 _ _ => ?_)
  obtain ⟨rfl, rfl⟩ := h9
  have he5 : zExt M (zk_T_5 M q ) 4 (0 + 6 + (0 + 1 + (0 + 700)) + 4 + (0)) q := he4.call (ext_Reader (zk_T_4 M q ) (zn (zk_T_3 M q )) (zn (M))) (by have := he3.1; omega)
  have kf5_0 : zf (zk_T_5 M q ) q 0 = some (zn (M)) := (congrFun ((ext_Reader (zk_T_4 M q ) (zn (zk_T_3 M q )) (zn (M))).2.2.2 q (by have := he4.1; (exact zo_1604 hm hq this)) (by have := he3.1; omega)) 0).trans kf4_0
  show zW l m_T_init X (zk_T_5 M q ) 27 [some (.ref q)] [.ref (zn (zk_T_3 M q )), .ref q] _
  refine zw_putR (pc := 27) (x := zn (zk_T_3 M q )) (Or.inr ⟨g_T_21, rfl, rfl, rfl⟩) rfl (he5.q hq hqk) (fun _ => rfl) (fun _ => rfl) (zdal_p dlA_T_init_0 (i := 13) rfl) ?_
  have he6 : zExt M (zk_T_6 M q ) 4 (0 + 6 + (0 + 1 + (0 + 700)) + 4 + (0)) q := he5.put
  have kf6_0 : zf (zk_T_6 M q ) q 0 = some (zn (M)) := (zup2_n (fun z => absurd z.2 (by decide))).trans kf5_0
  show zW l m_T_init X (zk_T_6 M q ) 30 [some (.ref q)] [] _
  have kn6 : zf (zk_T_6 M q ) q 1 = some (zn (zk_T_3 M q )) := zup2_s
  refine zw_aload_n (pc := 30) (n := 0) (x := q) rfl (zdal_p dlA_T_init_0 (i := 14) rfl) ?_
  refine zw_new (pc := 31) (ci := 4) (by decide) n_T_25 (by have := he6.1; omega) (by have := he6.1; have := hX.1; omega) (by have := he6.2.1; show _ + 9 ≤ X.2; have := hX.2; omega) (by decide) (zdal_p dlA_T_init_0 (i := 15) rfl) ?_
  have he7 : zExt M (zk_T_7 M q ) 5 (0 + 6 + (0 + 1 + (0 + 700)) + 4 + (0) + 9) q := he6.al
  have kf7_0 : zf (zk_T_7 M q ) q 0 = some (zn (M)) := (congrFun (zal_old (by have := he6.1; (exact zo_1604 hm hq this))).2 0).trans kf6_0
  have kf7_1 : zf (zk_T_7 M q ) q 1 = some (zn (zk_T_3 M q )) := (congrFun (zal_old (by have := he6.1; (exact zo_1604 hm hq this))).2 1).trans kn6
  show zW l m_T_init X (zk_T_7 M q ) 34 [some (.ref q)] [.ref (zn (zk_T_6 M q )), .ref q] _
  refine zw_dup (pc := 34) rfl (zdal_p dlA_T_init_0 (i := 16) rfl) ?_
  refine zw_callI (pc := 35) (mc := 37) (ms := (0 + 8 + (0 + 1 + (0 + 4) + 1 + (0 + 24) + 1 + (0 + 576) + 1 + (0 + 24) + 1 + (0 + 24)) + 8 + (0 + 1 + (0 + 35) + 1 + (0 + 35) + 1 + (0 + 35) + 1 + (0 + 27) + 1 + (0 + 729)) + 3 + (0 + 1 + (0 + 1080) + 1 + (0 + 27)) + 5 + (0 + 1 + (0 + 27) + 1 + (0 + 24)) + 7 + (0 + 1 + (0 + 24)) + 1 + (0 + 8))) (b := zn (zk_T_6 M q )) [] [.ref (zn (zk_T_6 M q )), .ref q] l_T_27 (k_Troupe l (zk_T_7 M q ) (zn (zk_T_6 M q )) (by have := he7.1; show zn (zk_T_6 M q ) < zn (zk_T_6 M q ) + 1; (exact zo_1083)) (congrArg Prod.fst (zal_sh (M := zk_T_6 M q ) (t := 7) (n := 9)))  (by have := he7.1; omega)) rfl rfl (by decide) ⟨by have := he7.1; have := hX.1; omega, by have := he7.2.1; show _ ≤ X.2; have := hX.2; omega⟩ (Nat.le_of_ble_eq_true rfl) (zdal_p dlA_T_init_0 (i := 17) rfl) (fun r M9 h9 _ _ => ?_)
  obtain ⟨rfl, rfl⟩ := h9
  have he8 : zExt M (zk_T_8 M q ) 42 (0 + 6 + (0 + 1 + (0 + 700)) + 4 + (0) + 9 + (0 + 8 + (0 + 1 + (0 + 4) + 1 + (0 + 24) + 1 + (0 + 576) + 1 + (0 + 24) + 1 + (0 + 24)) + 8 + (0 + 1 + (0 + 35) + 1 + (0 + 35) + 1 + (0 + 35) + 1 + (0 + 27) + 1 + (0 + 729)) + 3 + (0 + 1 + (0 + 1080) + 1 + (0 + 27)) + 5 + (0 + 1 + (0 + 27) + 1 + (0 + 24)) + 7 + (0 + 1 + (0 + 24)) + 1 + (0 + 8))) q := he7.call (ext_Troupe (zk_T_7 M q ) (zn (zk_T_6 M q ))) (by have := he6.1; omega)
  have kf8_0 : zf (zk_T_8 M q ) q 0 = some (zn (M)) := (congrFun ((ext_Troupe (zk_T_7 M q ) (zn (zk_T_6 M q ))).2.2.2 q (by have := he7.1; omega) (by have := he6.1; (exact zo_1483 hq this))) 0).trans kf7_0
  have kf8_1 : zf (zk_T_8 M q ) q 1 = some (zn (zk_T_3 M q )) := (congrFun ((ext_Troupe (zk_T_7 M q ) (zn (zk_T_6 M q ))).2.2.2 q (by have := he7.1; omega) (by have := he6.1; (exact zo_1483 hq this))) 1).trans kf7_1
  show zW l m_T_init X (zk_T_8 M q ) 38 [some (.ref q)] [.ref (zn (zk_T_6 M q )), .ref q] _
  refine zw_putR (pc := 38) (x := zn (zk_T_6 M q )) (Or.inl ⟨f_T_28, rfl⟩) rfl (he8.q hq hqk) (fun _ => rfl) (fun _ => rfl) (zdal_p dlA_T_init_0 (i := 18) rfl) ?_
  have he9 : zExt M (zk_T_9 M q ) 42 (0 + 6 + (0 + 1 + (0 + 700)) + 4 + (0) + 9 + (0 + 8 + (0 + 1 + (0 + 4) + 1 + (0 + 24) + 1 + (0 + 576) + 1 + (0 + 24) + 1 + (0 + 24)) + 8 + (0 + 1 + (0 + 35) + 1 + (0 + 35) + 1 + (0 + 35) + 1 + (0 + 27) + 1 + (0 + 729)) + 3 + (0 + 1 + (0 + 1080) + 1 + (0 + 27)) + 5 + (0 + 1 + (0 + 27) + 1 + (0 + 24)) + 7 + (0 + 1 + (0 + 24)) + 1 + (0 + 8))) q := he8.put
  have kf9_0 : zf (zk_T_9 M q ) q 0 = some (zn (M)) := (zup2_n (fun z => absurd z.2 (by decide))).trans kf8_0
  have kf9_1 : zf (zk_T_9 M q ) q 1 = some (zn (zk_T_3 M q )) := (zup2_n (fun z => absurd z.2 (by decide))).trans kf8_1
  show zW l m_T_init X (zk_T_9 M q ) 41 [some (.ref q)] [] _
  have kn9 : zf (zk_T_9 M q ) q 2 = some (zn (zk_T_6 M q )) := zup2_s
  refine zw_aload_n (pc := 41) (n := 0) (x := q) rfl (zdal_p dlA_T_init_0 (i := 19) rfl) ?_
  refine zw_new (pc := 42) (ci := 4) (by decide) n_T_25 (by have := he9.1; omega) (by have := he9.1; have := hX.1; omega) (by have := he9.2.1; show _ + 9 ≤ X.2; have := hX.2; omega) (by decide) (zdal_p dlA_T_init_0 (i := 20) rfl) ?_
  have he10 : zExt M (zk_T_10 M q ) 43 (0 + 6 + (0 + 1 + (0 + 700)) + 4 + (0) + 9 + (0 + 8 + (0 + 1 + (0 + 4) + 1 + (0 + 24) + 1 + (0 + 576) + 1 + (0 + 24) + 1 + (0 + 24)) + 8 + (0 + 1 + (0 + 35) + 1 + (0 + 35) + 1 + (0 + 35) + 1 + (0 + 27) + 1 + (0 + 729)) + 3 + (0 + 1 + (0 + 1080) + 1 + (0 + 27)) + 5 + (0 + 1 + (0 + 27) + 1 + (0 + 24)) + 7 + (0 + 1 + (0 + 24)) + 1 + (0 + 8)) + 9) q := he9.al
  have kf10_0 : zf (zk_T_10 M q ) q 0 = some (zn (M)) := (congrFun (zal_old (by have := he9.1; (exact zo_1611 hm hq this))).2 0).trans kf9_0
  have kf10_1 : zf (zk_T_10 M q ) q 1 = some (zn (zk_T_3 M q )) := (congrFun (zal_old (by have := he9.1; (exact zo_1611 hm hq this))).2 1).trans kf9_1
  have kf10_2 : zf (zk_T_10 M q ) q 2 = some (zn (zk_T_6 M q )) := (congrFun (zal_old (by have := he9.1; (exact zo_1611 hm hq this))).2 2).trans kn9
  show zW l m_T_init X (zk_T_10 M q ) 45 [some (.ref q)] [.ref (zn (zk_T_9 M q )), .ref q] _
  refine zw_dup (pc := 45) rfl (zdal_p dlA_T_init_0 (i := 21) rfl) ?_
  refine zw_callI (pc := 46) (mc := 37) (ms := (0 + 8 + (0 + 1 + (0 + 4) + 1 + (0 + 24) + 1 + (0 + 576) + 1 + (0 + 24) + 1 + (0 + 24)) + 8 + (0 + 1 + (0 + 35) + 1 + (0 + 35) + 1 + (0 + 35) + 1 + (0 + 27) + 1 + (0 + 729)) + 3 + (0 + 1 + (0 + 1080) + 1 + (0 + 27)) + 5 + (0 + 1 + (0 + 27) + 1 + (0 + 24)) + 7 + (0 + 1 + (0 + 24)) + 1 + (0 + 8))) (b := zn (zk_T_9 M q )) [] [.ref (zn (zk_T_9 M q )), .ref q] l_T_27 (k_Troupe l (zk_T_10 M q ) (zn (zk_T_9 M q )) (by have := he10.1; show zn (zk_T_9 M q ) < zn (zk_T_9 M q ) + 1; (exact zo_1083)) (congrArg Prod.fst (zal_sh (M := zk_T_9 M q ) (t := 7) (n := 9)))  (by have := he10.1; omega)) rfl rfl (by decide) ⟨by have := he10.1; have := hX.1; omega, by have := he10.2.1; show _ ≤ X.2; have := hX.2; omega⟩ (Nat.le_of_ble_eq_true rfl) (zdal_p dlA_T_init_0 (i := 22) rfl) (fun r M9 h9 _ _ => ?_)
  obtain ⟨rfl, rfl⟩ := h9
  have he11 : zExt M (zk_T_11 M q ) 80 (0 + 6 + (0 + 1 + (0 + 700)) + 4 + (0) + 9 + (0 + 8 + (0 + 1 + (0 + 4) + 1 + (0 + 24) + 1 + (0 + 576) + 1 + (0 + 24) + 1 + (0 + 24)) + 8 + (0 + 1 + (0 + 35) + 1 + (0 + 35) + 1 + (0 + 35) + 1 + (0 + 27) + 1 + (0 + 729)) + 3 + (0 + 1 + (0 + 1080) + 1 + (0 + 27)) + 5 + (0 + 1 + (0 + 27) + 1 + (0 + 24)) + 7 + (0 + 1 + (0 + 24)) + 1 + (0 + 8)) + 9 + (0 + 8 + (0 + 1 + (0 + 4) + 1 + (0 + 24) + 1 + (0 + 576) + 1 + (0 + 24) + 1 + (0 + 24)) + 8 + (0 + 1 + (0 + 35) + 1 + (0 + 35) + 1 + (0 + 35) + 1 + (0 + 27) + 1 + (0 + 729)) + 3 + (0 + 1 + (0 + 1080) + 1 + (0 + 27)) + 5 + (0 + 1 + (0 + 27) + 1 + (0 + 24)) + 7 + (0 + 1 + (0 + 24)) + 1 + (0 + 8))) q := he10.call (ext_Troupe (zk_T_10 M q ) (zn (zk_T_9 M q ))) (by have := he9.1; omega)
  have kf11_0 : zf (zk_T_11 M q ) q 0 = some (zn (M)) := (congrFun ((ext_Troupe (zk_T_10 M q ) (zn (zk_T_9 M q ))).2.2.2 q (by have := he10.1; (exact zo_1614 hm hq this)) (by have := he9.1; (exact zo_1615 hq this))) 0).trans kf10_0
  have kf11_1 : zf (zk_T_11 M q ) q 1 = some (zn (zk_T_3 M q )) := (congrFun ((ext_Troupe (zk_T_10 M q ) (zn (zk_T_9 M q ))).2.2.2 q (by have := he10.1; (exact zo_1614 hm hq this)) (by have := he9.1; (exact zo_1615 hq this))) 1).trans kf10_1
  have kf11_2 : zf (zk_T_11 M q ) q 2 = some (zn (zk_T_6 M q )) := (congrFun ((ext_Troupe (zk_T_10 M q ) (zn (zk_T_9 M q ))).2.2.2 q (by have := he10.1; (exact zo_1614 hm hq this)) (by have := he9.1; (exact zo_1615 hq this))) 2).trans kf10_2
  show zW l m_T_init X (zk_T_11 M q ) 49 [some (.ref q)] [.ref (zn (zk_T_9 M q )), .ref q] _
  refine zw_putR (pc := 49) (x := zn (zk_T_9 M q )) (Or.inl ⟨f_T_32, rfl⟩) rfl (he11.q hq hqk) (fun _ => rfl) (fun _ => rfl) (zdal_p dlA_T_init_0 (i := 23) rfl) ?_
  have he12 : zExt M (zk_T_12 M q ) 80 (0 + 6 + (0 + 1 + (0 + 700)) + 4 + (0) + 9 + (0 + 8 + (0 + 1 + (0 + 4) + 1 + (0 + 24) + 1 + (0 + 576) + 1 + (0 + 24) + 1 + (0 + 24)) + 8 + (0 + 1 + (0 + 35) + 1 + (0 + 35) + 1 + (0 + 35) + 1 + (0 + 27) + 1 + (0 + 729)) + 3 + (0 + 1 + (0 + 1080) + 1 + (0 + 27)) + 5 + (0 + 1 + (0 + 27) + 1 + (0 + 24)) + 7 + (0 + 1 + (0 + 24)) + 1 + (0 + 8)) + 9 + (0 + 8 + (0 + 1 + (0 + 4) + 1 + (0 + 24) + 1 + (0 + 576) + 1 + (0 + 24) + 1 + (0 + 24)) + 8 + (0 + 1 + (0 + 35) + 1 + (0 + 35) + 1 + (0 + 35) + 1 + (0 + 27) + 1 + (0 + 729)) + 3 + (0 + 1 + (0 + 1080) + 1 + (0 + 27)) + 5 + (0 + 1 + (0 + 27) + 1 + (0 + 24)) + 7 + (0 + 1 + (0 + 24)) + 1 + (0 + 8))) q := he11.put
  have kf12_0 : zf (zk_T_12 M q ) q 0 = some (zn (M)) := (zup2_n (fun z => absurd z.2 (by decide))).trans kf11_0
  have kf12_1 : zf (zk_T_12 M q ) q 1 = some (zn (zk_T_3 M q )) := (zup2_n (fun z => absurd z.2 (by decide))).trans kf11_1
  have kf12_2 : zf (zk_T_12 M q ) q 2 = some (zn (zk_T_6 M q )) := (zup2_n (fun z => absurd z.2 (by decide))).trans kf11_2
  show zW l m_T_init X (zk_T_12 M q ) 52 [some (.ref q)] [] _
  have kn12 : zf (zk_T_12 M q ) q 3 = some (zn (zk_T_9 M q )) := zup2_s
  refine zw_aload_n (pc := 52) (n := 0) (x := q) rfl (zdal_p dlA_T_init_1 (i := 0) rfl) ?_
  refine zw_getF (pc := 53) f_T_28 rfl (he12.q hq hqk) kf12_2 (zdal_p dlA_T_init_1 (i := 1) rfl) ?_
  refine zw_iconst (pc := 56) (v := nI 1) (by decide) (zdal_p dlA_T_init_1 (i := 2) rfl) ?_
  exact kk
def zM0 : zMem := ((0, 0), fun _ => (0, 0), fun _ _ => 0, fun _ _ => 0, fun _ _ => none)
def zMT : zMem := zk_T_12 (zal zM0 3 4) 0 
def zTyB (B : Nat) (M : zMem) : Bool := (List.range B).all fun q => ((zsh M q).2 ≤ 1000000) && (((zsh M q).1 < 3) || ((zsh M q).1 ≥ 14) || ((List.range (zN ((zsh M q).1 - 3))).all fun j => (zG ((zsh M q).1 - 3) j != 2) || (match zf M q j with | some r => (r < B) && ((zsh M r).1 == zH ((zsh M q).1 - 3) j) | none => false)))
theorem zTy_of {B : Nat} {M : zMem} (h : zTyB B M = true) : zTy B M := by
  have key : ∀ q, q < B → _ := fun q hq => List.all_eq_true.mp h q (List.mem_range.mpr hq)
  refine ⟨fun q ci j h1 h2 h3 h4 h5 => ?_, fun q h1 => ?_⟩
  · have h6 := key q h1
    rw [h2, Nat.add_sub_cancel] at h6
    simp only [Bool.and_eq_true, Bool.or_eq_true, decide_eq_true_eq] at h6
    rcases h6.2 with (h7 | h7) | h7
    · omega
    · omega
    · have h8 := List.all_eq_true.mp h7 j (List.mem_range.mpr h4)
      rw [h5] at h8
      cases hz : zf M q j with
      | none => rw [hz] at h8; simp at h8
      | some r =>
        rw [hz] at h8
        simp only [bne_self_eq_false, Bool.false_or, Bool.and_eq_true, decide_eq_true_eq, beq_iff_eq] at h8
        exact ⟨r, rfl, h8.1, h8.2⟩
  · have h6 := key q h1
    simp only [Bool.and_eq_true, decide_eq_true_eq] at h6
    exact h6.1
set_option maxRecDepth 100000 in
theorem zMT_ty : zTyB 81 zMT = true := by decide +kernel
set_option maxRecDepth 100000 in
theorem zMT_facts : zn zMT = 81 ∧ zw zMT = 6233 ∧ (zsh zMT 0).1 = 3 ∧ zf zMT 0 0 = some 1 ∧ (zsh zMT 1).1 = 4 ∧ zi zMT 1 1 = 0 ∧ zf zMT 0 2 = some 5 ∧ (zsh zMT 5).1 = 7 := by decide +kernel
