theorem dlD_M_moves_0 : zdal (zb m_M_moves) [(0, (.aload_n 0, 1)), (1, (.iload_n 1, 1)), (2, (.invokevirtual 400, 3)), (5, (.ifCond .eq 33, 3)), (8, (.iload_n 2, 1)), (9, (.i2l, 1)), (10, (.lconst 0, 1)), (11, (.aload_n 0, 1)), (12, (.getfield 382, 3)), (15, (.iconst 1, 1)), (16, (.isub, 1)), (17, (.i2l, 1)), (18, (.invokestatic 131, 3)), (21, (.ifCond .eq 17, 3)), (24, (.aload_n 0, 1)), (25, (.getfield 26, 3)), (28, (.bipush 6, 2)), (30, (.iload_n 1, 1)), (31, (.imul, 1)), (32, (.iload_n 2, 1)), (33, (.iadd, 1)), (34, (.iaload, 1)), (35, (.goto 4, 3)), (38, (.iconst (-1), 1))] = true := zDs 0 (by decide +kernel)
theorem d_M_moves_0 : decode (zb m_M_moves) 0 = .ok (.aload_n 0, 1) := zdal_p dlD_M_moves_0 (i := 0) rfl
theorem d_M_moves_1 : decode (zb m_M_moves) 1 = .ok (.iload_n 1, 1) := zdal_p dlD_M_moves_0 (i := 1) rfl
theorem d_M_moves_2 : decode (zb m_M_moves) 2 = .ok (.invokevirtual 400, 3) := zdal_p dlD_M_moves_0 (i := 2) rfl
theorem d_M_moves_5 : decode (zb m_M_moves) 5 = .ok (.ifCond .eq 33, 3) := zdal_p dlD_M_moves_0 (i := 3) rfl
theorem d_M_moves_8 : decode (zb m_M_moves) 8 = .ok (.iload_n 2, 1) := zdal_p dlD_M_moves_0 (i := 4) rfl
theorem d_M_moves_9 : decode (zb m_M_moves) 9 = .ok (.i2l, 1) := zdal_p dlD_M_moves_0 (i := 5) rfl
theorem d_M_moves_10 : decode (zb m_M_moves) 10 = .ok (.lconst 0, 1) := zdal_p dlD_M_moves_0 (i := 6) rfl
theorem d_M_moves_11 : decode (zb m_M_moves) 11 = .ok (.aload_n 0, 1) := zdal_p dlD_M_moves_0 (i := 7) rfl
theorem d_M_moves_12 : decode (zb m_M_moves) 12 = .ok (.getfield 382, 3) := zdal_p dlD_M_moves_0 (i := 8) rfl
theorem d_M_moves_15 : decode (zb m_M_moves) 15 = .ok (.iconst 1, 1) := zdal_p dlD_M_moves_0 (i := 9) rfl
theorem d_M_moves_16 : decode (zb m_M_moves) 16 = .ok (.isub, 1) := zdal_p dlD_M_moves_0 (i := 10) rfl
theorem d_M_moves_17 : decode (zb m_M_moves) 17 = .ok (.i2l, 1) := zdal_p dlD_M_moves_0 (i := 11) rfl
theorem d_M_moves_18 : decode (zb m_M_moves) 18 = .ok (.invokestatic 131, 3) := zdal_p dlD_M_moves_0 (i := 12) rfl
theorem d_M_moves_21 : decode (zb m_M_moves) 21 = .ok (.ifCond .eq 17, 3) := zdal_p dlD_M_moves_0 (i := 13) rfl
theorem d_M_moves_24 : decode (zb m_M_moves) 24 = .ok (.aload_n 0, 1) := zdal_p dlD_M_moves_0 (i := 14) rfl
theorem d_M_moves_25 : decode (zb m_M_moves) 25 = .ok (.getfield 26, 3) := zdal_p dlD_M_moves_0 (i := 15) rfl
theorem d_M_moves_28 : decode (zb m_M_moves) 28 = .ok (.bipush 6, 2) := zdal_p dlD_M_moves_0 (i := 16) rfl
theorem d_M_moves_30 : decode (zb m_M_moves) 30 = .ok (.iload_n 1, 1) := zdal_p dlD_M_moves_0 (i := 17) rfl
theorem d_M_moves_31 : decode (zb m_M_moves) 31 = .ok (.imul, 1) := zdal_p dlD_M_moves_0 (i := 18) rfl
theorem d_M_moves_32 : decode (zb m_M_moves) 32 = .ok (.iload_n 2, 1) := zdal_p dlD_M_moves_0 (i := 19) rfl
theorem d_M_moves_33 : decode (zb m_M_moves) 33 = .ok (.iadd, 1) := zdal_p dlD_M_moves_0 (i := 20) rfl
theorem d_M_moves_34 : decode (zb m_M_moves) 34 = .ok (.iaload, 1) := zdal_p dlD_M_moves_0 (i := 21) rfl
theorem d_M_moves_35 : decode (zb m_M_moves) 35 = .ok (.goto 4, 3) := zdal_p dlD_M_moves_0 (i := 22) rfl
theorem d_M_moves_38 : decode (zb m_M_moves) 38 = .ok (.iconst (-1), 1) := zdal_p dlD_M_moves_0 (i := 23) rfl
theorem dlD_M_moves_1 : zdal (zb m_M_moves) [(39, (.ireturn, 1))] = true := zDs 39 (by decide +kernel)
theorem d_M_moves_39 : decode (zb m_M_moves) 39 = .ok (.ireturn, 1) := zdal_p dlD_M_moves_1 (i := 0) rfl
theorem dlD_M_isMember_2 : zdal (zb m_M_isMember) [(0, (.iload_n 1, 1)), (1, (.i2l, 1)), (2, (.lconst 0, 1)), (3, (.aload_n 0, 1)), (4, (.getfield 196, 3)), (7, (.iconst 1, 1)), (8, (.isub, 1)), (9, (.i2l, 1)), (10, (.invokestatic 131, 3)), (13, (.ireturn, 1))] = true := zDs 0 (by decide +kernel)
theorem d_M_isMember_0 : decode (zb m_M_isMember) 0 = .ok (.iload_n 1, 1) := zdal_p dlD_M_isMember_2 (i := 0) rfl
theorem d_M_isMember_1 : decode (zb m_M_isMember) 1 = .ok (.i2l, 1) := zdal_p dlD_M_isMember_2 (i := 1) rfl
theorem d_M_isMember_2 : decode (zb m_M_isMember) 2 = .ok (.lconst 0, 1) := zdal_p dlD_M_isMember_2 (i := 2) rfl
theorem d_M_isMember_3 : decode (zb m_M_isMember) 3 = .ok (.aload_n 0, 1) := zdal_p dlD_M_isMember_2 (i := 3) rfl
theorem d_M_isMember_4 : decode (zb m_M_isMember) 4 = .ok (.getfield 196, 3) := zdal_p dlD_M_isMember_2 (i := 4) rfl
theorem d_M_isMember_7 : decode (zb m_M_isMember) 7 = .ok (.iconst 1, 1) := zdal_p dlD_M_isMember_2 (i := 5) rfl
theorem d_M_isMember_8 : decode (zb m_M_isMember) 8 = .ok (.isub, 1) := zdal_p dlD_M_isMember_2 (i := 6) rfl
theorem d_M_isMember_9 : decode (zb m_M_isMember) 9 = .ok (.i2l, 1) := zdal_p dlD_M_isMember_2 (i := 7) rfl
theorem d_M_isMember_10 : decode (zb m_M_isMember) 10 = .ok (.invokestatic 131, 3) := zdal_p dlD_M_isMember_2 (i := 8) rfl
theorem d_M_isMember_13 : decode (zb m_M_isMember) 13 = .ok (.ireturn, 1) := zdal_p dlD_M_isMember_2 (i := 9) rfl
theorem dlD_M_times_3 : zdal (zb m_M_times) [(0, (.aload_n 0, 1)), (1, (.iload_n 1, 1)), (2, (.invokevirtual 400, 3)), (5, (.ifCond .eq 20, 3)), (8, (.aload_n 0, 1)), (9, (.iload_n 2, 1)), (10, (.invokevirtual 400, 3)), (13, (.ifCond .eq 12, 3)), (16, (.aload_n 0, 1)), (17, (.iload_n 1, 1)), (18, (.iload_n 2, 1)), (19, (.invokevirtual 216, 3)), (22, (.goto 4, 3)), (25, (.iconst (-1), 1)), (26, (.ireturn, 1))] = true := zDs 0 (by decide +kernel)
theorem d_M_times_0 : decode (zb m_M_times) 0 = .ok (.aload_n 0, 1) := zdal_p dlD_M_times_3 (i := 0) rfl
theorem d_M_times_1 : decode (zb m_M_times) 1 = .ok (.iload_n 1, 1) := zdal_p dlD_M_times_3 (i := 1) rfl
theorem d_M_times_2 : decode (zb m_M_times) 2 = .ok (.invokevirtual 400, 3) := zdal_p dlD_M_times_3 (i := 2) rfl
theorem d_M_times_5 : decode (zb m_M_times) 5 = .ok (.ifCond .eq 20, 3) := zdal_p dlD_M_times_3 (i := 3) rfl
theorem d_M_times_8 : decode (zb m_M_times) 8 = .ok (.aload_n 0, 1) := zdal_p dlD_M_times_3 (i := 4) rfl
theorem d_M_times_9 : decode (zb m_M_times) 9 = .ok (.iload_n 2, 1) := zdal_p dlD_M_times_3 (i := 5) rfl
theorem d_M_times_10 : decode (zb m_M_times) 10 = .ok (.invokevirtual 400, 3) := zdal_p dlD_M_times_3 (i := 6) rfl
theorem d_M_times_13 : decode (zb m_M_times) 13 = .ok (.ifCond .eq 12, 3) := zdal_p dlD_M_times_3 (i := 7) rfl
theorem d_M_times_16 : decode (zb m_M_times) 16 = .ok (.aload_n 0, 1) := zdal_p dlD_M_times_3 (i := 8) rfl
theorem d_M_times_17 : decode (zb m_M_times) 17 = .ok (.iload_n 1, 1) := zdal_p dlD_M_times_3 (i := 9) rfl
theorem d_M_times_18 : decode (zb m_M_times) 18 = .ok (.iload_n 2, 1) := zdal_p dlD_M_times_3 (i := 10) rfl
theorem d_M_times_19 : decode (zb m_M_times) 19 = .ok (.invokevirtual 216, 3) := zdal_p dlD_M_times_3 (i := 11) rfl
theorem d_M_times_22 : decode (zb m_M_times) 22 = .ok (.goto 4, 3) := zdal_p dlD_M_times_3 (i := 12) rfl
theorem d_M_times_25 : decode (zb m_M_times) 25 = .ok (.iconst (-1), 1) := zdal_p dlD_M_times_3 (i := 13) rfl
theorem d_M_times_26 : decode (zb m_M_times) 26 = .ok (.ireturn, 1) := zdal_p dlD_M_times_3 (i := 14) rfl
theorem dlD_M_order_4 : zdal (zb m_M_order) [(0, (.aload_n 0, 1)), (1, (.iload_n 1, 1)), (2, (.invokevirtual 400, 3)), (5, (.ifCond .eq 11, 3)), (8, (.aload_n 0, 1)), (9, (.iload_n 1, 1)), (10, (.invokevirtual 403, 3)), (13, (.goto 4, 3)), (16, (.iconst (-1), 1)), (17, (.ireturn, 1))] = true := zDs 0 (by decide +kernel)
theorem d_M_order_0 : decode (zb m_M_order) 0 = .ok (.aload_n 0, 1) := zdal_p dlD_M_order_4 (i := 0) rfl
theorem d_M_order_1 : decode (zb m_M_order) 1 = .ok (.iload_n 1, 1) := zdal_p dlD_M_order_4 (i := 1) rfl
theorem d_M_order_2 : decode (zb m_M_order) 2 = .ok (.invokevirtual 400, 3) := zdal_p dlD_M_order_4 (i := 2) rfl
theorem d_M_order_5 : decode (zb m_M_order) 5 = .ok (.ifCond .eq 11, 3) := zdal_p dlD_M_order_4 (i := 3) rfl
theorem d_M_order_8 : decode (zb m_M_order) 8 = .ok (.aload_n 0, 1) := zdal_p dlD_M_order_4 (i := 4) rfl
theorem d_M_order_9 : decode (zb m_M_order) 9 = .ok (.iload_n 1, 1) := zdal_p dlD_M_order_4 (i := 5) rfl
theorem d_M_order_10 : decode (zb m_M_order) 10 = .ok (.invokevirtual 403, 3) := zdal_p dlD_M_order_4 (i := 6) rfl
theorem d_M_order_13 : decode (zb m_M_order) 13 = .ok (.goto 4, 3) := zdal_p dlD_M_order_4 (i := 7) rfl
theorem d_M_order_16 : decode (zb m_M_order) 16 = .ok (.iconst (-1), 1) := zdal_p dlD_M_order_4 (i := 8) rfl
theorem d_M_order_17 : decode (zb m_M_order) 17 = .ok (.ireturn, 1) := zdal_p dlD_M_order_4 (i := 9) rfl
theorem dlD_M_timesOf_5 : zdal (zb m_M_timesOf) [(0, (.iconst 1, 1)), (1, (.istore_n 2, 1)), (2, (.iload_n 1, 1)), (3, (.istore_n 3, 1)), (4, (.iload_n 3, 1)), (5, (.ifCond .eq 16, 3)), (8, (.iinc 2 1, 3)), (11, (.aload_n 0, 1)), (12, (.iload_n 3, 1)), (13, (.iload_n 1, 1)), (14, (.invokevirtual 216, 3)), (17, (.istore_n 3, 1)), (18, (.goto (-14), 3)), (21, (.iload_n 2, 1)), (22, (.ireturn, 1))] = true := zDs 0 (by decide +kernel)
theorem d_M_timesOf_0 : decode (zb m_M_timesOf) 0 = .ok (.iconst 1, 1) := zdal_p dlD_M_timesOf_5 (i := 0) rfl
theorem d_M_timesOf_1 : decode (zb m_M_timesOf) 1 = .ok (.istore_n 2, 1) := zdal_p dlD_M_timesOf_5 (i := 1) rfl
theorem d_M_timesOf_2 : decode (zb m_M_timesOf) 2 = .ok (.iload_n 1, 1) := zdal_p dlD_M_timesOf_5 (i := 2) rfl
theorem d_M_timesOf_3 : decode (zb m_M_timesOf) 3 = .ok (.istore_n 3, 1) := zdal_p dlD_M_timesOf_5 (i := 3) rfl
theorem d_M_timesOf_4 : decode (zb m_M_timesOf) 4 = .ok (.iload_n 3, 1) := zdal_p dlD_M_timesOf_5 (i := 4) rfl
theorem d_M_timesOf_5 : decode (zb m_M_timesOf) 5 = .ok (.ifCond .eq 16, 3) := zdal_p dlD_M_timesOf_5 (i := 5) rfl
theorem d_M_timesOf_8 : decode (zb m_M_timesOf) 8 = .ok (.iinc 2 1, 3) := zdal_p dlD_M_timesOf_5 (i := 6) rfl
theorem d_M_timesOf_11 : decode (zb m_M_timesOf) 11 = .ok (.aload_n 0, 1) := zdal_p dlD_M_timesOf_5 (i := 7) rfl
theorem d_M_timesOf_12 : decode (zb m_M_timesOf) 12 = .ok (.iload_n 3, 1) := zdal_p dlD_M_timesOf_5 (i := 8) rfl
theorem d_M_timesOf_13 : decode (zb m_M_timesOf) 13 = .ok (.iload_n 1, 1) := zdal_p dlD_M_timesOf_5 (i := 9) rfl
theorem d_M_timesOf_14 : decode (zb m_M_timesOf) 14 = .ok (.invokevirtual 216, 3) := zdal_p dlD_M_timesOf_5 (i := 10) rfl
theorem d_M_timesOf_17 : decode (zb m_M_timesOf) 17 = .ok (.istore_n 3, 1) := zdal_p dlD_M_timesOf_5 (i := 11) rfl
theorem d_M_timesOf_18 : decode (zb m_M_timesOf) 18 = .ok (.goto (-14), 3) := zdal_p dlD_M_timesOf_5 (i := 12) rfl
theorem d_M_timesOf_21 : decode (zb m_M_timesOf) 21 = .ok (.iload_n 2, 1) := zdal_p dlD_M_timesOf_5 (i := 13) rfl
theorem d_M_timesOf_22 : decode (zb m_M_timesOf) 22 = .ok (.ireturn, 1) := zdal_p dlD_M_timesOf_5 (i := 14) rfl
theorem dlD_M_orders_6 : zdal (zb m_M_orders) [(0, (.iload_n 1, 1)), (1, (.i2l, 1)), (2, (.lconst 1, 1)), (3, (.ldc2_w 406, 3)), (6, (.invokestatic 131, 3)), (9, (.ifCond .ne 5, 3)), (12, (.iconst (-1), 1)), (13, (.ireturn, 1)), (14, (.iconst 0, 1)), (15, (.istore_n 2, 1)), (16, (.iconst 0, 1)), (17, (.istore_n 3, 1)), (18, (.iload_n 3, 1)), (19, (.aload_n 0, 1)), (20, (.getfield 196, 3)), (23, (.if_icmp .ge 29, 3)), (26, (.iload_n 2, 1)), (27, (.aload_n 0, 1)), (28, (.iload_n 3, 1)), (29, (.invokevirtual 403, 3)), (32, (.iload_n 1, 1)), (33, (.if_icmp .ne 7, 3)), (36, (.iconst 1, 1)), (37, (.goto 4, 3))] = true := zDs 0 (by decide +kernel)
theorem d_M_orders_0 : decode (zb m_M_orders) 0 = .ok (.iload_n 1, 1) := zdal_p dlD_M_orders_6 (i := 0) rfl
theorem d_M_orders_1 : decode (zb m_M_orders) 1 = .ok (.i2l, 1) := zdal_p dlD_M_orders_6 (i := 1) rfl
theorem d_M_orders_2 : decode (zb m_M_orders) 2 = .ok (.lconst 1, 1) := zdal_p dlD_M_orders_6 (i := 2) rfl
theorem d_M_orders_3 : decode (zb m_M_orders) 3 = .ok (.ldc2_w 406, 3) := zdal_p dlD_M_orders_6 (i := 3) rfl
theorem d_M_orders_6 : decode (zb m_M_orders) 6 = .ok (.invokestatic 131, 3) := zdal_p dlD_M_orders_6 (i := 4) rfl
theorem d_M_orders_9 : decode (zb m_M_orders) 9 = .ok (.ifCond .ne 5, 3) := zdal_p dlD_M_orders_6 (i := 5) rfl
theorem d_M_orders_12 : decode (zb m_M_orders) 12 = .ok (.iconst (-1), 1) := zdal_p dlD_M_orders_6 (i := 6) rfl
theorem d_M_orders_13 : decode (zb m_M_orders) 13 = .ok (.ireturn, 1) := zdal_p dlD_M_orders_6 (i := 7) rfl
theorem d_M_orders_14 : decode (zb m_M_orders) 14 = .ok (.iconst 0, 1) := zdal_p dlD_M_orders_6 (i := 8) rfl
theorem d_M_orders_15 : decode (zb m_M_orders) 15 = .ok (.istore_n 2, 1) := zdal_p dlD_M_orders_6 (i := 9) rfl
theorem d_M_orders_16 : decode (zb m_M_orders) 16 = .ok (.iconst 0, 1) := zdal_p dlD_M_orders_6 (i := 10) rfl
theorem d_M_orders_17 : decode (zb m_M_orders) 17 = .ok (.istore_n 3, 1) := zdal_p dlD_M_orders_6 (i := 11) rfl
theorem d_M_orders_18 : decode (zb m_M_orders) 18 = .ok (.iload_n 3, 1) := zdal_p dlD_M_orders_6 (i := 12) rfl
theorem d_M_orders_19 : decode (zb m_M_orders) 19 = .ok (.aload_n 0, 1) := zdal_p dlD_M_orders_6 (i := 13) rfl
theorem d_M_orders_20 : decode (zb m_M_orders) 20 = .ok (.getfield 196, 3) := zdal_p dlD_M_orders_6 (i := 14) rfl
theorem d_M_orders_23 : decode (zb m_M_orders) 23 = .ok (.if_icmp .ge 29, 3) := zdal_p dlD_M_orders_6 (i := 15) rfl
theorem d_M_orders_26 : decode (zb m_M_orders) 26 = .ok (.iload_n 2, 1) := zdal_p dlD_M_orders_6 (i := 16) rfl
theorem d_M_orders_27 : decode (zb m_M_orders) 27 = .ok (.aload_n 0, 1) := zdal_p dlD_M_orders_6 (i := 17) rfl
theorem d_M_orders_28 : decode (zb m_M_orders) 28 = .ok (.iload_n 3, 1) := zdal_p dlD_M_orders_6 (i := 18) rfl
theorem d_M_orders_29 : decode (zb m_M_orders) 29 = .ok (.invokevirtual 403, 3) := zdal_p dlD_M_orders_6 (i := 19) rfl
theorem d_M_orders_32 : decode (zb m_M_orders) 32 = .ok (.iload_n 1, 1) := zdal_p dlD_M_orders_6 (i := 20) rfl
theorem d_M_orders_33 : decode (zb m_M_orders) 33 = .ok (.if_icmp .ne 7, 3) := zdal_p dlD_M_orders_6 (i := 21) rfl
theorem d_M_orders_36 : decode (zb m_M_orders) 36 = .ok (.iconst 1, 1) := zdal_p dlD_M_orders_6 (i := 22) rfl
theorem d_M_orders_37 : decode (zb m_M_orders) 37 = .ok (.goto 4, 3) := zdal_p dlD_M_orders_6 (i := 23) rfl
theorem dlD_M_orders_7 : zdal (zb m_M_orders) [(40, (.iconst 0, 1)), (41, (.invokestatic 256, 3)), (44, (.iadd, 1)), (45, (.istore_n 2, 1)), (46, (.iinc 3 1, 3)), (49, (.goto (-31), 3)), (52, (.iload_n 2, 1)), (53, (.ireturn, 1))] = true := zDs 40 (by decide +kernel)
theorem d_M_orders_40 : decode (zb m_M_orders) 40 = .ok (.iconst 0, 1) := zdal_p dlD_M_orders_7 (i := 0) rfl
theorem d_M_orders_41 : decode (zb m_M_orders) 41 = .ok (.invokestatic 256, 3) := zdal_p dlD_M_orders_7 (i := 1) rfl
theorem d_M_orders_44 : decode (zb m_M_orders) 44 = .ok (.iadd, 1) := zdal_p dlD_M_orders_7 (i := 2) rfl
theorem d_M_orders_45 : decode (zb m_M_orders) 45 = .ok (.istore_n 2, 1) := zdal_p dlD_M_orders_7 (i := 3) rfl
theorem d_M_orders_46 : decode (zb m_M_orders) 46 = .ok (.iinc 3 1, 3) := zdal_p dlD_M_orders_7 (i := 4) rfl
theorem d_M_orders_49 : decode (zb m_M_orders) 49 = .ok (.goto (-31), 3) := zdal_p dlD_M_orders_7 (i := 5) rfl
theorem d_M_orders_52 : decode (zb m_M_orders) 52 = .ok (.iload_n 2, 1) := zdal_p dlD_M_orders_7 (i := 6) rfl
theorem d_M_orders_53 : decode (zb m_M_orders) 53 = .ok (.ireturn, 1) := zdal_p dlD_M_orders_7 (i := 7) rfl
theorem dlD_M_alike_8 : zdal (zb m_M_alike) [(0, (.iconst 0, 1)), (1, (.istore_n 1, 1)), (2, (.iconst 0, 1)), (3, (.istore_n 2, 1)), (4, (.iload_n 2, 1)), (5, (.aload_n 0, 1)), (6, (.getfield 196, 3)), (9, (.if_icmp .ge 51, 3)), (12, (.iconst 0, 1)), (13, (.istore_n 3, 1)), (14, (.iload_n 3, 1)), (15, (.aload_n 0, 1)), (16, (.getfield 196, 3)), (19, (.if_icmp .ge 35, 3)), (22, (.iload_n 1, 1)), (23, (.aload_n 0, 1)), (24, (.iload_n 2, 1)), (25, (.iload_n 3, 1)), (26, (.invokevirtual 216, 3)), (29, (.aload_n 0, 1)), (30, (.iload_n 3, 1)), (31, (.iload_n 2, 1)), (32, (.invokevirtual 216, 3)), (35, (.if_icmp .ne 7, 3))] = true := zDs 0 (by decide +kernel)
theorem d_M_alike_0 : decode (zb m_M_alike) 0 = .ok (.iconst 0, 1) := zdal_p dlD_M_alike_8 (i := 0) rfl
theorem d_M_alike_1 : decode (zb m_M_alike) 1 = .ok (.istore_n 1, 1) := zdal_p dlD_M_alike_8 (i := 1) rfl
theorem d_M_alike_2 : decode (zb m_M_alike) 2 = .ok (.iconst 0, 1) := zdal_p dlD_M_alike_8 (i := 2) rfl
theorem d_M_alike_3 : decode (zb m_M_alike) 3 = .ok (.istore_n 2, 1) := zdal_p dlD_M_alike_8 (i := 3) rfl
theorem d_M_alike_4 : decode (zb m_M_alike) 4 = .ok (.iload_n 2, 1) := zdal_p dlD_M_alike_8 (i := 4) rfl
theorem d_M_alike_5 : decode (zb m_M_alike) 5 = .ok (.aload_n 0, 1) := zdal_p dlD_M_alike_8 (i := 5) rfl
theorem d_M_alike_6 : decode (zb m_M_alike) 6 = .ok (.getfield 196, 3) := zdal_p dlD_M_alike_8 (i := 6) rfl
theorem d_M_alike_9 : decode (zb m_M_alike) 9 = .ok (.if_icmp .ge 51, 3) := zdal_p dlD_M_alike_8 (i := 7) rfl
theorem d_M_alike_12 : decode (zb m_M_alike) 12 = .ok (.iconst 0, 1) := zdal_p dlD_M_alike_8 (i := 8) rfl
theorem d_M_alike_13 : decode (zb m_M_alike) 13 = .ok (.istore_n 3, 1) := zdal_p dlD_M_alike_8 (i := 9) rfl
theorem d_M_alike_14 : decode (zb m_M_alike) 14 = .ok (.iload_n 3, 1) := zdal_p dlD_M_alike_8 (i := 10) rfl
theorem d_M_alike_15 : decode (zb m_M_alike) 15 = .ok (.aload_n 0, 1) := zdal_p dlD_M_alike_8 (i := 11) rfl
theorem d_M_alike_16 : decode (zb m_M_alike) 16 = .ok (.getfield 196, 3) := zdal_p dlD_M_alike_8 (i := 12) rfl
theorem d_M_alike_19 : decode (zb m_M_alike) 19 = .ok (.if_icmp .ge 35, 3) := zdal_p dlD_M_alike_8 (i := 13) rfl
theorem d_M_alike_22 : decode (zb m_M_alike) 22 = .ok (.iload_n 1, 1) := zdal_p dlD_M_alike_8 (i := 14) rfl
theorem d_M_alike_23 : decode (zb m_M_alike) 23 = .ok (.aload_n 0, 1) := zdal_p dlD_M_alike_8 (i := 15) rfl
theorem d_M_alike_24 : decode (zb m_M_alike) 24 = .ok (.iload_n 2, 1) := zdal_p dlD_M_alike_8 (i := 16) rfl
theorem d_M_alike_25 : decode (zb m_M_alike) 25 = .ok (.iload_n 3, 1) := zdal_p dlD_M_alike_8 (i := 17) rfl
theorem d_M_alike_26 : decode (zb m_M_alike) 26 = .ok (.invokevirtual 216, 3) := zdal_p dlD_M_alike_8 (i := 18) rfl
theorem d_M_alike_29 : decode (zb m_M_alike) 29 = .ok (.aload_n 0, 1) := zdal_p dlD_M_alike_8 (i := 19) rfl
theorem d_M_alike_30 : decode (zb m_M_alike) 30 = .ok (.iload_n 3, 1) := zdal_p dlD_M_alike_8 (i := 20) rfl
theorem d_M_alike_31 : decode (zb m_M_alike) 31 = .ok (.iload_n 2, 1) := zdal_p dlD_M_alike_8 (i := 21) rfl
theorem d_M_alike_32 : decode (zb m_M_alike) 32 = .ok (.invokevirtual 216, 3) := zdal_p dlD_M_alike_8 (i := 22) rfl
theorem d_M_alike_35 : decode (zb m_M_alike) 35 = .ok (.if_icmp .ne 7, 3) := zdal_p dlD_M_alike_8 (i := 23) rfl
theorem dlD_M_alike_9 : zdal (zb m_M_alike) [(38, (.iconst 1, 1)), (39, (.goto 4, 3)), (42, (.iconst 0, 1)), (43, (.invokestatic 256, 3)), (46, (.iadd, 1)), (47, (.istore_n 1, 1)), (48, (.iinc 3 1, 3)), (51, (.goto (-37), 3)), (54, (.iinc 2 1, 3)), (57, (.goto (-53), 3)), (60, (.iload_n 1, 1)), (61, (.ireturn, 1))] = true := zDs 38 (by decide +kernel)
theorem d_M_alike_38 : decode (zb m_M_alike) 38 = .ok (.iconst 1, 1) := zdal_p dlD_M_alike_9 (i := 0) rfl
theorem d_M_alike_39 : decode (zb m_M_alike) 39 = .ok (.goto 4, 3) := zdal_p dlD_M_alike_9 (i := 1) rfl
theorem d_M_alike_42 : decode (zb m_M_alike) 42 = .ok (.iconst 0, 1) := zdal_p dlD_M_alike_9 (i := 2) rfl
theorem d_M_alike_43 : decode (zb m_M_alike) 43 = .ok (.invokestatic 256, 3) := zdal_p dlD_M_alike_9 (i := 3) rfl
theorem d_M_alike_46 : decode (zb m_M_alike) 46 = .ok (.iadd, 1) := zdal_p dlD_M_alike_9 (i := 4) rfl
theorem d_M_alike_47 : decode (zb m_M_alike) 47 = .ok (.istore_n 1, 1) := zdal_p dlD_M_alike_9 (i := 5) rfl
theorem d_M_alike_48 : decode (zb m_M_alike) 48 = .ok (.iinc 3 1, 3) := zdal_p dlD_M_alike_9 (i := 6) rfl
theorem d_M_alike_51 : decode (zb m_M_alike) 51 = .ok (.goto (-37), 3) := zdal_p dlD_M_alike_9 (i := 7) rfl
theorem d_M_alike_54 : decode (zb m_M_alike) 54 = .ok (.iinc 2 1, 3) := zdal_p dlD_M_alike_9 (i := 8) rfl
theorem d_M_alike_57 : decode (zb m_M_alike) 57 = .ok (.goto (-53), 3) := zdal_p dlD_M_alike_9 (i := 9) rfl
theorem d_M_alike_60 : decode (zb m_M_alike) 60 = .ok (.iload_n 1, 1) := zdal_p dlD_M_alike_9 (i := 10) rfl
theorem d_M_alike_61 : decode (zb m_M_alike) 61 = .ok (.ireturn, 1) := zdal_p dlD_M_alike_9 (i := 11) rfl
theorem dlD_M_makesOf_10 : zdal (zb m_M_makesOf) [(0, (.aload_n 0, 1)), (1, (.iload_n 1, 1)), (2, (.invokevirtual 408, 3)), (5, (.ifCond .eq 11, 3)), (8, (.aload_n 0, 1)), (9, (.iload_n 1, 1)), (10, (.invokevirtual 229, 3)), (13, (.goto 4, 3)), (16, (.iconst (-1), 1)), (17, (.ireturn, 1))] = true := zDs 0 (by decide +kernel)
theorem d_M_makesOf_0 : decode (zb m_M_makesOf) 0 = .ok (.aload_n 0, 1) := zdal_p dlD_M_makesOf_10 (i := 0) rfl
theorem d_M_makesOf_1 : decode (zb m_M_makesOf) 1 = .ok (.iload_n 1, 1) := zdal_p dlD_M_makesOf_10 (i := 1) rfl
theorem d_M_makesOf_2 : decode (zb m_M_makesOf) 2 = .ok (.invokevirtual 408, 3) := zdal_p dlD_M_makesOf_10 (i := 2) rfl
theorem d_M_makesOf_5 : decode (zb m_M_makesOf) 5 = .ok (.ifCond .eq 11, 3) := zdal_p dlD_M_makesOf_10 (i := 3) rfl
theorem d_M_makesOf_8 : decode (zb m_M_makesOf) 8 = .ok (.aload_n 0, 1) := zdal_p dlD_M_makesOf_10 (i := 4) rfl
theorem d_M_makesOf_9 : decode (zb m_M_makesOf) 9 = .ok (.iload_n 1, 1) := zdal_p dlD_M_makesOf_10 (i := 5) rfl
theorem d_M_makesOf_10 : decode (zb m_M_makesOf) 10 = .ok (.invokevirtual 229, 3) := zdal_p dlD_M_makesOf_10 (i := 6) rfl
theorem d_M_makesOf_13 : decode (zb m_M_makesOf) 13 = .ok (.goto 4, 3) := zdal_p dlD_M_makesOf_10 (i := 7) rfl
theorem d_M_makesOf_16 : decode (zb m_M_makesOf) 16 = .ok (.iconst (-1), 1) := zdal_p dlD_M_makesOf_10 (i := 8) rfl
theorem d_M_makesOf_17 : decode (zb m_M_makesOf) 17 = .ok (.ireturn, 1) := zdal_p dlD_M_makesOf_10 (i := 9) rfl
theorem dlD_M_areMembers_11 : zdal (zb m_M_areMembers) [(0, (.iload_n 1, 1)), (1, (.i2l, 1)), (2, (.lconst 0, 1)), (3, (.iconst 1, 1)), (4, (.aload_n 0, 1)), (5, (.getfield 196, 3)), (8, (.ishl, 1)), (9, (.iconst 1, 1)), (10, (.isub, 1)), (11, (.i2l, 1)), (12, (.invokestatic 131, 3)), (15, (.ireturn, 1))] = true := zDs 0 (by decide +kernel)
theorem d_M_areMembers_0 : decode (zb m_M_areMembers) 0 = .ok (.iload_n 1, 1) := zdal_p dlD_M_areMembers_11 (i := 0) rfl
theorem d_M_areMembers_1 : decode (zb m_M_areMembers) 1 = .ok (.i2l, 1) := zdal_p dlD_M_areMembers_11 (i := 1) rfl
theorem d_M_areMembers_2 : decode (zb m_M_areMembers) 2 = .ok (.lconst 0, 1) := zdal_p dlD_M_areMembers_11 (i := 2) rfl
theorem d_M_areMembers_3 : decode (zb m_M_areMembers) 3 = .ok (.iconst 1, 1) := zdal_p dlD_M_areMembers_11 (i := 3) rfl
theorem d_M_areMembers_4 : decode (zb m_M_areMembers) 4 = .ok (.aload_n 0, 1) := zdal_p dlD_M_areMembers_11 (i := 4) rfl
theorem d_M_areMembers_5 : decode (zb m_M_areMembers) 5 = .ok (.getfield 196, 3) := zdal_p dlD_M_areMembers_11 (i := 5) rfl
theorem d_M_areMembers_8 : decode (zb m_M_areMembers) 8 = .ok (.ishl, 1) := zdal_p dlD_M_areMembers_11 (i := 6) rfl
theorem d_M_areMembers_9 : decode (zb m_M_areMembers) 9 = .ok (.iconst 1, 1) := zdal_p dlD_M_areMembers_11 (i := 7) rfl
theorem d_M_areMembers_10 : decode (zb m_M_areMembers) 10 = .ok (.isub, 1) := zdal_p dlD_M_areMembers_11 (i := 8) rfl
theorem d_M_areMembers_11 : decode (zb m_M_areMembers) 11 = .ok (.i2l, 1) := zdal_p dlD_M_areMembers_11 (i := 9) rfl
theorem d_M_areMembers_12 : decode (zb m_M_areMembers) 12 = .ok (.invokestatic 131, 3) := zdal_p dlD_M_areMembers_11 (i := 10) rfl
theorem d_M_areMembers_15 : decode (zb m_M_areMembers) 15 = .ok (.ireturn, 1) := zdal_p dlD_M_areMembers_11 (i := 11) rfl
theorem dlD_M_sortOf_12 : zdal (zb m_M_sortOf) [(0, (.aload_n 0, 1)), (1, (.iload_n 1, 1)), (2, (.invokevirtual 408, 3)), (5, (.ifCond .eq 15, 3)), (8, (.aload_n 0, 1)), (9, (.aload_n 0, 1)), (10, (.iload_n 1, 1)), (11, (.invokevirtual 229, 3)), (14, (.invokevirtual 411, 3)), (17, (.goto 4, 3)), (20, (.iconst (-1), 1)), (21, (.ireturn, 1))] = true := zDs 0 (by decide +kernel)
theorem d_M_sortOf_0 : decode (zb m_M_sortOf) 0 = .ok (.aload_n 0, 1) := zdal_p dlD_M_sortOf_12 (i := 0) rfl
theorem d_M_sortOf_1 : decode (zb m_M_sortOf) 1 = .ok (.iload_n 1, 1) := zdal_p dlD_M_sortOf_12 (i := 1) rfl
theorem d_M_sortOf_2 : decode (zb m_M_sortOf) 2 = .ok (.invokevirtual 408, 3) := zdal_p dlD_M_sortOf_12 (i := 2) rfl
theorem d_M_sortOf_5 : decode (zb m_M_sortOf) 5 = .ok (.ifCond .eq 15, 3) := zdal_p dlD_M_sortOf_12 (i := 3) rfl
theorem d_M_sortOf_8 : decode (zb m_M_sortOf) 8 = .ok (.aload_n 0, 1) := zdal_p dlD_M_sortOf_12 (i := 4) rfl
theorem d_M_sortOf_9 : decode (zb m_M_sortOf) 9 = .ok (.aload_n 0, 1) := zdal_p dlD_M_sortOf_12 (i := 5) rfl
theorem d_M_sortOf_10 : decode (zb m_M_sortOf) 10 = .ok (.iload_n 1, 1) := zdal_p dlD_M_sortOf_12 (i := 6) rfl
theorem d_M_sortOf_11 : decode (zb m_M_sortOf) 11 = .ok (.invokevirtual 229, 3) := zdal_p dlD_M_sortOf_12 (i := 7) rfl
theorem d_M_sortOf_14 : decode (zb m_M_sortOf) 14 = .ok (.invokevirtual 411, 3) := zdal_p dlD_M_sortOf_12 (i := 8) rfl
theorem d_M_sortOf_17 : decode (zb m_M_sortOf) 17 = .ok (.goto 4, 3) := zdal_p dlD_M_sortOf_12 (i := 9) rfl
theorem d_M_sortOf_20 : decode (zb m_M_sortOf) 20 = .ok (.iconst (-1), 1) := zdal_p dlD_M_sortOf_12 (i := 10) rfl
theorem d_M_sortOf_21 : decode (zb m_M_sortOf) 21 = .ok (.ireturn, 1) := zdal_p dlD_M_sortOf_12 (i := 11) rfl
theorem dlD_M_sortOfSet_13 : zdal (zb m_M_sortOfSet) [(0, (.aload_n 0, 1)), (1, (.getfield 41, 3)), (4, (.aload_n 0, 1)), (5, (.iload_n 1, 1)), (6, (.invokevirtual 232, 3)), (9, (.iaload, 1)), (10, (.ireturn, 1))] = true := zDs 0 (by decide +kernel)
theorem d_M_sortOfSet_0 : decode (zb m_M_sortOfSet) 0 = .ok (.aload_n 0, 1) := zdal_p dlD_M_sortOfSet_13 (i := 0) rfl
theorem d_M_sortOfSet_1 : decode (zb m_M_sortOfSet) 1 = .ok (.getfield 41, 3) := zdal_p dlD_M_sortOfSet_13 (i := 1) rfl
theorem d_M_sortOfSet_4 : decode (zb m_M_sortOfSet) 4 = .ok (.aload_n 0, 1) := zdal_p dlD_M_sortOfSet_13 (i := 2) rfl
theorem d_M_sortOfSet_5 : decode (zb m_M_sortOfSet) 5 = .ok (.iload_n 1, 1) := zdal_p dlD_M_sortOfSet_13 (i := 3) rfl
theorem d_M_sortOfSet_6 : decode (zb m_M_sortOfSet) 6 = .ok (.invokevirtual 232, 3) := zdal_p dlD_M_sortOfSet_13 (i := 4) rfl
theorem d_M_sortOfSet_9 : decode (zb m_M_sortOfSet) 9 = .ok (.iaload, 1) := zdal_p dlD_M_sortOfSet_13 (i := 5) rfl
theorem d_M_sortOfSet_10 : decode (zb m_M_sortOfSet) 10 = .ok (.ireturn, 1) := zdal_p dlD_M_sortOfSet_13 (i := 6) rfl
theorem dlD_M_sort_14 : zdal (zb m_M_sort) [(0, (.aload_n 0, 1)), (1, (.iload_n 1, 1)), (2, (.invokevirtual 414, 3)), (5, (.ifCond .ne 5, 3)), (8, (.iconst (-1), 1)), (9, (.ireturn, 1)), (10, (.iload_n 2, 1)), (11, (.tableswitch 103 0 5 #[37, 47, 54, 61, 75, 89], 37)), (48, (.aload_n 0, 1)), (49, (.getfield 44, 3)), (52, (.iload_n 1, 1)), (53, (.iaload, 1)), (54, (.invokestatic 253, 3)), (57, (.ireturn, 1)), (58, (.aload_n 0, 1)), (59, (.getfield 47, 3)), (62, (.iload_n 1, 1)), (63, (.iaload, 1)), (64, (.ireturn, 1)), (65, (.aload_n 0, 1)), (66, (.getfield 44, 3)), (69, (.iload_n 1, 1)), (70, (.iaload, 1)), (71, (.ireturn, 1))] = true := zDs 0 (by decide +kernel)
theorem d_M_sort_0 : decode (zb m_M_sort) 0 = .ok (.aload_n 0, 1) := zdal_p dlD_M_sort_14 (i := 0) rfl
theorem d_M_sort_1 : decode (zb m_M_sort) 1 = .ok (.iload_n 1, 1) := zdal_p dlD_M_sort_14 (i := 1) rfl
theorem d_M_sort_2 : decode (zb m_M_sort) 2 = .ok (.invokevirtual 414, 3) := zdal_p dlD_M_sort_14 (i := 2) rfl
theorem d_M_sort_5 : decode (zb m_M_sort) 5 = .ok (.ifCond .ne 5, 3) := zdal_p dlD_M_sort_14 (i := 3) rfl
theorem d_M_sort_8 : decode (zb m_M_sort) 8 = .ok (.iconst (-1), 1) := zdal_p dlD_M_sort_14 (i := 4) rfl
theorem d_M_sort_9 : decode (zb m_M_sort) 9 = .ok (.ireturn, 1) := zdal_p dlD_M_sort_14 (i := 5) rfl
theorem d_M_sort_10 : decode (zb m_M_sort) 10 = .ok (.iload_n 2, 1) := zdal_p dlD_M_sort_14 (i := 6) rfl
theorem d_M_sort_11 : decode (zb m_M_sort) 11 = .ok (.tableswitch 103 0 5 #[37, 47, 54, 61, 75, 89], 37) := zdal_p dlD_M_sort_14 (i := 7) rfl
theorem d_M_sort_48 : decode (zb m_M_sort) 48 = .ok (.aload_n 0, 1) := zdal_p dlD_M_sort_14 (i := 8) rfl
theorem d_M_sort_49 : decode (zb m_M_sort) 49 = .ok (.getfield 44, 3) := zdal_p dlD_M_sort_14 (i := 9) rfl
theorem d_M_sort_52 : decode (zb m_M_sort) 52 = .ok (.iload_n 1, 1) := zdal_p dlD_M_sort_14 (i := 10) rfl
theorem d_M_sort_53 : decode (zb m_M_sort) 53 = .ok (.iaload, 1) := zdal_p dlD_M_sort_14 (i := 11) rfl
theorem d_M_sort_54 : decode (zb m_M_sort) 54 = .ok (.invokestatic 253, 3) := zdal_p dlD_M_sort_14 (i := 12) rfl
theorem d_M_sort_57 : decode (zb m_M_sort) 57 = .ok (.ireturn, 1) := zdal_p dlD_M_sort_14 (i := 13) rfl
theorem d_M_sort_58 : decode (zb m_M_sort) 58 = .ok (.aload_n 0, 1) := zdal_p dlD_M_sort_14 (i := 14) rfl
theorem d_M_sort_59 : decode (zb m_M_sort) 59 = .ok (.getfield 47, 3) := zdal_p dlD_M_sort_14 (i := 15) rfl
theorem d_M_sort_62 : decode (zb m_M_sort) 62 = .ok (.iload_n 1, 1) := zdal_p dlD_M_sort_14 (i := 16) rfl
theorem d_M_sort_63 : decode (zb m_M_sort) 63 = .ok (.iaload, 1) := zdal_p dlD_M_sort_14 (i := 17) rfl
theorem d_M_sort_64 : decode (zb m_M_sort) 64 = .ok (.ireturn, 1) := zdal_p dlD_M_sort_14 (i := 18) rfl
theorem d_M_sort_65 : decode (zb m_M_sort) 65 = .ok (.aload_n 0, 1) := zdal_p dlD_M_sort_14 (i := 19) rfl
theorem d_M_sort_66 : decode (zb m_M_sort) 66 = .ok (.getfield 44, 3) := zdal_p dlD_M_sort_14 (i := 20) rfl
theorem d_M_sort_69 : decode (zb m_M_sort) 69 = .ok (.iload_n 1, 1) := zdal_p dlD_M_sort_14 (i := 21) rfl
theorem d_M_sort_70 : decode (zb m_M_sort) 70 = .ok (.iaload, 1) := zdal_p dlD_M_sort_14 (i := 22) rfl
theorem d_M_sort_71 : decode (zb m_M_sort) 71 = .ok (.ireturn, 1) := zdal_p dlD_M_sort_14 (i := 23) rfl
theorem dlD_M_sort_15 : zdal (zb m_M_sort) [(72, (.aload_n 0, 1)), (73, (.aload_n 0, 1)), (74, (.getfield 44, 3)), (77, (.iload_n 1, 1)), (78, (.iaload, 1)), (79, (.invokevirtual 417, 3)), (82, (.invokestatic 253, 3)), (85, (.ireturn, 1)), (86, (.aload_n 0, 1)), (87, (.aload_n 0, 1)), (88, (.getfield 44, 3)), (91, (.iload_n 1, 1)), (92, (.iaload, 1)), (93, (.invokevirtual 420, 3)), (96, (.invokestatic 256, 3)), (99, (.ireturn, 1)), (100, (.aload_n 0, 1)), (101, (.aload_n 0, 1)), (102, (.getfield 44, 3)), (105, (.iload_n 1, 1)), (106, (.iaload, 1)), (107, (.invokevirtual 397, 3)), (110, (.invokestatic 256, 3)), (113, (.ireturn, 1))] = true := zDs 72 (by decide +kernel)
theorem d_M_sort_72 : decode (zb m_M_sort) 72 = .ok (.aload_n 0, 1) := zdal_p dlD_M_sort_15 (i := 0) rfl
theorem d_M_sort_73 : decode (zb m_M_sort) 73 = .ok (.aload_n 0, 1) := zdal_p dlD_M_sort_15 (i := 1) rfl
theorem d_M_sort_74 : decode (zb m_M_sort) 74 = .ok (.getfield 44, 3) := zdal_p dlD_M_sort_15 (i := 2) rfl
theorem d_M_sort_77 : decode (zb m_M_sort) 77 = .ok (.iload_n 1, 1) := zdal_p dlD_M_sort_15 (i := 3) rfl
theorem d_M_sort_78 : decode (zb m_M_sort) 78 = .ok (.iaload, 1) := zdal_p dlD_M_sort_15 (i := 4) rfl
theorem d_M_sort_79 : decode (zb m_M_sort) 79 = .ok (.invokevirtual 417, 3) := zdal_p dlD_M_sort_15 (i := 5) rfl
theorem d_M_sort_82 : decode (zb m_M_sort) 82 = .ok (.invokestatic 253, 3) := zdal_p dlD_M_sort_15 (i := 6) rfl
theorem d_M_sort_85 : decode (zb m_M_sort) 85 = .ok (.ireturn, 1) := zdal_p dlD_M_sort_15 (i := 7) rfl
theorem d_M_sort_86 : decode (zb m_M_sort) 86 = .ok (.aload_n 0, 1) := zdal_p dlD_M_sort_15 (i := 8) rfl
theorem d_M_sort_87 : decode (zb m_M_sort) 87 = .ok (.aload_n 0, 1) := zdal_p dlD_M_sort_15 (i := 9) rfl
theorem d_M_sort_88 : decode (zb m_M_sort) 88 = .ok (.getfield 44, 3) := zdal_p dlD_M_sort_15 (i := 10) rfl
theorem d_M_sort_91 : decode (zb m_M_sort) 91 = .ok (.iload_n 1, 1) := zdal_p dlD_M_sort_15 (i := 11) rfl
theorem d_M_sort_92 : decode (zb m_M_sort) 92 = .ok (.iaload, 1) := zdal_p dlD_M_sort_15 (i := 12) rfl
theorem d_M_sort_93 : decode (zb m_M_sort) 93 = .ok (.invokevirtual 420, 3) := zdal_p dlD_M_sort_15 (i := 13) rfl
theorem d_M_sort_96 : decode (zb m_M_sort) 96 = .ok (.invokestatic 256, 3) := zdal_p dlD_M_sort_15 (i := 14) rfl
theorem d_M_sort_99 : decode (zb m_M_sort) 99 = .ok (.ireturn, 1) := zdal_p dlD_M_sort_15 (i := 15) rfl
theorem d_M_sort_100 : decode (zb m_M_sort) 100 = .ok (.aload_n 0, 1) := zdal_p dlD_M_sort_15 (i := 16) rfl
theorem d_M_sort_101 : decode (zb m_M_sort) 101 = .ok (.aload_n 0, 1) := zdal_p dlD_M_sort_15 (i := 17) rfl
theorem d_M_sort_102 : decode (zb m_M_sort) 102 = .ok (.getfield 44, 3) := zdal_p dlD_M_sort_15 (i := 18) rfl
theorem d_M_sort_105 : decode (zb m_M_sort) 105 = .ok (.iload_n 1, 1) := zdal_p dlD_M_sort_15 (i := 19) rfl
theorem d_M_sort_106 : decode (zb m_M_sort) 106 = .ok (.iaload, 1) := zdal_p dlD_M_sort_15 (i := 20) rfl
theorem d_M_sort_107 : decode (zb m_M_sort) 107 = .ok (.invokevirtual 397, 3) := zdal_p dlD_M_sort_15 (i := 21) rfl
theorem d_M_sort_110 : decode (zb m_M_sort) 110 = .ok (.invokestatic 256, 3) := zdal_p dlD_M_sort_15 (i := 22) rfl
theorem d_M_sort_113 : decode (zb m_M_sort) 113 = .ok (.ireturn, 1) := zdal_p dlD_M_sort_15 (i := 23) rfl
theorem dlD_M_sort_16 : zdal (zb m_M_sort) [(114, (.iconst (-1), 1)), (115, (.ireturn, 1))] = true := zDs 114 (by decide +kernel)
theorem d_M_sort_114 : decode (zb m_M_sort) 114 = .ok (.iconst (-1), 1) := zdal_p dlD_M_sort_16 (i := 0) rfl
theorem d_M_sort_115 : decode (zb m_M_sort) 115 = .ok (.ireturn, 1) := zdal_p dlD_M_sort_16 (i := 1) rfl
theorem dlD_M_isSort_17 : zdal (zb m_M_isSort) [(0, (.iload_n 1, 1)), (1, (.i2l, 1)), (2, (.lconst 0, 1)), (3, (.aload_n 0, 1)), (4, (.getfield 235, 3)), (7, (.iconst 1, 1)), (8, (.isub, 1)), (9, (.i2l, 1)), (10, (.invokestatic 131, 3)), (13, (.ireturn, 1))] = true := zDs 0 (by decide +kernel)
theorem d_M_isSort_0 : decode (zb m_M_isSort) 0 = .ok (.iload_n 1, 1) := zdal_p dlD_M_isSort_17 (i := 0) rfl
theorem d_M_isSort_1 : decode (zb m_M_isSort) 1 = .ok (.i2l, 1) := zdal_p dlD_M_isSort_17 (i := 1) rfl
theorem d_M_isSort_2 : decode (zb m_M_isSort) 2 = .ok (.lconst 0, 1) := zdal_p dlD_M_isSort_17 (i := 2) rfl
theorem d_M_isSort_3 : decode (zb m_M_isSort) 3 = .ok (.aload_n 0, 1) := zdal_p dlD_M_isSort_17 (i := 3) rfl
theorem d_M_isSort_4 : decode (zb m_M_isSort) 4 = .ok (.getfield 235, 3) := zdal_p dlD_M_isSort_17 (i := 4) rfl
theorem d_M_isSort_7 : decode (zb m_M_isSort) 7 = .ok (.iconst 1, 1) := zdal_p dlD_M_isSort_17 (i := 5) rfl
theorem d_M_isSort_8 : decode (zb m_M_isSort) 8 = .ok (.isub, 1) := zdal_p dlD_M_isSort_17 (i := 6) rfl
theorem d_M_isSort_9 : decode (zb m_M_isSort) 9 = .ok (.i2l, 1) := zdal_p dlD_M_isSort_17 (i := 7) rfl
theorem d_M_isSort_10 : decode (zb m_M_isSort) 10 = .ok (.invokestatic 131, 3) := zdal_p dlD_M_isSort_17 (i := 8) rfl
theorem d_M_isSort_13 : decode (zb m_M_isSort) 13 = .ok (.ireturn, 1) := zdal_p dlD_M_isSort_17 (i := 9) rfl
theorem dlD_M_normOf_18 : zdal (zb m_M_normOf) [(0, (.iconst 0, 1)), (1, (.istore_n 2, 1)), (2, (.iconst 0, 1)), (3, (.istore_n 3, 1)), (4, (.iload_n 3, 1)), (5, (.aload_n 0, 1)), (6, (.getfield 196, 3)), (9, (.if_icmp .ge 32, 3)), (12, (.iload_n 2, 1)), (13, (.aload_n 0, 1)), (14, (.iload_n 1, 1)), (15, (.iload_n 3, 1)), (16, (.invokevirtual 223, 3)), (19, (.iload_n 1, 1)), (20, (.if_icmp .ne 7, 3)), (23, (.iconst 1, 1)), (24, (.goto 4, 3)), (27, (.iconst 0, 1)), (28, (.invokestatic 256, 3)), (31, (.iload_n 3, 1)), (32, (.ishl, 1)), (33, (.ior, 1)), (34, (.istore_n 2, 1)), (35, (.iinc 3 1, 3))] = true := zDs 0 (by decide +kernel)
theorem d_M_normOf_0 : decode (zb m_M_normOf) 0 = .ok (.iconst 0, 1) := zdal_p dlD_M_normOf_18 (i := 0) rfl
theorem d_M_normOf_1 : decode (zb m_M_normOf) 1 = .ok (.istore_n 2, 1) := zdal_p dlD_M_normOf_18 (i := 1) rfl
theorem d_M_normOf_2 : decode (zb m_M_normOf) 2 = .ok (.iconst 0, 1) := zdal_p dlD_M_normOf_18 (i := 2) rfl
theorem d_M_normOf_3 : decode (zb m_M_normOf) 3 = .ok (.istore_n 3, 1) := zdal_p dlD_M_normOf_18 (i := 3) rfl
theorem d_M_normOf_4 : decode (zb m_M_normOf) 4 = .ok (.iload_n 3, 1) := zdal_p dlD_M_normOf_18 (i := 4) rfl
theorem d_M_normOf_5 : decode (zb m_M_normOf) 5 = .ok (.aload_n 0, 1) := zdal_p dlD_M_normOf_18 (i := 5) rfl
theorem d_M_normOf_6 : decode (zb m_M_normOf) 6 = .ok (.getfield 196, 3) := zdal_p dlD_M_normOf_18 (i := 6) rfl
theorem d_M_normOf_9 : decode (zb m_M_normOf) 9 = .ok (.if_icmp .ge 32, 3) := zdal_p dlD_M_normOf_18 (i := 7) rfl
theorem d_M_normOf_12 : decode (zb m_M_normOf) 12 = .ok (.iload_n 2, 1) := zdal_p dlD_M_normOf_18 (i := 8) rfl
theorem d_M_normOf_13 : decode (zb m_M_normOf) 13 = .ok (.aload_n 0, 1) := zdal_p dlD_M_normOf_18 (i := 9) rfl
theorem d_M_normOf_14 : decode (zb m_M_normOf) 14 = .ok (.iload_n 1, 1) := zdal_p dlD_M_normOf_18 (i := 10) rfl
theorem d_M_normOf_15 : decode (zb m_M_normOf) 15 = .ok (.iload_n 3, 1) := zdal_p dlD_M_normOf_18 (i := 11) rfl
theorem d_M_normOf_16 : decode (zb m_M_normOf) 16 = .ok (.invokevirtual 223, 3) := zdal_p dlD_M_normOf_18 (i := 12) rfl
theorem d_M_normOf_19 : decode (zb m_M_normOf) 19 = .ok (.iload_n 1, 1) := zdal_p dlD_M_normOf_18 (i := 13) rfl
theorem d_M_normOf_20 : decode (zb m_M_normOf) 20 = .ok (.if_icmp .ne 7, 3) := zdal_p dlD_M_normOf_18 (i := 14) rfl
theorem d_M_normOf_23 : decode (zb m_M_normOf) 23 = .ok (.iconst 1, 1) := zdal_p dlD_M_normOf_18 (i := 15) rfl
theorem d_M_normOf_24 : decode (zb m_M_normOf) 24 = .ok (.goto 4, 3) := zdal_p dlD_M_normOf_18 (i := 16) rfl
theorem d_M_normOf_27 : decode (zb m_M_normOf) 27 = .ok (.iconst 0, 1) := zdal_p dlD_M_normOf_18 (i := 17) rfl
theorem d_M_normOf_28 : decode (zb m_M_normOf) 28 = .ok (.invokestatic 256, 3) := zdal_p dlD_M_normOf_18 (i := 18) rfl
theorem d_M_normOf_31 : decode (zb m_M_normOf) 31 = .ok (.iload_n 3, 1) := zdal_p dlD_M_normOf_18 (i := 19) rfl
theorem d_M_normOf_32 : decode (zb m_M_normOf) 32 = .ok (.ishl, 1) := zdal_p dlD_M_normOf_18 (i := 20) rfl
theorem d_M_normOf_33 : decode (zb m_M_normOf) 33 = .ok (.ior, 1) := zdal_p dlD_M_normOf_18 (i := 21) rfl
theorem d_M_normOf_34 : decode (zb m_M_normOf) 34 = .ok (.istore_n 2, 1) := zdal_p dlD_M_normOf_18 (i := 22) rfl
theorem d_M_normOf_35 : decode (zb m_M_normOf) 35 = .ok (.iinc 3 1, 3) := zdal_p dlD_M_normOf_18 (i := 23) rfl
theorem dlD_M_normOf_19 : zdal (zb m_M_normOf) [(38, (.goto (-34), 3)), (41, (.iload_n 2, 1)), (42, (.ireturn, 1))] = true := zDs 38 (by decide +kernel)
theorem d_M_normOf_38 : decode (zb m_M_normOf) 38 = .ok (.goto (-34), 3) := zdal_p dlD_M_normOf_19 (i := 0) rfl
theorem d_M_normOf_41 : decode (zb m_M_normOf) 41 = .ok (.iload_n 2, 1) := zdal_p dlD_M_normOf_19 (i := 1) rfl
theorem d_M_normOf_42 : decode (zb m_M_normOf) 42 = .ok (.ireturn, 1) := zdal_p dlD_M_normOf_19 (i := 2) rfl
theorem dlD_M_isOfOne_20 : zdal (zb m_M_isOfOne) [(0, (.iconst 0, 1)), (1, (.istore_n 2, 1)), (2, (.iload_n 2, 1)), (3, (.aload_n 0, 1)), (4, (.getfield 196, 3)), (7, (.if_icmp .ge 30, 3)), (10, (.iload_n 1, 1)), (11, (.iload_n 2, 1)), (12, (.invokestatic 213, 3)), (15, (.ifCond .eq 16, 3)), (18, (.aload_n 0, 1)), (19, (.iconst 1, 1)), (20, (.iload_n 2, 1)), (21, (.ishl, 1)), (22, (.invokevirtual 229, 3)), (25, (.iload_n 1, 1)), (26, (.if_icmp .ne 5, 3)), (29, (.iconst 1, 1)), (30, (.ireturn, 1)), (31, (.iinc 2 1, 3)), (34, (.goto (-32), 3)), (37, (.iconst 0, 1)), (38, (.ireturn, 1))] = true := zDs 0 (by decide +kernel)
theorem d_M_isOfOne_0 : decode (zb m_M_isOfOne) 0 = .ok (.iconst 0, 1) := zdal_p dlD_M_isOfOne_20 (i := 0) rfl
theorem d_M_isOfOne_1 : decode (zb m_M_isOfOne) 1 = .ok (.istore_n 2, 1) := zdal_p dlD_M_isOfOne_20 (i := 1) rfl
theorem d_M_isOfOne_2 : decode (zb m_M_isOfOne) 2 = .ok (.iload_n 2, 1) := zdal_p dlD_M_isOfOne_20 (i := 2) rfl
theorem d_M_isOfOne_3 : decode (zb m_M_isOfOne) 3 = .ok (.aload_n 0, 1) := zdal_p dlD_M_isOfOne_20 (i := 3) rfl
theorem d_M_isOfOne_4 : decode (zb m_M_isOfOne) 4 = .ok (.getfield 196, 3) := zdal_p dlD_M_isOfOne_20 (i := 4) rfl
theorem d_M_isOfOne_7 : decode (zb m_M_isOfOne) 7 = .ok (.if_icmp .ge 30, 3) := zdal_p dlD_M_isOfOne_20 (i := 5) rfl
theorem d_M_isOfOne_10 : decode (zb m_M_isOfOne) 10 = .ok (.iload_n 1, 1) := zdal_p dlD_M_isOfOne_20 (i := 6) rfl
theorem d_M_isOfOne_11 : decode (zb m_M_isOfOne) 11 = .ok (.iload_n 2, 1) := zdal_p dlD_M_isOfOne_20 (i := 7) rfl
theorem d_M_isOfOne_12 : decode (zb m_M_isOfOne) 12 = .ok (.invokestatic 213, 3) := zdal_p dlD_M_isOfOne_20 (i := 8) rfl
theorem d_M_isOfOne_15 : decode (zb m_M_isOfOne) 15 = .ok (.ifCond .eq 16, 3) := zdal_p dlD_M_isOfOne_20 (i := 9) rfl
theorem d_M_isOfOne_18 : decode (zb m_M_isOfOne) 18 = .ok (.aload_n 0, 1) := zdal_p dlD_M_isOfOne_20 (i := 10) rfl
theorem d_M_isOfOne_19 : decode (zb m_M_isOfOne) 19 = .ok (.iconst 1, 1) := zdal_p dlD_M_isOfOne_20 (i := 11) rfl
theorem d_M_isOfOne_20 : decode (zb m_M_isOfOne) 20 = .ok (.iload_n 2, 1) := zdal_p dlD_M_isOfOne_20 (i := 12) rfl
theorem d_M_isOfOne_21 : decode (zb m_M_isOfOne) 21 = .ok (.ishl, 1) := zdal_p dlD_M_isOfOne_20 (i := 13) rfl
theorem d_M_isOfOne_22 : decode (zb m_M_isOfOne) 22 = .ok (.invokevirtual 229, 3) := zdal_p dlD_M_isOfOne_20 (i := 14) rfl
theorem d_M_isOfOne_25 : decode (zb m_M_isOfOne) 25 = .ok (.iload_n 1, 1) := zdal_p dlD_M_isOfOne_20 (i := 15) rfl
theorem d_M_isOfOne_26 : decode (zb m_M_isOfOne) 26 = .ok (.if_icmp .ne 5, 3) := zdal_p dlD_M_isOfOne_20 (i := 16) rfl
theorem d_M_isOfOne_29 : decode (zb m_M_isOfOne) 29 = .ok (.iconst 1, 1) := zdal_p dlD_M_isOfOne_20 (i := 17) rfl
theorem d_M_isOfOne_30 : decode (zb m_M_isOfOne) 30 = .ok (.ireturn, 1) := zdal_p dlD_M_isOfOne_20 (i := 18) rfl
theorem d_M_isOfOne_31 : decode (zb m_M_isOfOne) 31 = .ok (.iinc 2 1, 3) := zdal_p dlD_M_isOfOne_20 (i := 19) rfl
theorem d_M_isOfOne_34 : decode (zb m_M_isOfOne) 34 = .ok (.goto (-32), 3) := zdal_p dlD_M_isOfOne_20 (i := 20) rfl
theorem d_M_isOfOne_37 : decode (zb m_M_isOfOne) 37 = .ok (.iconst 0, 1) := zdal_p dlD_M_isOfOne_20 (i := 21) rfl
theorem d_M_isOfOne_38 : decode (zb m_M_isOfOne) 38 = .ok (.ireturn, 1) := zdal_p dlD_M_isOfOne_20 (i := 22) rfl
theorem dlD_M_meet_21 : zdal (zb m_M_meet) [(0, (.aload_n 0, 1)), (1, (.iload_n 1, 1)), (2, (.invokevirtual 414, 3)), (5, (.ifCond .eq 11, 3)), (8, (.aload_n 0, 1)), (9, (.iload_n 2, 1)), (10, (.invokevirtual 414, 3)), (13, (.ifCond .ne 5, 3)), (16, (.iconst (-1), 1)), (17, (.ireturn, 1)), (18, (.aload_n 0, 1)), (19, (.aload_n 0, 1)), (20, (.getfield 44, 3)), (23, (.iload_n 1, 1)), (24, (.iaload, 1)), (25, (.aload_n 0, 1)), (26, (.getfield 44, 3)), (29, (.iload_n 2, 1)), (30, (.iaload, 1)), (31, (.iand, 1)), (32, (.invokevirtual 411, 3)), (35, (.ireturn, 1))] = true := zDs 0 (by decide +kernel)
theorem d_M_meet_0 : decode (zb m_M_meet) 0 = .ok (.aload_n 0, 1) := zdal_p dlD_M_meet_21 (i := 0) rfl
theorem d_M_meet_1 : decode (zb m_M_meet) 1 = .ok (.iload_n 1, 1) := zdal_p dlD_M_meet_21 (i := 1) rfl
theorem d_M_meet_2 : decode (zb m_M_meet) 2 = .ok (.invokevirtual 414, 3) := zdal_p dlD_M_meet_21 (i := 2) rfl
theorem d_M_meet_5 : decode (zb m_M_meet) 5 = .ok (.ifCond .eq 11, 3) := zdal_p dlD_M_meet_21 (i := 3) rfl
theorem d_M_meet_8 : decode (zb m_M_meet) 8 = .ok (.aload_n 0, 1) := zdal_p dlD_M_meet_21 (i := 4) rfl
theorem d_M_meet_9 : decode (zb m_M_meet) 9 = .ok (.iload_n 2, 1) := zdal_p dlD_M_meet_21 (i := 5) rfl
theorem d_M_meet_10 : decode (zb m_M_meet) 10 = .ok (.invokevirtual 414, 3) := zdal_p dlD_M_meet_21 (i := 6) rfl
theorem d_M_meet_13 : decode (zb m_M_meet) 13 = .ok (.ifCond .ne 5, 3) := zdal_p dlD_M_meet_21 (i := 7) rfl
theorem d_M_meet_16 : decode (zb m_M_meet) 16 = .ok (.iconst (-1), 1) := zdal_p dlD_M_meet_21 (i := 8) rfl
theorem d_M_meet_17 : decode (zb m_M_meet) 17 = .ok (.ireturn, 1) := zdal_p dlD_M_meet_21 (i := 9) rfl
theorem d_M_meet_18 : decode (zb m_M_meet) 18 = .ok (.aload_n 0, 1) := zdal_p dlD_M_meet_21 (i := 10) rfl
theorem d_M_meet_19 : decode (zb m_M_meet) 19 = .ok (.aload_n 0, 1) := zdal_p dlD_M_meet_21 (i := 11) rfl
theorem d_M_meet_20 : decode (zb m_M_meet) 20 = .ok (.getfield 44, 3) := zdal_p dlD_M_meet_21 (i := 12) rfl
theorem d_M_meet_23 : decode (zb m_M_meet) 23 = .ok (.iload_n 1, 1) := zdal_p dlD_M_meet_21 (i := 13) rfl
theorem d_M_meet_24 : decode (zb m_M_meet) 24 = .ok (.iaload, 1) := zdal_p dlD_M_meet_21 (i := 14) rfl
theorem d_M_meet_25 : decode (zb m_M_meet) 25 = .ok (.aload_n 0, 1) := zdal_p dlD_M_meet_21 (i := 15) rfl
theorem d_M_meet_26 : decode (zb m_M_meet) 26 = .ok (.getfield 44, 3) := zdal_p dlD_M_meet_21 (i := 16) rfl
theorem d_M_meet_29 : decode (zb m_M_meet) 29 = .ok (.iload_n 2, 1) := zdal_p dlD_M_meet_21 (i := 17) rfl
theorem d_M_meet_30 : decode (zb m_M_meet) 30 = .ok (.iaload, 1) := zdal_p dlD_M_meet_21 (i := 18) rfl
theorem d_M_meet_31 : decode (zb m_M_meet) 31 = .ok (.iand, 1) := zdal_p dlD_M_meet_21 (i := 19) rfl
theorem d_M_meet_32 : decode (zb m_M_meet) 32 = .ok (.invokevirtual 411, 3) := zdal_p dlD_M_meet_21 (i := 20) rfl
theorem d_M_meet_35 : decode (zb m_M_meet) 35 = .ok (.ireturn, 1) := zdal_p dlD_M_meet_21 (i := 21) rfl
theorem dlD_M_join_22 : zdal (zb m_M_join) [(0, (.aload_n 0, 1)), (1, (.iload_n 1, 1)), (2, (.invokevirtual 414, 3)), (5, (.ifCond .eq 11, 3)), (8, (.aload_n 0, 1)), (9, (.iload_n 2, 1)), (10, (.invokevirtual 414, 3)), (13, (.ifCond .ne 5, 3)), (16, (.iconst (-1), 1)), (17, (.ireturn, 1)), (18, (.aload_n 0, 1)), (19, (.aload_n 0, 1)), (20, (.aload_n 0, 1)), (21, (.getfield 44, 3)), (24, (.iload_n 1, 1)), (25, (.iaload, 1)), (26, (.aload_n 0, 1)), (27, (.getfield 44, 3)), (30, (.iload_n 2, 1)), (31, (.iaload, 1)), (32, (.ior, 1)), (33, (.invokevirtual 229, 3)), (36, (.invokevirtual 411, 3)), (39, (.ireturn, 1))] = true := zDs 0 (by decide +kernel)
theorem d_M_join_0 : decode (zb m_M_join) 0 = .ok (.aload_n 0, 1) := zdal_p dlD_M_join_22 (i := 0) rfl
theorem d_M_join_1 : decode (zb m_M_join) 1 = .ok (.iload_n 1, 1) := zdal_p dlD_M_join_22 (i := 1) rfl
theorem d_M_join_2 : decode (zb m_M_join) 2 = .ok (.invokevirtual 414, 3) := zdal_p dlD_M_join_22 (i := 2) rfl
theorem d_M_join_5 : decode (zb m_M_join) 5 = .ok (.ifCond .eq 11, 3) := zdal_p dlD_M_join_22 (i := 3) rfl
theorem d_M_join_8 : decode (zb m_M_join) 8 = .ok (.aload_n 0, 1) := zdal_p dlD_M_join_22 (i := 4) rfl
theorem d_M_join_9 : decode (zb m_M_join) 9 = .ok (.iload_n 2, 1) := zdal_p dlD_M_join_22 (i := 5) rfl
theorem d_M_join_10 : decode (zb m_M_join) 10 = .ok (.invokevirtual 414, 3) := zdal_p dlD_M_join_22 (i := 6) rfl
theorem d_M_join_13 : decode (zb m_M_join) 13 = .ok (.ifCond .ne 5, 3) := zdal_p dlD_M_join_22 (i := 7) rfl
theorem d_M_join_16 : decode (zb m_M_join) 16 = .ok (.iconst (-1), 1) := zdal_p dlD_M_join_22 (i := 8) rfl
theorem d_M_join_17 : decode (zb m_M_join) 17 = .ok (.ireturn, 1) := zdal_p dlD_M_join_22 (i := 9) rfl
theorem d_M_join_18 : decode (zb m_M_join) 18 = .ok (.aload_n 0, 1) := zdal_p dlD_M_join_22 (i := 10) rfl
theorem d_M_join_19 : decode (zb m_M_join) 19 = .ok (.aload_n 0, 1) := zdal_p dlD_M_join_22 (i := 11) rfl
theorem d_M_join_20 : decode (zb m_M_join) 20 = .ok (.aload_n 0, 1) := zdal_p dlD_M_join_22 (i := 12) rfl
theorem d_M_join_21 : decode (zb m_M_join) 21 = .ok (.getfield 44, 3) := zdal_p dlD_M_join_22 (i := 13) rfl
theorem d_M_join_24 : decode (zb m_M_join) 24 = .ok (.iload_n 1, 1) := zdal_p dlD_M_join_22 (i := 14) rfl
theorem d_M_join_25 : decode (zb m_M_join) 25 = .ok (.iaload, 1) := zdal_p dlD_M_join_22 (i := 15) rfl
theorem d_M_join_26 : decode (zb m_M_join) 26 = .ok (.aload_n 0, 1) := zdal_p dlD_M_join_22 (i := 16) rfl
theorem d_M_join_27 : decode (zb m_M_join) 27 = .ok (.getfield 44, 3) := zdal_p dlD_M_join_22 (i := 17) rfl
theorem d_M_join_30 : decode (zb m_M_join) 30 = .ok (.iload_n 2, 1) := zdal_p dlD_M_join_22 (i := 18) rfl
theorem d_M_join_31 : decode (zb m_M_join) 31 = .ok (.iaload, 1) := zdal_p dlD_M_join_22 (i := 19) rfl
theorem d_M_join_32 : decode (zb m_M_join) 32 = .ok (.ior, 1) := zdal_p dlD_M_join_22 (i := 20) rfl
theorem d_M_join_33 : decode (zb m_M_join) 33 = .ok (.invokevirtual 229, 3) := zdal_p dlD_M_join_22 (i := 21) rfl
theorem d_M_join_36 : decode (zb m_M_join) 36 = .ok (.invokevirtual 411, 3) := zdal_p dlD_M_join_22 (i := 22) rfl
theorem d_M_join_39 : decode (zb m_M_join) 39 = .ok (.ireturn, 1) := zdal_p dlD_M_join_22 (i := 23) rfl
theorem dlD_M_within_23 : zdal (zb m_M_within) [(0, (.aload_n 0, 1)), (1, (.iload_n 1, 1)), (2, (.invokevirtual 414, 3)), (5, (.ifCond .eq 11, 3)), (8, (.aload_n 0, 1)), (9, (.iload_n 2, 1)), (10, (.invokevirtual 414, 3)), (13, (.ifCond .ne 5, 3)), (16, (.iconst (-1), 1)), (17, (.ireturn, 1)), (18, (.iconst 0, 1)), (19, (.istore_n 3, 1)), (20, (.iconst 0, 1)), (21, (.istore 4, 2)), (23, (.iload 4, 2)), (25, (.aload_n 0, 1)), (26, (.getfield 220, 3)), (29, (.if_icmp .ge 50, 3)), (32, (.iload_n 3, 1)), (33, (.aload_n 0, 1)), (34, (.getfield 41, 3)), (37, (.iload 4, 2)), (39, (.iaload, 1)), (40, (.iload_n 1, 1))] = true := zDs 0 (by decide +kernel)
theorem d_M_within_0 : decode (zb m_M_within) 0 = .ok (.aload_n 0, 1) := zdal_p dlD_M_within_23 (i := 0) rfl
theorem d_M_within_1 : decode (zb m_M_within) 1 = .ok (.iload_n 1, 1) := zdal_p dlD_M_within_23 (i := 1) rfl
theorem d_M_within_2 : decode (zb m_M_within) 2 = .ok (.invokevirtual 414, 3) := zdal_p dlD_M_within_23 (i := 2) rfl
theorem d_M_within_5 : decode (zb m_M_within) 5 = .ok (.ifCond .eq 11, 3) := zdal_p dlD_M_within_23 (i := 3) rfl
theorem d_M_within_8 : decode (zb m_M_within) 8 = .ok (.aload_n 0, 1) := zdal_p dlD_M_within_23 (i := 4) rfl
theorem d_M_within_9 : decode (zb m_M_within) 9 = .ok (.iload_n 2, 1) := zdal_p dlD_M_within_23 (i := 5) rfl
theorem d_M_within_10 : decode (zb m_M_within) 10 = .ok (.invokevirtual 414, 3) := zdal_p dlD_M_within_23 (i := 6) rfl
theorem d_M_within_13 : decode (zb m_M_within) 13 = .ok (.ifCond .ne 5, 3) := zdal_p dlD_M_within_23 (i := 7) rfl
theorem d_M_within_16 : decode (zb m_M_within) 16 = .ok (.iconst (-1), 1) := zdal_p dlD_M_within_23 (i := 8) rfl
theorem d_M_within_17 : decode (zb m_M_within) 17 = .ok (.ireturn, 1) := zdal_p dlD_M_within_23 (i := 9) rfl
theorem d_M_within_18 : decode (zb m_M_within) 18 = .ok (.iconst 0, 1) := zdal_p dlD_M_within_23 (i := 10) rfl
theorem d_M_within_19 : decode (zb m_M_within) 19 = .ok (.istore_n 3, 1) := zdal_p dlD_M_within_23 (i := 11) rfl
theorem d_M_within_20 : decode (zb m_M_within) 20 = .ok (.iconst 0, 1) := zdal_p dlD_M_within_23 (i := 12) rfl
theorem d_M_within_21 : decode (zb m_M_within) 21 = .ok (.istore 4, 2) := zdal_p dlD_M_within_23 (i := 13) rfl
theorem d_M_within_23 : decode (zb m_M_within) 23 = .ok (.iload 4, 2) := zdal_p dlD_M_within_23 (i := 14) rfl
theorem d_M_within_25 : decode (zb m_M_within) 25 = .ok (.aload_n 0, 1) := zdal_p dlD_M_within_23 (i := 15) rfl
theorem d_M_within_26 : decode (zb m_M_within) 26 = .ok (.getfield 220, 3) := zdal_p dlD_M_within_23 (i := 16) rfl
theorem d_M_within_29 : decode (zb m_M_within) 29 = .ok (.if_icmp .ge 50, 3) := zdal_p dlD_M_within_23 (i := 17) rfl
theorem d_M_within_32 : decode (zb m_M_within) 32 = .ok (.iload_n 3, 1) := zdal_p dlD_M_within_23 (i := 18) rfl
theorem d_M_within_33 : decode (zb m_M_within) 33 = .ok (.aload_n 0, 1) := zdal_p dlD_M_within_23 (i := 19) rfl
theorem d_M_within_34 : decode (zb m_M_within) 34 = .ok (.getfield 41, 3) := zdal_p dlD_M_within_23 (i := 20) rfl
theorem d_M_within_37 : decode (zb m_M_within) 37 = .ok (.iload 4, 2) := zdal_p dlD_M_within_23 (i := 21) rfl
theorem d_M_within_39 : decode (zb m_M_within) 39 = .ok (.iaload, 1) := zdal_p dlD_M_within_23 (i := 22) rfl
theorem d_M_within_40 : decode (zb m_M_within) 40 = .ok (.iload_n 1, 1) := zdal_p dlD_M_within_23 (i := 23) rfl
theorem dlD_M_within_24 : zdal (zb m_M_within) [(41, (.if_icmp .ne 26, 3)), (44, (.aload_n 0, 1)), (45, (.getfield 38, 3)), (48, (.iload 4, 2)), (50, (.iaload, 1)), (51, (.aload_n 0, 1)), (52, (.getfield 44, 3)), (55, (.iload_n 2, 1)), (56, (.iaload, 1)), (57, (.iconst (-1), 1)), (58, (.ixor, 1)), (59, (.iand, 1)), (60, (.ifCond .ne 7, 3)), (63, (.iconst 1, 1)), (64, (.goto 4, 3)), (67, (.iconst 0, 1)), (68, (.invokestatic 256, 3)), (71, (.iadd, 1)), (72, (.istore_n 3, 1)), (73, (.iinc 4 1, 3)), (76, (.goto (-53), 3)), (79, (.iload_n 3, 1)), (80, (.ireturn, 1))] = true := zDs 41 (by decide +kernel)
theorem d_M_within_41 : decode (zb m_M_within) 41 = .ok (.if_icmp .ne 26, 3) := zdal_p dlD_M_within_24 (i := 0) rfl
theorem d_M_within_44 : decode (zb m_M_within) 44 = .ok (.aload_n 0, 1) := zdal_p dlD_M_within_24 (i := 1) rfl
theorem d_M_within_45 : decode (zb m_M_within) 45 = .ok (.getfield 38, 3) := zdal_p dlD_M_within_24 (i := 2) rfl
theorem d_M_within_48 : decode (zb m_M_within) 48 = .ok (.iload 4, 2) := zdal_p dlD_M_within_24 (i := 3) rfl
theorem d_M_within_50 : decode (zb m_M_within) 50 = .ok (.iaload, 1) := zdal_p dlD_M_within_24 (i := 4) rfl
theorem d_M_within_51 : decode (zb m_M_within) 51 = .ok (.aload_n 0, 1) := zdal_p dlD_M_within_24 (i := 5) rfl
theorem d_M_within_52 : decode (zb m_M_within) 52 = .ok (.getfield 44, 3) := zdal_p dlD_M_within_24 (i := 6) rfl
theorem d_M_within_55 : decode (zb m_M_within) 55 = .ok (.iload_n 2, 1) := zdal_p dlD_M_within_24 (i := 7) rfl
theorem d_M_within_56 : decode (zb m_M_within) 56 = .ok (.iaload, 1) := zdal_p dlD_M_within_24 (i := 8) rfl
theorem d_M_within_57 : decode (zb m_M_within) 57 = .ok (.iconst (-1), 1) := zdal_p dlD_M_within_24 (i := 9) rfl
theorem d_M_within_58 : decode (zb m_M_within) 58 = .ok (.ixor, 1) := zdal_p dlD_M_within_24 (i := 10) rfl
theorem d_M_within_59 : decode (zb m_M_within) 59 = .ok (.iand, 1) := zdal_p dlD_M_within_24 (i := 11) rfl
theorem d_M_within_60 : decode (zb m_M_within) 60 = .ok (.ifCond .ne 7, 3) := zdal_p dlD_M_within_24 (i := 12) rfl
theorem d_M_within_63 : decode (zb m_M_within) 63 = .ok (.iconst 1, 1) := zdal_p dlD_M_within_24 (i := 13) rfl
theorem d_M_within_64 : decode (zb m_M_within) 64 = .ok (.goto 4, 3) := zdal_p dlD_M_within_24 (i := 14) rfl
theorem d_M_within_67 : decode (zb m_M_within) 67 = .ok (.iconst 0, 1) := zdal_p dlD_M_within_24 (i := 15) rfl
theorem d_M_within_68 : decode (zb m_M_within) 68 = .ok (.invokestatic 256, 3) := zdal_p dlD_M_within_24 (i := 16) rfl
theorem d_M_within_71 : decode (zb m_M_within) 71 = .ok (.iadd, 1) := zdal_p dlD_M_within_24 (i := 17) rfl
theorem d_M_within_72 : decode (zb m_M_within) 72 = .ok (.istore_n 3, 1) := zdal_p dlD_M_within_24 (i := 18) rfl
theorem d_M_within_73 : decode (zb m_M_within) 73 = .ok (.iinc 4 1, 3) := zdal_p dlD_M_within_24 (i := 19) rfl
theorem d_M_within_76 : decode (zb m_M_within) 76 = .ok (.goto (-53), 3) := zdal_p dlD_M_within_24 (i := 20) rfl
theorem d_M_within_79 : decode (zb m_M_within) 79 = .ok (.iload_n 3, 1) := zdal_p dlD_M_within_24 (i := 21) rfl
theorem d_M_within_80 : decode (zb m_M_within) 80 = .ok (.ireturn, 1) := zdal_p dlD_M_within_24 (i := 22) rfl
theorem dlD_M_mark_25 : zdal (zb m_M_mark) [(0, (.aload_n 0, 1)), (1, (.iload_n 1, 1)), (2, (.invokevirtual 414, 3)), (5, (.ifCond .eq 25, 3)), (8, (.aload_n 0, 1)), (9, (.iload_n 2, 1)), (10, (.invokevirtual 414, 3)), (13, (.ifCond .eq 17, 3)), (16, (.aload_n 0, 1)), (17, (.getfield 50, 3)), (20, (.bipush 64, 2)), (22, (.iload_n 1, 1)), (23, (.imul, 1)), (24, (.iload_n 2, 1)), (25, (.iadd, 1)), (26, (.iaload, 1)), (27, (.goto 4, 3)), (30, (.iconst (-1), 1)), (31, (.ireturn, 1))] = true := zDs 0 (by decide +kernel)
theorem d_M_mark_0 : decode (zb m_M_mark) 0 = .ok (.aload_n 0, 1) := zdal_p dlD_M_mark_25 (i := 0) rfl
theorem d_M_mark_1 : decode (zb m_M_mark) 1 = .ok (.iload_n 1, 1) := zdal_p dlD_M_mark_25 (i := 1) rfl
theorem d_M_mark_2 : decode (zb m_M_mark) 2 = .ok (.invokevirtual 414, 3) := zdal_p dlD_M_mark_25 (i := 2) rfl
theorem d_M_mark_5 : decode (zb m_M_mark) 5 = .ok (.ifCond .eq 25, 3) := zdal_p dlD_M_mark_25 (i := 3) rfl
theorem d_M_mark_8 : decode (zb m_M_mark) 8 = .ok (.aload_n 0, 1) := zdal_p dlD_M_mark_25 (i := 4) rfl
theorem d_M_mark_9 : decode (zb m_M_mark) 9 = .ok (.iload_n 2, 1) := zdal_p dlD_M_mark_25 (i := 5) rfl
theorem d_M_mark_10 : decode (zb m_M_mark) 10 = .ok (.invokevirtual 414, 3) := zdal_p dlD_M_mark_25 (i := 6) rfl
theorem d_M_mark_13 : decode (zb m_M_mark) 13 = .ok (.ifCond .eq 17, 3) := zdal_p dlD_M_mark_25 (i := 7) rfl
theorem d_M_mark_16 : decode (zb m_M_mark) 16 = .ok (.aload_n 0, 1) := zdal_p dlD_M_mark_25 (i := 8) rfl
theorem d_M_mark_17 : decode (zb m_M_mark) 17 = .ok (.getfield 50, 3) := zdal_p dlD_M_mark_25 (i := 9) rfl
theorem d_M_mark_20 : decode (zb m_M_mark) 20 = .ok (.bipush 64, 2) := zdal_p dlD_M_mark_25 (i := 10) rfl
theorem d_M_mark_22 : decode (zb m_M_mark) 22 = .ok (.iload_n 1, 1) := zdal_p dlD_M_mark_25 (i := 11) rfl
theorem d_M_mark_23 : decode (zb m_M_mark) 23 = .ok (.imul, 1) := zdal_p dlD_M_mark_25 (i := 12) rfl
theorem d_M_mark_24 : decode (zb m_M_mark) 24 = .ok (.iload_n 2, 1) := zdal_p dlD_M_mark_25 (i := 13) rfl
theorem d_M_mark_25 : decode (zb m_M_mark) 25 = .ok (.iadd, 1) := zdal_p dlD_M_mark_25 (i := 14) rfl
theorem d_M_mark_26 : decode (zb m_M_mark) 26 = .ok (.iaload, 1) := zdal_p dlD_M_mark_25 (i := 15) rfl
theorem d_M_mark_27 : decode (zb m_M_mark) 27 = .ok (.goto 4, 3) := zdal_p dlD_M_mark_25 (i := 16) rfl
theorem d_M_mark_30 : decode (zb m_M_mark) 30 = .ok (.iconst (-1), 1) := zdal_p dlD_M_mark_25 (i := 17) rfl
theorem d_M_mark_31 : decode (zb m_M_mark) 31 = .ok (.ireturn, 1) := zdal_p dlD_M_mark_25 (i := 18) rfl
theorem dlD_M_product_26 : zdal (zb m_M_product) [(0, (.aload_n 0, 1)), (1, (.iload_n 1, 1)), (2, (.invokevirtual 414, 3)), (5, (.ifCond .eq 19, 3)), (8, (.aload_n 0, 1)), (9, (.iload_n 2, 1)), (10, (.invokevirtual 414, 3)), (13, (.ifCond .eq 11, 3)), (16, (.aload_n 0, 1)), (17, (.iload_n 3, 1)), (18, (.invokevirtual 414, 3)), (21, (.ifCond .ne 5, 3)), (24, (.iconst (-1), 1)), (25, (.ireturn, 1)), (26, (.aload_n 0, 1)), (27, (.iload_n 1, 1)), (28, (.iload_n 2, 1)), (29, (.invokevirtual 423, 3)), (32, (.aload_n 0, 1)), (33, (.getfield 87, 3)), (36, (.iload_n 3, 1)), (37, (.laload, 1)), (38, (.l2i, 1)), (39, (.ireturn, 1))] = true := zDs 0 (by decide +kernel)
theorem d_M_product_0 : decode (zb m_M_product) 0 = .ok (.aload_n 0, 1) := zdal_p dlD_M_product_26 (i := 0) rfl
theorem d_M_product_1 : decode (zb m_M_product) 1 = .ok (.iload_n 1, 1) := zdal_p dlD_M_product_26 (i := 1) rfl
theorem d_M_product_2 : decode (zb m_M_product) 2 = .ok (.invokevirtual 414, 3) := zdal_p dlD_M_product_26 (i := 2) rfl
theorem d_M_product_5 : decode (zb m_M_product) 5 = .ok (.ifCond .eq 19, 3) := zdal_p dlD_M_product_26 (i := 3) rfl
theorem d_M_product_8 : decode (zb m_M_product) 8 = .ok (.aload_n 0, 1) := zdal_p dlD_M_product_26 (i := 4) rfl
theorem d_M_product_9 : decode (zb m_M_product) 9 = .ok (.iload_n 2, 1) := zdal_p dlD_M_product_26 (i := 5) rfl
theorem d_M_product_10 : decode (zb m_M_product) 10 = .ok (.invokevirtual 414, 3) := zdal_p dlD_M_product_26 (i := 6) rfl
theorem d_M_product_13 : decode (zb m_M_product) 13 = .ok (.ifCond .eq 11, 3) := zdal_p dlD_M_product_26 (i := 7) rfl
theorem d_M_product_16 : decode (zb m_M_product) 16 = .ok (.aload_n 0, 1) := zdal_p dlD_M_product_26 (i := 8) rfl
theorem d_M_product_17 : decode (zb m_M_product) 17 = .ok (.iload_n 3, 1) := zdal_p dlD_M_product_26 (i := 9) rfl
theorem d_M_product_18 : decode (zb m_M_product) 18 = .ok (.invokevirtual 414, 3) := zdal_p dlD_M_product_26 (i := 10) rfl
theorem d_M_product_21 : decode (zb m_M_product) 21 = .ok (.ifCond .ne 5, 3) := zdal_p dlD_M_product_26 (i := 11) rfl
theorem d_M_product_24 : decode (zb m_M_product) 24 = .ok (.iconst (-1), 1) := zdal_p dlD_M_product_26 (i := 12) rfl
theorem d_M_product_25 : decode (zb m_M_product) 25 = .ok (.ireturn, 1) := zdal_p dlD_M_product_26 (i := 13) rfl
theorem d_M_product_26 : decode (zb m_M_product) 26 = .ok (.aload_n 0, 1) := zdal_p dlD_M_product_26 (i := 14) rfl
theorem d_M_product_27 : decode (zb m_M_product) 27 = .ok (.iload_n 1, 1) := zdal_p dlD_M_product_26 (i := 15) rfl
theorem d_M_product_28 : decode (zb m_M_product) 28 = .ok (.iload_n 2, 1) := zdal_p dlD_M_product_26 (i := 16) rfl
theorem d_M_product_29 : decode (zb m_M_product) 29 = .ok (.invokevirtual 423, 3) := zdal_p dlD_M_product_26 (i := 17) rfl
theorem d_M_product_32 : decode (zb m_M_product) 32 = .ok (.aload_n 0, 1) := zdal_p dlD_M_product_26 (i := 18) rfl
theorem d_M_product_33 : decode (zb m_M_product) 33 = .ok (.getfield 87, 3) := zdal_p dlD_M_product_26 (i := 19) rfl
theorem d_M_product_36 : decode (zb m_M_product) 36 = .ok (.iload_n 3, 1) := zdal_p dlD_M_product_26 (i := 20) rfl
theorem d_M_product_37 : decode (zb m_M_product) 37 = .ok (.laload, 1) := zdal_p dlD_M_product_26 (i := 21) rfl
theorem d_M_product_38 : decode (zb m_M_product) 38 = .ok (.l2i, 1) := zdal_p dlD_M_product_26 (i := 22) rfl
theorem d_M_product_39 : decode (zb m_M_product) 39 = .ok (.ireturn, 1) := zdal_p dlD_M_product_26 (i := 23) rfl
theorem dlD_M_worksProduct_27 : zdal (zb m_M_worksProduct) [(0, (.iconst 0, 1)), (1, (.istore_n 3, 1)), (2, (.iload_n 3, 1)), (3, (.aload_n 0, 1)), (4, (.getfield 235, 3)), (7, (.if_icmp .ge 40, 3)), (10, (.aload_n 0, 1)), (11, (.getfield 60, 3)), (14, (.iload_n 3, 1)), (15, (.aload_n 0, 1)), (16, (.getfield 50, 3)), (19, (.bipush 64, 2)), (21, (.iload_n 1, 1)), (22, (.imul, 1)), (23, (.iload_n 3, 1)), (24, (.iadd, 1)), (25, (.iaload, 1)), (26, (.i2l, 1)), (27, (.aload_n 0, 1)), (28, (.getfield 50, 3)), (31, (.bipush 64, 2)), (33, (.iload_n 2, 1)), (34, (.imul, 1)), (35, (.iload_n 3, 1))] = true := zDs 0 (by decide +kernel)
theorem d_M_worksProduct_0 : decode (zb m_M_worksProduct) 0 = .ok (.iconst 0, 1) := zdal_p dlD_M_worksProduct_27 (i := 0) rfl
theorem d_M_worksProduct_1 : decode (zb m_M_worksProduct) 1 = .ok (.istore_n 3, 1) := zdal_p dlD_M_worksProduct_27 (i := 1) rfl
theorem d_M_worksProduct_2 : decode (zb m_M_worksProduct) 2 = .ok (.iload_n 3, 1) := zdal_p dlD_M_worksProduct_27 (i := 2) rfl
theorem d_M_worksProduct_3 : decode (zb m_M_worksProduct) 3 = .ok (.aload_n 0, 1) := zdal_p dlD_M_worksProduct_27 (i := 3) rfl
theorem d_M_worksProduct_4 : decode (zb m_M_worksProduct) 4 = .ok (.getfield 235, 3) := zdal_p dlD_M_worksProduct_27 (i := 4) rfl
theorem d_M_worksProduct_7 : decode (zb m_M_worksProduct) 7 = .ok (.if_icmp .ge 40, 3) := zdal_p dlD_M_worksProduct_27 (i := 5) rfl
theorem d_M_worksProduct_10 : decode (zb m_M_worksProduct) 10 = .ok (.aload_n 0, 1) := zdal_p dlD_M_worksProduct_27 (i := 6) rfl
theorem d_M_worksProduct_11 : decode (zb m_M_worksProduct) 11 = .ok (.getfield 60, 3) := zdal_p dlD_M_worksProduct_27 (i := 7) rfl
theorem d_M_worksProduct_14 : decode (zb m_M_worksProduct) 14 = .ok (.iload_n 3, 1) := zdal_p dlD_M_worksProduct_27 (i := 8) rfl
theorem d_M_worksProduct_15 : decode (zb m_M_worksProduct) 15 = .ok (.aload_n 0, 1) := zdal_p dlD_M_worksProduct_27 (i := 9) rfl
theorem d_M_worksProduct_16 : decode (zb m_M_worksProduct) 16 = .ok (.getfield 50, 3) := zdal_p dlD_M_worksProduct_27 (i := 10) rfl
theorem d_M_worksProduct_19 : decode (zb m_M_worksProduct) 19 = .ok (.bipush 64, 2) := zdal_p dlD_M_worksProduct_27 (i := 11) rfl
theorem d_M_worksProduct_21 : decode (zb m_M_worksProduct) 21 = .ok (.iload_n 1, 1) := zdal_p dlD_M_worksProduct_27 (i := 12) rfl
theorem d_M_worksProduct_22 : decode (zb m_M_worksProduct) 22 = .ok (.imul, 1) := zdal_p dlD_M_worksProduct_27 (i := 13) rfl
theorem d_M_worksProduct_23 : decode (zb m_M_worksProduct) 23 = .ok (.iload_n 3, 1) := zdal_p dlD_M_worksProduct_27 (i := 14) rfl
theorem d_M_worksProduct_24 : decode (zb m_M_worksProduct) 24 = .ok (.iadd, 1) := zdal_p dlD_M_worksProduct_27 (i := 15) rfl
theorem d_M_worksProduct_25 : decode (zb m_M_worksProduct) 25 = .ok (.iaload, 1) := zdal_p dlD_M_worksProduct_27 (i := 16) rfl
theorem d_M_worksProduct_26 : decode (zb m_M_worksProduct) 26 = .ok (.i2l, 1) := zdal_p dlD_M_worksProduct_27 (i := 17) rfl
theorem d_M_worksProduct_27 : decode (zb m_M_worksProduct) 27 = .ok (.aload_n 0, 1) := zdal_p dlD_M_worksProduct_27 (i := 18) rfl
theorem d_M_worksProduct_28 : decode (zb m_M_worksProduct) 28 = .ok (.getfield 50, 3) := zdal_p dlD_M_worksProduct_27 (i := 19) rfl
theorem d_M_worksProduct_31 : decode (zb m_M_worksProduct) 31 = .ok (.bipush 64, 2) := zdal_p dlD_M_worksProduct_27 (i := 20) rfl
theorem d_M_worksProduct_33 : decode (zb m_M_worksProduct) 33 = .ok (.iload_n 2, 1) := zdal_p dlD_M_worksProduct_27 (i := 21) rfl
theorem d_M_worksProduct_34 : decode (zb m_M_worksProduct) 34 = .ok (.imul, 1) := zdal_p dlD_M_worksProduct_27 (i := 22) rfl
theorem d_M_worksProduct_35 : decode (zb m_M_worksProduct) 35 = .ok (.iload_n 3, 1) := zdal_p dlD_M_worksProduct_27 (i := 23) rfl
theorem dlD_M_worksProduct_28 : zdal (zb m_M_worksProduct) [(36, (.iadd, 1)), (37, (.iaload, 1)), (38, (.i2l, 1)), (39, (.lmul, 1)), (40, (.lastore, 1)), (41, (.iinc 3 1, 3)), (44, (.goto (-42), 3)), (47, (.aload_n 0, 1)), (48, (.aload_n 0, 1)), (49, (.getfield 60, 3)), (52, (.aload_n 0, 1)), (53, (.getfield 87, 3)), (56, (.iconst 0, 1)), (57, (.invokevirtual 289, 3)), (60, (.return_, 1))] = true := zDs 36 (by decide +kernel)
theorem d_M_worksProduct_36 : decode (zb m_M_worksProduct) 36 = .ok (.iadd, 1) := zdal_p dlD_M_worksProduct_28 (i := 0) rfl
theorem d_M_worksProduct_37 : decode (zb m_M_worksProduct) 37 = .ok (.iaload, 1) := zdal_p dlD_M_worksProduct_28 (i := 1) rfl
theorem d_M_worksProduct_38 : decode (zb m_M_worksProduct) 38 = .ok (.i2l, 1) := zdal_p dlD_M_worksProduct_28 (i := 2) rfl
theorem d_M_worksProduct_39 : decode (zb m_M_worksProduct) 39 = .ok (.lmul, 1) := zdal_p dlD_M_worksProduct_28 (i := 3) rfl
theorem d_M_worksProduct_40 : decode (zb m_M_worksProduct) 40 = .ok (.lastore, 1) := zdal_p dlD_M_worksProduct_28 (i := 4) rfl
theorem d_M_worksProduct_41 : decode (zb m_M_worksProduct) 41 = .ok (.iinc 3 1, 3) := zdal_p dlD_M_worksProduct_28 (i := 5) rfl
theorem d_M_worksProduct_44 : decode (zb m_M_worksProduct) 44 = .ok (.goto (-42), 3) := zdal_p dlD_M_worksProduct_28 (i := 6) rfl
theorem d_M_worksProduct_47 : decode (zb m_M_worksProduct) 47 = .ok (.aload_n 0, 1) := zdal_p dlD_M_worksProduct_28 (i := 7) rfl
theorem d_M_worksProduct_48 : decode (zb m_M_worksProduct) 48 = .ok (.aload_n 0, 1) := zdal_p dlD_M_worksProduct_28 (i := 8) rfl
theorem d_M_worksProduct_49 : decode (zb m_M_worksProduct) 49 = .ok (.getfield 60, 3) := zdal_p dlD_M_worksProduct_28 (i := 9) rfl
theorem d_M_worksProduct_52 : decode (zb m_M_worksProduct) 52 = .ok (.aload_n 0, 1) := zdal_p dlD_M_worksProduct_28 (i := 10) rfl
theorem d_M_worksProduct_53 : decode (zb m_M_worksProduct) 53 = .ok (.getfield 87, 3) := zdal_p dlD_M_worksProduct_28 (i := 11) rfl
theorem d_M_worksProduct_56 : decode (zb m_M_worksProduct) 56 = .ok (.iconst 0, 1) := zdal_p dlD_M_worksProduct_28 (i := 12) rfl
theorem d_M_worksProduct_57 : decode (zb m_M_worksProduct) 57 = .ok (.invokevirtual 289, 3) := zdal_p dlD_M_worksProduct_28 (i := 13) rfl
theorem d_M_worksProduct_60 : decode (zb m_M_worksProduct) 60 = .ok (.return_, 1) := zdal_p dlD_M_worksProduct_28 (i := 14) rfl
theorem dlD_M_pairs_29 : zdal (zb m_M_pairs) [(0, (.aload_n 0, 1)), (1, (.iload_n 1, 1)), (2, (.invokevirtual 414, 3)), (5, (.ifCond .eq 11, 3)), (8, (.aload_n 0, 1)), (9, (.iload_n 2, 1)), (10, (.invokevirtual 414, 3)), (13, (.ifCond .ne 5, 3)), (16, (.iconst (-1), 1)), (17, (.ireturn, 1)), (18, (.aload_n 0, 1)), (19, (.iload_n 1, 1)), (20, (.iload_n 2, 1)), (21, (.invokevirtual 423, 3)), (24, (.lconst 0, 1)), (25, (.lstore_n 3, 1)), (26, (.iconst 0, 1)), (27, (.istore 5, 2)), (29, (.iload 5, 2)), (31, (.aload_n 0, 1)), (32, (.getfield 235, 3)), (35, (.if_icmp .ge 19, 3)), (38, (.lload_n 3, 1)), (39, (.aload_n 0, 1))] = true := zDs 0 (by decide +kernel)
theorem d_M_pairs_0 : decode (zb m_M_pairs) 0 = .ok (.aload_n 0, 1) := zdal_p dlD_M_pairs_29 (i := 0) rfl
theorem d_M_pairs_1 : decode (zb m_M_pairs) 1 = .ok (.iload_n 1, 1) := zdal_p dlD_M_pairs_29 (i := 1) rfl
theorem d_M_pairs_2 : decode (zb m_M_pairs) 2 = .ok (.invokevirtual 414, 3) := zdal_p dlD_M_pairs_29 (i := 2) rfl
theorem d_M_pairs_5 : decode (zb m_M_pairs) 5 = .ok (.ifCond .eq 11, 3) := zdal_p dlD_M_pairs_29 (i := 3) rfl
theorem d_M_pairs_8 : decode (zb m_M_pairs) 8 = .ok (.aload_n 0, 1) := zdal_p dlD_M_pairs_29 (i := 4) rfl
theorem d_M_pairs_9 : decode (zb m_M_pairs) 9 = .ok (.iload_n 2, 1) := zdal_p dlD_M_pairs_29 (i := 5) rfl
theorem d_M_pairs_10 : decode (zb m_M_pairs) 10 = .ok (.invokevirtual 414, 3) := zdal_p dlD_M_pairs_29 (i := 6) rfl
theorem d_M_pairs_13 : decode (zb m_M_pairs) 13 = .ok (.ifCond .ne 5, 3) := zdal_p dlD_M_pairs_29 (i := 7) rfl
theorem d_M_pairs_16 : decode (zb m_M_pairs) 16 = .ok (.iconst (-1), 1) := zdal_p dlD_M_pairs_29 (i := 8) rfl
theorem d_M_pairs_17 : decode (zb m_M_pairs) 17 = .ok (.ireturn, 1) := zdal_p dlD_M_pairs_29 (i := 9) rfl
theorem d_M_pairs_18 : decode (zb m_M_pairs) 18 = .ok (.aload_n 0, 1) := zdal_p dlD_M_pairs_29 (i := 10) rfl
theorem d_M_pairs_19 : decode (zb m_M_pairs) 19 = .ok (.iload_n 1, 1) := zdal_p dlD_M_pairs_29 (i := 11) rfl
theorem d_M_pairs_20 : decode (zb m_M_pairs) 20 = .ok (.iload_n 2, 1) := zdal_p dlD_M_pairs_29 (i := 12) rfl
theorem d_M_pairs_21 : decode (zb m_M_pairs) 21 = .ok (.invokevirtual 423, 3) := zdal_p dlD_M_pairs_29 (i := 13) rfl
theorem d_M_pairs_24 : decode (zb m_M_pairs) 24 = .ok (.lconst 0, 1) := zdal_p dlD_M_pairs_29 (i := 14) rfl
theorem d_M_pairs_25 : decode (zb m_M_pairs) 25 = .ok (.lstore_n 3, 1) := zdal_p dlD_M_pairs_29 (i := 15) rfl
theorem d_M_pairs_26 : decode (zb m_M_pairs) 26 = .ok (.iconst 0, 1) := zdal_p dlD_M_pairs_29 (i := 16) rfl
theorem d_M_pairs_27 : decode (zb m_M_pairs) 27 = .ok (.istore 5, 2) := zdal_p dlD_M_pairs_29 (i := 17) rfl
theorem d_M_pairs_29 : decode (zb m_M_pairs) 29 = .ok (.iload 5, 2) := zdal_p dlD_M_pairs_29 (i := 18) rfl
theorem d_M_pairs_31 : decode (zb m_M_pairs) 31 = .ok (.aload_n 0, 1) := zdal_p dlD_M_pairs_29 (i := 19) rfl
theorem d_M_pairs_32 : decode (zb m_M_pairs) 32 = .ok (.getfield 235, 3) := zdal_p dlD_M_pairs_29 (i := 20) rfl
theorem d_M_pairs_35 : decode (zb m_M_pairs) 35 = .ok (.if_icmp .ge 19, 3) := zdal_p dlD_M_pairs_29 (i := 21) rfl
theorem d_M_pairs_38 : decode (zb m_M_pairs) 38 = .ok (.lload_n 3, 1) := zdal_p dlD_M_pairs_29 (i := 22) rfl
theorem d_M_pairs_39 : decode (zb m_M_pairs) 39 = .ok (.aload_n 0, 1) := zdal_p dlD_M_pairs_29 (i := 23) rfl
theorem dlD_M_pairs_30 : zdal (zb m_M_pairs) [(40, (.getfield 87, 3)), (43, (.iload 5, 2)), (45, (.laload, 1)), (46, (.ladd, 1)), (47, (.lstore_n 3, 1)), (48, (.iinc 5 1, 3)), (51, (.goto (-22), 3)), (54, (.lload_n 3, 1)), (55, (.l2i, 1)), (56, (.ireturn, 1))] = true := zDs 40 (by decide +kernel)
theorem d_M_pairs_40 : decode (zb m_M_pairs) 40 = .ok (.getfield 87, 3) := zdal_p dlD_M_pairs_30 (i := 0) rfl
theorem d_M_pairs_43 : decode (zb m_M_pairs) 43 = .ok (.iload 5, 2) := zdal_p dlD_M_pairs_30 (i := 1) rfl
theorem d_M_pairs_45 : decode (zb m_M_pairs) 45 = .ok (.laload, 1) := zdal_p dlD_M_pairs_30 (i := 2) rfl
theorem d_M_pairs_46 : decode (zb m_M_pairs) 46 = .ok (.ladd, 1) := zdal_p dlD_M_pairs_30 (i := 3) rfl
theorem d_M_pairs_47 : decode (zb m_M_pairs) 47 = .ok (.lstore_n 3, 1) := zdal_p dlD_M_pairs_30 (i := 4) rfl
theorem d_M_pairs_48 : decode (zb m_M_pairs) 48 = .ok (.iinc 5 1, 3) := zdal_p dlD_M_pairs_30 (i := 5) rfl
theorem d_M_pairs_51 : decode (zb m_M_pairs) 51 = .ok (.goto (-22), 3) := zdal_p dlD_M_pairs_30 (i := 6) rfl
theorem d_M_pairs_54 : decode (zb m_M_pairs) 54 = .ok (.lload_n 3, 1) := zdal_p dlD_M_pairs_30 (i := 7) rfl
theorem d_M_pairs_55 : decode (zb m_M_pairs) 55 = .ok (.l2i, 1) := zdal_p dlD_M_pairs_30 (i := 8) rfl
theorem d_M_pairs_56 : decode (zb m_M_pairs) 56 = .ok (.ireturn, 1) := zdal_p dlD_M_pairs_30 (i := 9) rfl
theorem dlD_M_residue_31 : zdal (zb m_M_residue) [(0, (.aload_n 0, 1)), (1, (.iload_n 1, 1)), (2, (.invokevirtual 414, 3)), (5, (.ifCond .eq 19, 3)), (8, (.iload_n 2, 1)), (9, (.invokestatic 426, 3)), (12, (.ifCond .eq 12, 3)), (15, (.aload_n 0, 1)), (16, (.iload_n 1, 1)), (17, (.iload_n 2, 1)), (18, (.invokevirtual 429, 3)), (21, (.goto 4, 3)), (24, (.iconst (-1), 1)), (25, (.ireturn, 1))] = true := zDs 0 (by decide +kernel)
theorem d_M_residue_0 : decode (zb m_M_residue) 0 = .ok (.aload_n 0, 1) := zdal_p dlD_M_residue_31 (i := 0) rfl
theorem d_M_residue_1 : decode (zb m_M_residue) 1 = .ok (.iload_n 1, 1) := zdal_p dlD_M_residue_31 (i := 1) rfl
theorem d_M_residue_2 : decode (zb m_M_residue) 2 = .ok (.invokevirtual 414, 3) := zdal_p dlD_M_residue_31 (i := 2) rfl
theorem d_M_residue_5 : decode (zb m_M_residue) 5 = .ok (.ifCond .eq 19, 3) := zdal_p dlD_M_residue_31 (i := 3) rfl
theorem d_M_residue_8 : decode (zb m_M_residue) 8 = .ok (.iload_n 2, 1) := zdal_p dlD_M_residue_31 (i := 4) rfl
theorem d_M_residue_9 : decode (zb m_M_residue) 9 = .ok (.invokestatic 426, 3) := zdal_p dlD_M_residue_31 (i := 5) rfl
theorem d_M_residue_12 : decode (zb m_M_residue) 12 = .ok (.ifCond .eq 12, 3) := zdal_p dlD_M_residue_31 (i := 6) rfl
theorem d_M_residue_15 : decode (zb m_M_residue) 15 = .ok (.aload_n 0, 1) := zdal_p dlD_M_residue_31 (i := 7) rfl
theorem d_M_residue_16 : decode (zb m_M_residue) 16 = .ok (.iload_n 1, 1) := zdal_p dlD_M_residue_31 (i := 8) rfl
theorem d_M_residue_17 : decode (zb m_M_residue) 17 = .ok (.iload_n 2, 1) := zdal_p dlD_M_residue_31 (i := 9) rfl
theorem d_M_residue_18 : decode (zb m_M_residue) 18 = .ok (.invokevirtual 429, 3) := zdal_p dlD_M_residue_31 (i := 10) rfl
theorem d_M_residue_21 : decode (zb m_M_residue) 21 = .ok (.goto 4, 3) := zdal_p dlD_M_residue_31 (i := 11) rfl
theorem d_M_residue_24 : decode (zb m_M_residue) 24 = .ok (.iconst (-1), 1) := zdal_p dlD_M_residue_31 (i := 12) rfl
theorem d_M_residue_25 : decode (zb m_M_residue) 25 = .ok (.ireturn, 1) := zdal_p dlD_M_residue_31 (i := 13) rfl
theorem dlD_M_isPrime_32 : zdal (zb m_M_isPrime) [(0, (.iload_n 0, 1)), (1, (.iconst 2, 1)), (2, (.if_icmp .eq 13, 3)), (5, (.iload_n 0, 1)), (6, (.iconst 3, 1)), (7, (.if_icmp .eq 8, 3)), (10, (.iload_n 0, 1)), (11, (.iconst 5, 1)), (12, (.if_icmp .ne 7, 3)), (15, (.iconst 1, 1)), (16, (.goto 4, 3)), (19, (.iconst 0, 1)), (20, (.ireturn, 1))] = true := zDs 0 (by decide +kernel)
theorem d_M_isPrime_0 : decode (zb m_M_isPrime) 0 = .ok (.iload_n 0, 1) := zdal_p dlD_M_isPrime_32 (i := 0) rfl
theorem d_M_isPrime_1 : decode (zb m_M_isPrime) 1 = .ok (.iconst 2, 1) := zdal_p dlD_M_isPrime_32 (i := 1) rfl
theorem d_M_isPrime_2 : decode (zb m_M_isPrime) 2 = .ok (.if_icmp .eq 13, 3) := zdal_p dlD_M_isPrime_32 (i := 2) rfl
theorem d_M_isPrime_5 : decode (zb m_M_isPrime) 5 = .ok (.iload_n 0, 1) := zdal_p dlD_M_isPrime_32 (i := 3) rfl
theorem d_M_isPrime_6 : decode (zb m_M_isPrime) 6 = .ok (.iconst 3, 1) := zdal_p dlD_M_isPrime_32 (i := 4) rfl
theorem d_M_isPrime_7 : decode (zb m_M_isPrime) 7 = .ok (.if_icmp .eq 8, 3) := zdal_p dlD_M_isPrime_32 (i := 5) rfl
theorem d_M_isPrime_10 : decode (zb m_M_isPrime) 10 = .ok (.iload_n 0, 1) := zdal_p dlD_M_isPrime_32 (i := 6) rfl
theorem d_M_isPrime_11 : decode (zb m_M_isPrime) 11 = .ok (.iconst 5, 1) := zdal_p dlD_M_isPrime_32 (i := 7) rfl
theorem d_M_isPrime_12 : decode (zb m_M_isPrime) 12 = .ok (.if_icmp .ne 7, 3) := zdal_p dlD_M_isPrime_32 (i := 8) rfl
theorem d_M_isPrime_15 : decode (zb m_M_isPrime) 15 = .ok (.iconst 1, 1) := zdal_p dlD_M_isPrime_32 (i := 9) rfl
theorem d_M_isPrime_16 : decode (zb m_M_isPrime) 16 = .ok (.goto 4, 3) := zdal_p dlD_M_isPrime_32 (i := 10) rfl
theorem d_M_isPrime_19 : decode (zb m_M_isPrime) 19 = .ok (.iconst 0, 1) := zdal_p dlD_M_isPrime_32 (i := 11) rfl
theorem d_M_isPrime_20 : decode (zb m_M_isPrime) 20 = .ok (.ireturn, 1) := zdal_p dlD_M_isPrime_32 (i := 12) rfl
theorem dlD_M_residueOf_33 : zdal (zb m_M_residueOf) [(0, (.aload_n 0, 1)), (1, (.getfield 44, 3)), (4, (.iload_n 1, 1)), (5, (.iaload, 1)), (6, (.istore_n 3, 1)), (7, (.iload_n 3, 1)), (8, (.istore 4, 2)), (10, (.iconst 0, 1)), (11, (.istore 5, 2)), (13, (.iload 5, 2)), (15, (.aload_n 0, 1)), (16, (.getfield 220, 3)), (19, (.if_icmp .ge 166, 3)), (22, (.aload_n 0, 1)), (23, (.getfield 38, 3)), (26, (.iload 5, 2)), (28, (.iaload, 1)), (29, (.iload_n 3, 1)), (30, (.iconst (-1), 1)), (31, (.ixor, 1)), (32, (.iand, 1)), (33, (.ifCond .ne 146, 3)), (36, (.aload_n 0, 1)), (37, (.getfield 38, 3))] = true := zDs 0 (by decide +kernel)
theorem d_M_residueOf_0 : decode (zb m_M_residueOf) 0 = .ok (.aload_n 0, 1) := zdal_p dlD_M_residueOf_33 (i := 0) rfl
theorem d_M_residueOf_1 : decode (zb m_M_residueOf) 1 = .ok (.getfield 44, 3) := zdal_p dlD_M_residueOf_33 (i := 1) rfl
theorem d_M_residueOf_4 : decode (zb m_M_residueOf) 4 = .ok (.iload_n 1, 1) := zdal_p dlD_M_residueOf_33 (i := 2) rfl
theorem d_M_residueOf_5 : decode (zb m_M_residueOf) 5 = .ok (.iaload, 1) := zdal_p dlD_M_residueOf_33 (i := 3) rfl
theorem d_M_residueOf_6 : decode (zb m_M_residueOf) 6 = .ok (.istore_n 3, 1) := zdal_p dlD_M_residueOf_33 (i := 4) rfl
theorem d_M_residueOf_7 : decode (zb m_M_residueOf) 7 = .ok (.iload_n 3, 1) := zdal_p dlD_M_residueOf_33 (i := 5) rfl
theorem d_M_residueOf_8 : decode (zb m_M_residueOf) 8 = .ok (.istore 4, 2) := zdal_p dlD_M_residueOf_33 (i := 6) rfl
theorem d_M_residueOf_10 : decode (zb m_M_residueOf) 10 = .ok (.iconst 0, 1) := zdal_p dlD_M_residueOf_33 (i := 7) rfl
theorem d_M_residueOf_11 : decode (zb m_M_residueOf) 11 = .ok (.istore 5, 2) := zdal_p dlD_M_residueOf_33 (i := 8) rfl
theorem d_M_residueOf_13 : decode (zb m_M_residueOf) 13 = .ok (.iload 5, 2) := zdal_p dlD_M_residueOf_33 (i := 9) rfl
theorem d_M_residueOf_15 : decode (zb m_M_residueOf) 15 = .ok (.aload_n 0, 1) := zdal_p dlD_M_residueOf_33 (i := 10) rfl
theorem d_M_residueOf_16 : decode (zb m_M_residueOf) 16 = .ok (.getfield 220, 3) := zdal_p dlD_M_residueOf_33 (i := 11) rfl
theorem d_M_residueOf_19 : decode (zb m_M_residueOf) 19 = .ok (.if_icmp .ge 166, 3) := zdal_p dlD_M_residueOf_33 (i := 12) rfl
theorem d_M_residueOf_22 : decode (zb m_M_residueOf) 22 = .ok (.aload_n 0, 1) := zdal_p dlD_M_residueOf_33 (i := 13) rfl
theorem d_M_residueOf_23 : decode (zb m_M_residueOf) 23 = .ok (.getfield 38, 3) := zdal_p dlD_M_residueOf_33 (i := 14) rfl
theorem d_M_residueOf_26 : decode (zb m_M_residueOf) 26 = .ok (.iload 5, 2) := zdal_p dlD_M_residueOf_33 (i := 15) rfl
theorem d_M_residueOf_28 : decode (zb m_M_residueOf) 28 = .ok (.iaload, 1) := zdal_p dlD_M_residueOf_33 (i := 16) rfl
theorem d_M_residueOf_29 : decode (zb m_M_residueOf) 29 = .ok (.iload_n 3, 1) := zdal_p dlD_M_residueOf_33 (i := 17) rfl
theorem d_M_residueOf_30 : decode (zb m_M_residueOf) 30 = .ok (.iconst (-1), 1) := zdal_p dlD_M_residueOf_33 (i := 18) rfl
theorem d_M_residueOf_31 : decode (zb m_M_residueOf) 31 = .ok (.ixor, 1) := zdal_p dlD_M_residueOf_33 (i := 19) rfl
theorem d_M_residueOf_32 : decode (zb m_M_residueOf) 32 = .ok (.iand, 1) := zdal_p dlD_M_residueOf_33 (i := 20) rfl
theorem d_M_residueOf_33 : decode (zb m_M_residueOf) 33 = .ok (.ifCond .ne 146, 3) := zdal_p dlD_M_residueOf_33 (i := 21) rfl
theorem d_M_residueOf_36 : decode (zb m_M_residueOf) 36 = .ok (.aload_n 0, 1) := zdal_p dlD_M_residueOf_33 (i := 22) rfl
theorem d_M_residueOf_37 : decode (zb m_M_residueOf) 37 = .ok (.getfield 38, 3) := zdal_p dlD_M_residueOf_33 (i := 23) rfl
theorem dlD_M_residueOf_34 : zdal (zb m_M_residueOf) [(40, (.iload 5, 2)), (42, (.iaload, 1)), (43, (.invokestatic 253, 3)), (46, (.iload 4, 2)), (48, (.invokestatic 253, 3)), (51, (.if_icmp .lt 6, 3)), (54, (.goto 125, 3)), (57, (.iload_n 3, 1)), (58, (.invokestatic 253, 3)), (61, (.aload_n 0, 1)), (62, (.getfield 38, 3)), (65, (.iload 5, 2)), (67, (.iaload, 1)), (68, (.invokestatic 253, 3)), (71, (.idiv, 1)), (72, (.istore 6, 2)), (74, (.iload 6, 2)), (76, (.iload_n 2, 1)), (77, (.irem, 1)), (78, (.ifCond .ne 12, 3)), (81, (.iload 6, 2)), (83, (.iload_n 2, 1)), (84, (.idiv, 1)), (85, (.istore 6, 2))] = true := zDs 40 (by decide +kernel)
theorem d_M_residueOf_40 : decode (zb m_M_residueOf) 40 = .ok (.iload 5, 2) := zdal_p dlD_M_residueOf_34 (i := 0) rfl
theorem d_M_residueOf_42 : decode (zb m_M_residueOf) 42 = .ok (.iaload, 1) := zdal_p dlD_M_residueOf_34 (i := 1) rfl
theorem d_M_residueOf_43 : decode (zb m_M_residueOf) 43 = .ok (.invokestatic 253, 3) := zdal_p dlD_M_residueOf_34 (i := 2) rfl
theorem d_M_residueOf_46 : decode (zb m_M_residueOf) 46 = .ok (.iload 4, 2) := zdal_p dlD_M_residueOf_34 (i := 3) rfl
theorem d_M_residueOf_48 : decode (zb m_M_residueOf) 48 = .ok (.invokestatic 253, 3) := zdal_p dlD_M_residueOf_34 (i := 4) rfl
theorem d_M_residueOf_51 : decode (zb m_M_residueOf) 51 = .ok (.if_icmp .lt 6, 3) := zdal_p dlD_M_residueOf_34 (i := 5) rfl
theorem d_M_residueOf_54 : decode (zb m_M_residueOf) 54 = .ok (.goto 125, 3) := zdal_p dlD_M_residueOf_34 (i := 6) rfl
theorem d_M_residueOf_57 : decode (zb m_M_residueOf) 57 = .ok (.iload_n 3, 1) := zdal_p dlD_M_residueOf_34 (i := 7) rfl
theorem d_M_residueOf_58 : decode (zb m_M_residueOf) 58 = .ok (.invokestatic 253, 3) := zdal_p dlD_M_residueOf_34 (i := 8) rfl
theorem d_M_residueOf_61 : decode (zb m_M_residueOf) 61 = .ok (.aload_n 0, 1) := zdal_p dlD_M_residueOf_34 (i := 9) rfl
theorem d_M_residueOf_62 : decode (zb m_M_residueOf) 62 = .ok (.getfield 38, 3) := zdal_p dlD_M_residueOf_34 (i := 10) rfl
theorem d_M_residueOf_65 : decode (zb m_M_residueOf) 65 = .ok (.iload 5, 2) := zdal_p dlD_M_residueOf_34 (i := 11) rfl
theorem d_M_residueOf_67 : decode (zb m_M_residueOf) 67 = .ok (.iaload, 1) := zdal_p dlD_M_residueOf_34 (i := 12) rfl
theorem d_M_residueOf_68 : decode (zb m_M_residueOf) 68 = .ok (.invokestatic 253, 3) := zdal_p dlD_M_residueOf_34 (i := 13) rfl
theorem d_M_residueOf_71 : decode (zb m_M_residueOf) 71 = .ok (.idiv, 1) := zdal_p dlD_M_residueOf_34 (i := 14) rfl
theorem d_M_residueOf_72 : decode (zb m_M_residueOf) 72 = .ok (.istore 6, 2) := zdal_p dlD_M_residueOf_34 (i := 15) rfl
theorem d_M_residueOf_74 : decode (zb m_M_residueOf) 74 = .ok (.iload 6, 2) := zdal_p dlD_M_residueOf_34 (i := 16) rfl
theorem d_M_residueOf_76 : decode (zb m_M_residueOf) 76 = .ok (.iload_n 2, 1) := zdal_p dlD_M_residueOf_34 (i := 17) rfl
theorem d_M_residueOf_77 : decode (zb m_M_residueOf) 77 = .ok (.irem, 1) := zdal_p dlD_M_residueOf_34 (i := 18) rfl
theorem d_M_residueOf_78 : decode (zb m_M_residueOf) 78 = .ok (.ifCond .ne 12, 3) := zdal_p dlD_M_residueOf_34 (i := 19) rfl
theorem d_M_residueOf_81 : decode (zb m_M_residueOf) 81 = .ok (.iload 6, 2) := zdal_p dlD_M_residueOf_34 (i := 20) rfl
theorem d_M_residueOf_83 : decode (zb m_M_residueOf) 83 = .ok (.iload_n 2, 1) := zdal_p dlD_M_residueOf_34 (i := 21) rfl
theorem d_M_residueOf_84 : decode (zb m_M_residueOf) 84 = .ok (.idiv, 1) := zdal_p dlD_M_residueOf_34 (i := 22) rfl
theorem d_M_residueOf_85 : decode (zb m_M_residueOf) 85 = .ok (.istore 6, 2) := zdal_p dlD_M_residueOf_34 (i := 23) rfl
theorem dlD_M_residueOf_35 : zdal (zb m_M_residueOf) [(87, (.goto (-13), 3)), (90, (.iload 6, 2)), (92, (.iconst 1, 1)), (93, (.if_icmp .ne 7, 3)), (96, (.iconst 1, 1)), (97, (.goto 4, 3)), (100, (.iconst 0, 1)), (101, (.istore 7, 2)), (103, (.iconst 0, 1)), (104, (.istore 8, 2)), (106, (.iload 8, 2)), (108, (.aload_n 0, 1)), (109, (.getfield 196, 3)), (112, (.if_icmp .ge 53, 3)), (115, (.iload 7, 2)), (117, (.ifCond .eq 48, 3)), (120, (.iload_n 3, 1)), (121, (.iload 8, 2)), (123, (.invokestatic 213, 3)), (126, (.ifCond .eq 26, 3)), (129, (.aload_n 0, 1)), (130, (.aload_n 0, 1)), (131, (.getfield 38, 3)), (134, (.iload 5, 2))] = true := zDs 87 (by decide +kernel)
theorem d_M_residueOf_87 : decode (zb m_M_residueOf) 87 = .ok (.goto (-13), 3) := zdal_p dlD_M_residueOf_35 (i := 0) rfl
theorem d_M_residueOf_90 : decode (zb m_M_residueOf) 90 = .ok (.iload 6, 2) := zdal_p dlD_M_residueOf_35 (i := 1) rfl
theorem d_M_residueOf_92 : decode (zb m_M_residueOf) 92 = .ok (.iconst 1, 1) := zdal_p dlD_M_residueOf_35 (i := 2) rfl
theorem d_M_residueOf_93 : decode (zb m_M_residueOf) 93 = .ok (.if_icmp .ne 7, 3) := zdal_p dlD_M_residueOf_35 (i := 3) rfl
theorem d_M_residueOf_96 : decode (zb m_M_residueOf) 96 = .ok (.iconst 1, 1) := zdal_p dlD_M_residueOf_35 (i := 4) rfl
theorem d_M_residueOf_97 : decode (zb m_M_residueOf) 97 = .ok (.goto 4, 3) := zdal_p dlD_M_residueOf_35 (i := 5) rfl
theorem d_M_residueOf_100 : decode (zb m_M_residueOf) 100 = .ok (.iconst 0, 1) := zdal_p dlD_M_residueOf_35 (i := 6) rfl
theorem d_M_residueOf_101 : decode (zb m_M_residueOf) 101 = .ok (.istore 7, 2) := zdal_p dlD_M_residueOf_35 (i := 7) rfl
theorem d_M_residueOf_103 : decode (zb m_M_residueOf) 103 = .ok (.iconst 0, 1) := zdal_p dlD_M_residueOf_35 (i := 8) rfl
theorem d_M_residueOf_104 : decode (zb m_M_residueOf) 104 = .ok (.istore 8, 2) := zdal_p dlD_M_residueOf_35 (i := 9) rfl
theorem d_M_residueOf_106 : decode (zb m_M_residueOf) 106 = .ok (.iload 8, 2) := zdal_p dlD_M_residueOf_35 (i := 10) rfl
theorem d_M_residueOf_108 : decode (zb m_M_residueOf) 108 = .ok (.aload_n 0, 1) := zdal_p dlD_M_residueOf_35 (i := 11) rfl
theorem d_M_residueOf_109 : decode (zb m_M_residueOf) 109 = .ok (.getfield 196, 3) := zdal_p dlD_M_residueOf_35 (i := 12) rfl
theorem d_M_residueOf_112 : decode (zb m_M_residueOf) 112 = .ok (.if_icmp .ge 53, 3) := zdal_p dlD_M_residueOf_35 (i := 13) rfl
theorem d_M_residueOf_115 : decode (zb m_M_residueOf) 115 = .ok (.iload 7, 2) := zdal_p dlD_M_residueOf_35 (i := 14) rfl
theorem d_M_residueOf_117 : decode (zb m_M_residueOf) 117 = .ok (.ifCond .eq 48, 3) := zdal_p dlD_M_residueOf_35 (i := 15) rfl
theorem d_M_residueOf_120 : decode (zb m_M_residueOf) 120 = .ok (.iload_n 3, 1) := zdal_p dlD_M_residueOf_35 (i := 16) rfl
theorem d_M_residueOf_121 : decode (zb m_M_residueOf) 121 = .ok (.iload 8, 2) := zdal_p dlD_M_residueOf_35 (i := 17) rfl
theorem d_M_residueOf_123 : decode (zb m_M_residueOf) 123 = .ok (.invokestatic 213, 3) := zdal_p dlD_M_residueOf_35 (i := 18) rfl
theorem d_M_residueOf_126 : decode (zb m_M_residueOf) 126 = .ok (.ifCond .eq 26, 3) := zdal_p dlD_M_residueOf_35 (i := 19) rfl
theorem d_M_residueOf_129 : decode (zb m_M_residueOf) 129 = .ok (.aload_n 0, 1) := zdal_p dlD_M_residueOf_35 (i := 20) rfl
theorem d_M_residueOf_130 : decode (zb m_M_residueOf) 130 = .ok (.aload_n 0, 1) := zdal_p dlD_M_residueOf_35 (i := 21) rfl
theorem d_M_residueOf_131 : decode (zb m_M_residueOf) 131 = .ok (.getfield 38, 3) := zdal_p dlD_M_residueOf_35 (i := 22) rfl
theorem d_M_residueOf_134 : decode (zb m_M_residueOf) 134 = .ok (.iload 5, 2) := zdal_p dlD_M_residueOf_35 (i := 23) rfl
theorem dlD_M_residueOf_36 : zdal (zb m_M_residueOf) [(136, (.iaload, 1)), (137, (.iload 8, 2)), (139, (.invokevirtual 223, 3)), (142, (.aload_n 0, 1)), (143, (.getfield 38, 3)), (146, (.iload 5, 2)), (148, (.iaload, 1)), (149, (.if_icmp .ne 7, 3)), (152, (.iconst 1, 1)), (153, (.goto 4, 3)), (156, (.iconst 0, 1)), (157, (.istore 7, 2)), (159, (.iinc 8 1, 3)), (162, (.goto (-56), 3)), (165, (.iload 7, 2)), (167, (.ifCond .eq 12, 3)), (170, (.aload_n 0, 1)), (171, (.getfield 38, 3)), (174, (.iload 5, 2)), (176, (.iaload, 1)), (177, (.istore 4, 2)), (179, (.iinc 5 1, 3)), (182, (.goto (-169), 3)), (185, (.aload_n 0, 1))] = true := zDs 136 (by decide +kernel)
theorem d_M_residueOf_136 : decode (zb m_M_residueOf) 136 = .ok (.iaload, 1) := zdal_p dlD_M_residueOf_36 (i := 0) rfl
theorem d_M_residueOf_137 : decode (zb m_M_residueOf) 137 = .ok (.iload 8, 2) := zdal_p dlD_M_residueOf_36 (i := 1) rfl
theorem d_M_residueOf_139 : decode (zb m_M_residueOf) 139 = .ok (.invokevirtual 223, 3) := zdal_p dlD_M_residueOf_36 (i := 2) rfl
theorem d_M_residueOf_142 : decode (zb m_M_residueOf) 142 = .ok (.aload_n 0, 1) := zdal_p dlD_M_residueOf_36 (i := 3) rfl
theorem d_M_residueOf_143 : decode (zb m_M_residueOf) 143 = .ok (.getfield 38, 3) := zdal_p dlD_M_residueOf_36 (i := 4) rfl
theorem d_M_residueOf_146 : decode (zb m_M_residueOf) 146 = .ok (.iload 5, 2) := zdal_p dlD_M_residueOf_36 (i := 5) rfl
theorem d_M_residueOf_148 : decode (zb m_M_residueOf) 148 = .ok (.iaload, 1) := zdal_p dlD_M_residueOf_36 (i := 6) rfl
theorem d_M_residueOf_149 : decode (zb m_M_residueOf) 149 = .ok (.if_icmp .ne 7, 3) := zdal_p dlD_M_residueOf_36 (i := 7) rfl
theorem d_M_residueOf_152 : decode (zb m_M_residueOf) 152 = .ok (.iconst 1, 1) := zdal_p dlD_M_residueOf_36 (i := 8) rfl
theorem d_M_residueOf_153 : decode (zb m_M_residueOf) 153 = .ok (.goto 4, 3) := zdal_p dlD_M_residueOf_36 (i := 9) rfl
theorem d_M_residueOf_156 : decode (zb m_M_residueOf) 156 = .ok (.iconst 0, 1) := zdal_p dlD_M_residueOf_36 (i := 10) rfl
theorem d_M_residueOf_157 : decode (zb m_M_residueOf) 157 = .ok (.istore 7, 2) := zdal_p dlD_M_residueOf_36 (i := 11) rfl
theorem d_M_residueOf_159 : decode (zb m_M_residueOf) 159 = .ok (.iinc 8 1, 3) := zdal_p dlD_M_residueOf_36 (i := 12) rfl
theorem d_M_residueOf_162 : decode (zb m_M_residueOf) 162 = .ok (.goto (-56), 3) := zdal_p dlD_M_residueOf_36 (i := 13) rfl
theorem d_M_residueOf_165 : decode (zb m_M_residueOf) 165 = .ok (.iload 7, 2) := zdal_p dlD_M_residueOf_36 (i := 14) rfl
theorem d_M_residueOf_167 : decode (zb m_M_residueOf) 167 = .ok (.ifCond .eq 12, 3) := zdal_p dlD_M_residueOf_36 (i := 15) rfl
theorem d_M_residueOf_170 : decode (zb m_M_residueOf) 170 = .ok (.aload_n 0, 1) := zdal_p dlD_M_residueOf_36 (i := 16) rfl
theorem d_M_residueOf_171 : decode (zb m_M_residueOf) 171 = .ok (.getfield 38, 3) := zdal_p dlD_M_residueOf_36 (i := 17) rfl
theorem d_M_residueOf_174 : decode (zb m_M_residueOf) 174 = .ok (.iload 5, 2) := zdal_p dlD_M_residueOf_36 (i := 18) rfl
theorem d_M_residueOf_176 : decode (zb m_M_residueOf) 176 = .ok (.iaload, 1) := zdal_p dlD_M_residueOf_36 (i := 19) rfl
theorem d_M_residueOf_177 : decode (zb m_M_residueOf) 177 = .ok (.istore 4, 2) := zdal_p dlD_M_residueOf_36 (i := 20) rfl
theorem d_M_residueOf_179 : decode (zb m_M_residueOf) 179 = .ok (.iinc 5 1, 3) := zdal_p dlD_M_residueOf_36 (i := 21) rfl
theorem d_M_residueOf_182 : decode (zb m_M_residueOf) 182 = .ok (.goto (-169), 3) := zdal_p dlD_M_residueOf_36 (i := 22) rfl
theorem d_M_residueOf_185 : decode (zb m_M_residueOf) 185 = .ok (.aload_n 0, 1) := zdal_p dlD_M_residueOf_36 (i := 23) rfl
theorem dlD_M_residueOf_37 : zdal (zb m_M_residueOf) [(186, (.iload 4, 2)), (188, (.invokevirtual 411, 3)), (191, (.ireturn, 1))] = true := zDs 186 (by decide +kernel)
theorem d_M_residueOf_186 : decode (zb m_M_residueOf) 186 = .ok (.iload 4, 2) := zdal_p dlD_M_residueOf_37 (i := 0) rfl
theorem d_M_residueOf_188 : decode (zb m_M_residueOf) 188 = .ok (.invokevirtual 411, 3) := zdal_p dlD_M_residueOf_37 (i := 1) rfl
theorem d_M_residueOf_191 : decode (zb m_M_residueOf) 191 = .ok (.ireturn, 1) := zdal_p dlD_M_residueOf_37 (i := 2) rfl
theorem dlD_M_block_38 : zdal (zb m_M_block) [(0, (.aload_n 0, 1)), (1, (.iload_n 1, 1)), (2, (.invokevirtual 414, 3)), (5, (.ifCond .eq 19, 3)), (8, (.iload_n 2, 1)), (9, (.invokestatic 426, 3)), (12, (.ifCond .eq 12, 3)), (15, (.aload_n 0, 1)), (16, (.iload_n 1, 1)), (17, (.iload_n 2, 1)), (18, (.invokevirtual 432, 3)), (21, (.goto 4, 3)), (24, (.iconst (-1), 1)), (25, (.ireturn, 1))] = true := zDs 0 (by decide +kernel)
theorem d_M_block_0 : decode (zb m_M_block) 0 = .ok (.aload_n 0, 1) := zdal_p dlD_M_block_38 (i := 0) rfl
theorem d_M_block_1 : decode (zb m_M_block) 1 = .ok (.iload_n 1, 1) := zdal_p dlD_M_block_38 (i := 1) rfl
theorem d_M_block_2 : decode (zb m_M_block) 2 = .ok (.invokevirtual 414, 3) := zdal_p dlD_M_block_38 (i := 2) rfl
theorem d_M_block_5 : decode (zb m_M_block) 5 = .ok (.ifCond .eq 19, 3) := zdal_p dlD_M_block_38 (i := 3) rfl
theorem d_M_block_8 : decode (zb m_M_block) 8 = .ok (.iload_n 2, 1) := zdal_p dlD_M_block_38 (i := 4) rfl
theorem d_M_block_9 : decode (zb m_M_block) 9 = .ok (.invokestatic 426, 3) := zdal_p dlD_M_block_38 (i := 5) rfl
theorem d_M_block_12 : decode (zb m_M_block) 12 = .ok (.ifCond .eq 12, 3) := zdal_p dlD_M_block_38 (i := 6) rfl
theorem d_M_block_15 : decode (zb m_M_block) 15 = .ok (.aload_n 0, 1) := zdal_p dlD_M_block_38 (i := 7) rfl
theorem d_M_block_16 : decode (zb m_M_block) 16 = .ok (.iload_n 1, 1) := zdal_p dlD_M_block_38 (i := 8) rfl
theorem d_M_block_17 : decode (zb m_M_block) 17 = .ok (.iload_n 2, 1) := zdal_p dlD_M_block_38 (i := 9) rfl
theorem d_M_block_18 : decode (zb m_M_block) 18 = .ok (.invokevirtual 432, 3) := zdal_p dlD_M_block_38 (i := 10) rfl
theorem d_M_block_21 : decode (zb m_M_block) 21 = .ok (.goto 4, 3) := zdal_p dlD_M_block_38 (i := 11) rfl
theorem d_M_block_24 : decode (zb m_M_block) 24 = .ok (.iconst (-1), 1) := zdal_p dlD_M_block_38 (i := 12) rfl
theorem d_M_block_25 : decode (zb m_M_block) 25 = .ok (.ireturn, 1) := zdal_p dlD_M_block_38 (i := 13) rfl
theorem dlD_M_blockOf_39 : zdal (zb m_M_blockOf) [(0, (.aload_n 0, 1)), (1, (.iload_n 1, 1)), (2, (.iload_n 2, 1)), (3, (.invokevirtual 429, 3)), (6, (.istore_n 3, 1)), (7, (.iconst 0, 1)), (8, (.istore 4, 2)), (10, (.iconst 0, 1)), (11, (.istore 5, 2)), (13, (.iload 5, 2)), (15, (.aload_n 0, 1)), (16, (.getfield 235, 3)), (19, (.if_icmp .ge 36, 3)), (22, (.iload 4, 2)), (24, (.aload_n 0, 1)), (25, (.iload 5, 2)), (27, (.iload_n 2, 1)), (28, (.invokevirtual 429, 3)), (31, (.iload_n 3, 1)), (32, (.if_icmp .ne 7, 3)), (35, (.iconst 1, 1)), (36, (.goto 4, 3)), (39, (.iconst 0, 1)), (40, (.invokestatic 256, 3))] = true := zDs 0 (by decide +kernel)
theorem d_M_blockOf_0 : decode (zb m_M_blockOf) 0 = .ok (.aload_n 0, 1) := zdal_p dlD_M_blockOf_39 (i := 0) rfl
theorem d_M_blockOf_1 : decode (zb m_M_blockOf) 1 = .ok (.iload_n 1, 1) := zdal_p dlD_M_blockOf_39 (i := 1) rfl
theorem d_M_blockOf_2 : decode (zb m_M_blockOf) 2 = .ok (.iload_n 2, 1) := zdal_p dlD_M_blockOf_39 (i := 2) rfl
theorem d_M_blockOf_3 : decode (zb m_M_blockOf) 3 = .ok (.invokevirtual 429, 3) := zdal_p dlD_M_blockOf_39 (i := 3) rfl
theorem d_M_blockOf_6 : decode (zb m_M_blockOf) 6 = .ok (.istore_n 3, 1) := zdal_p dlD_M_blockOf_39 (i := 4) rfl
theorem d_M_blockOf_7 : decode (zb m_M_blockOf) 7 = .ok (.iconst 0, 1) := zdal_p dlD_M_blockOf_39 (i := 5) rfl
theorem d_M_blockOf_8 : decode (zb m_M_blockOf) 8 = .ok (.istore 4, 2) := zdal_p dlD_M_blockOf_39 (i := 6) rfl
theorem d_M_blockOf_10 : decode (zb m_M_blockOf) 10 = .ok (.iconst 0, 1) := zdal_p dlD_M_blockOf_39 (i := 7) rfl
theorem d_M_blockOf_11 : decode (zb m_M_blockOf) 11 = .ok (.istore 5, 2) := zdal_p dlD_M_blockOf_39 (i := 8) rfl
theorem d_M_blockOf_13 : decode (zb m_M_blockOf) 13 = .ok (.iload 5, 2) := zdal_p dlD_M_blockOf_39 (i := 9) rfl
theorem d_M_blockOf_15 : decode (zb m_M_blockOf) 15 = .ok (.aload_n 0, 1) := zdal_p dlD_M_blockOf_39 (i := 10) rfl
theorem d_M_blockOf_16 : decode (zb m_M_blockOf) 16 = .ok (.getfield 235, 3) := zdal_p dlD_M_blockOf_39 (i := 11) rfl
theorem d_M_blockOf_19 : decode (zb m_M_blockOf) 19 = .ok (.if_icmp .ge 36, 3) := zdal_p dlD_M_blockOf_39 (i := 12) rfl
theorem d_M_blockOf_22 : decode (zb m_M_blockOf) 22 = .ok (.iload 4, 2) := zdal_p dlD_M_blockOf_39 (i := 13) rfl
theorem d_M_blockOf_24 : decode (zb m_M_blockOf) 24 = .ok (.aload_n 0, 1) := zdal_p dlD_M_blockOf_39 (i := 14) rfl
theorem d_M_blockOf_25 : decode (zb m_M_blockOf) 25 = .ok (.iload 5, 2) := zdal_p dlD_M_blockOf_39 (i := 15) rfl
theorem d_M_blockOf_27 : decode (zb m_M_blockOf) 27 = .ok (.iload_n 2, 1) := zdal_p dlD_M_blockOf_39 (i := 16) rfl
theorem d_M_blockOf_28 : decode (zb m_M_blockOf) 28 = .ok (.invokevirtual 429, 3) := zdal_p dlD_M_blockOf_39 (i := 17) rfl
theorem d_M_blockOf_31 : decode (zb m_M_blockOf) 31 = .ok (.iload_n 3, 1) := zdal_p dlD_M_blockOf_39 (i := 18) rfl
theorem d_M_blockOf_32 : decode (zb m_M_blockOf) 32 = .ok (.if_icmp .ne 7, 3) := zdal_p dlD_M_blockOf_39 (i := 19) rfl
theorem d_M_blockOf_35 : decode (zb m_M_blockOf) 35 = .ok (.iconst 1, 1) := zdal_p dlD_M_blockOf_39 (i := 20) rfl
theorem d_M_blockOf_36 : decode (zb m_M_blockOf) 36 = .ok (.goto 4, 3) := zdal_p dlD_M_blockOf_39 (i := 21) rfl
theorem d_M_blockOf_39 : decode (zb m_M_blockOf) 39 = .ok (.iconst 0, 1) := zdal_p dlD_M_blockOf_39 (i := 22) rfl
theorem d_M_blockOf_40 : decode (zb m_M_blockOf) 40 = .ok (.invokestatic 256, 3) := zdal_p dlD_M_blockOf_39 (i := 23) rfl
theorem dlD_M_blockOf_40 : zdal (zb m_M_blockOf) [(43, (.iload 5, 2)), (45, (.ishl, 1)), (46, (.ior, 1)), (47, (.istore 4, 2)), (49, (.iinc 5 1, 3)), (52, (.goto (-39), 3)), (55, (.iload 4, 2)), (57, (.ireturn, 1))] = true := zDs 43 (by decide +kernel)
theorem d_M_blockOf_43 : decode (zb m_M_blockOf) 43 = .ok (.iload 5, 2) := zdal_p dlD_M_blockOf_40 (i := 0) rfl
theorem d_M_blockOf_45 : decode (zb m_M_blockOf) 45 = .ok (.ishl, 1) := zdal_p dlD_M_blockOf_40 (i := 1) rfl
theorem d_M_blockOf_46 : decode (zb m_M_blockOf) 46 = .ok (.ior, 1) := zdal_p dlD_M_blockOf_40 (i := 2) rfl
theorem d_M_blockOf_47 : decode (zb m_M_blockOf) 47 = .ok (.istore 4, 2) := zdal_p dlD_M_blockOf_40 (i := 3) rfl
theorem d_M_blockOf_49 : decode (zb m_M_blockOf) 49 = .ok (.iinc 5 1, 3) := zdal_p dlD_M_blockOf_40 (i := 4) rfl
theorem d_M_blockOf_52 : decode (zb m_M_blockOf) 52 = .ok (.goto (-39), 3) := zdal_p dlD_M_blockOf_40 (i := 5) rfl
theorem d_M_blockOf_55 : decode (zb m_M_blockOf) 55 = .ok (.iload 4, 2) := zdal_p dlD_M_blockOf_40 (i := 6) rfl
theorem d_M_blockOf_57 : decode (zb m_M_blockOf) 57 = .ok (.ireturn, 1) := zdal_p dlD_M_blockOf_40 (i := 7) rfl
theorem dlD_M_keeper_41 : zdal (zb m_M_keeper) [(0, (.iload_n 1, 1)), (1, (.i2l, 1)), (2, (.lconst 0, 1)), (3, (.aload_n 0, 1)), (4, (.getfield 382, 3)), (7, (.iconst 1, 1)), (8, (.isub, 1)), (9, (.i2l, 1)), (10, (.invokestatic 131, 3)), (13, (.ifCond .ne 5, 3)), (16, (.iconst (-1), 1)), (17, (.ireturn, 1)), (18, (.iconst 0, 1)), (19, (.istore_n 2, 1)), (20, (.iconst 0, 1)), (21, (.istore_n 3, 1)), (22, (.iload_n 3, 1)), (23, (.aload_n 0, 1)), (24, (.getfield 196, 3)), (27, (.if_icmp .ge 37, 3)), (30, (.iload_n 2, 1)), (31, (.aload_n 0, 1)), (32, (.getfield 26, 3)), (35, (.bipush 6, 2))] = true := zDs 0 (by decide +kernel)
theorem d_M_keeper_0 : decode (zb m_M_keeper) 0 = .ok (.iload_n 1, 1) := zdal_p dlD_M_keeper_41 (i := 0) rfl
theorem d_M_keeper_1 : decode (zb m_M_keeper) 1 = .ok (.i2l, 1) := zdal_p dlD_M_keeper_41 (i := 1) rfl
theorem d_M_keeper_2 : decode (zb m_M_keeper) 2 = .ok (.lconst 0, 1) := zdal_p dlD_M_keeper_41 (i := 2) rfl
theorem d_M_keeper_3 : decode (zb m_M_keeper) 3 = .ok (.aload_n 0, 1) := zdal_p dlD_M_keeper_41 (i := 3) rfl
theorem d_M_keeper_4 : decode (zb m_M_keeper) 4 = .ok (.getfield 382, 3) := zdal_p dlD_M_keeper_41 (i := 4) rfl
theorem d_M_keeper_7 : decode (zb m_M_keeper) 7 = .ok (.iconst 1, 1) := zdal_p dlD_M_keeper_41 (i := 5) rfl
theorem d_M_keeper_8 : decode (zb m_M_keeper) 8 = .ok (.isub, 1) := zdal_p dlD_M_keeper_41 (i := 6) rfl
theorem d_M_keeper_9 : decode (zb m_M_keeper) 9 = .ok (.i2l, 1) := zdal_p dlD_M_keeper_41 (i := 7) rfl
theorem d_M_keeper_10 : decode (zb m_M_keeper) 10 = .ok (.invokestatic 131, 3) := zdal_p dlD_M_keeper_41 (i := 8) rfl
theorem d_M_keeper_13 : decode (zb m_M_keeper) 13 = .ok (.ifCond .ne 5, 3) := zdal_p dlD_M_keeper_41 (i := 9) rfl
theorem d_M_keeper_16 : decode (zb m_M_keeper) 16 = .ok (.iconst (-1), 1) := zdal_p dlD_M_keeper_41 (i := 10) rfl
theorem d_M_keeper_17 : decode (zb m_M_keeper) 17 = .ok (.ireturn, 1) := zdal_p dlD_M_keeper_41 (i := 11) rfl
theorem d_M_keeper_18 : decode (zb m_M_keeper) 18 = .ok (.iconst 0, 1) := zdal_p dlD_M_keeper_41 (i := 12) rfl
theorem d_M_keeper_19 : decode (zb m_M_keeper) 19 = .ok (.istore_n 2, 1) := zdal_p dlD_M_keeper_41 (i := 13) rfl
theorem d_M_keeper_20 : decode (zb m_M_keeper) 20 = .ok (.iconst 0, 1) := zdal_p dlD_M_keeper_41 (i := 14) rfl
theorem d_M_keeper_21 : decode (zb m_M_keeper) 21 = .ok (.istore_n 3, 1) := zdal_p dlD_M_keeper_41 (i := 15) rfl
theorem d_M_keeper_22 : decode (zb m_M_keeper) 22 = .ok (.iload_n 3, 1) := zdal_p dlD_M_keeper_41 (i := 16) rfl
theorem d_M_keeper_23 : decode (zb m_M_keeper) 23 = .ok (.aload_n 0, 1) := zdal_p dlD_M_keeper_41 (i := 17) rfl
theorem d_M_keeper_24 : decode (zb m_M_keeper) 24 = .ok (.getfield 196, 3) := zdal_p dlD_M_keeper_41 (i := 18) rfl
theorem d_M_keeper_27 : decode (zb m_M_keeper) 27 = .ok (.if_icmp .ge 37, 3) := zdal_p dlD_M_keeper_41 (i := 19) rfl
theorem d_M_keeper_30 : decode (zb m_M_keeper) 30 = .ok (.iload_n 2, 1) := zdal_p dlD_M_keeper_41 (i := 20) rfl
theorem d_M_keeper_31 : decode (zb m_M_keeper) 31 = .ok (.aload_n 0, 1) := zdal_p dlD_M_keeper_41 (i := 21) rfl
theorem d_M_keeper_32 : decode (zb m_M_keeper) 32 = .ok (.getfield 26, 3) := zdal_p dlD_M_keeper_41 (i := 22) rfl
theorem d_M_keeper_35 : decode (zb m_M_keeper) 35 = .ok (.bipush 6, 2) := zdal_p dlD_M_keeper_41 (i := 23) rfl
theorem dlD_M_keeper_42 : zdal (zb m_M_keeper) [(37, (.iload_n 3, 1)), (38, (.imul, 1)), (39, (.iload_n 1, 1)), (40, (.iadd, 1)), (41, (.iaload, 1)), (42, (.iload_n 1, 1)), (43, (.if_icmp .ne 7, 3)), (46, (.iconst 1, 1)), (47, (.goto 4, 3)), (50, (.iconst 0, 1)), (51, (.invokestatic 256, 3)), (54, (.iload_n 3, 1)), (55, (.ishl, 1)), (56, (.ior, 1)), (57, (.istore_n 2, 1)), (58, (.iinc 3 1, 3)), (61, (.goto (-39), 3)), (64, (.iload_n 2, 1)), (65, (.ireturn, 1))] = true := zDs 37 (by decide +kernel)
theorem d_M_keeper_37 : decode (zb m_M_keeper) 37 = .ok (.iload_n 3, 1) := zdal_p dlD_M_keeper_42 (i := 0) rfl
theorem d_M_keeper_38 : decode (zb m_M_keeper) 38 = .ok (.imul, 1) := zdal_p dlD_M_keeper_42 (i := 1) rfl
theorem d_M_keeper_39 : decode (zb m_M_keeper) 39 = .ok (.iload_n 1, 1) := zdal_p dlD_M_keeper_42 (i := 2) rfl
theorem d_M_keeper_40 : decode (zb m_M_keeper) 40 = .ok (.iadd, 1) := zdal_p dlD_M_keeper_42 (i := 3) rfl
theorem d_M_keeper_41 : decode (zb m_M_keeper) 41 = .ok (.iaload, 1) := zdal_p dlD_M_keeper_42 (i := 4) rfl
theorem d_M_keeper_42 : decode (zb m_M_keeper) 42 = .ok (.iload_n 1, 1) := zdal_p dlD_M_keeper_42 (i := 5) rfl
theorem d_M_keeper_43 : decode (zb m_M_keeper) 43 = .ok (.if_icmp .ne 7, 3) := zdal_p dlD_M_keeper_42 (i := 6) rfl
theorem d_M_keeper_46 : decode (zb m_M_keeper) 46 = .ok (.iconst 1, 1) := zdal_p dlD_M_keeper_42 (i := 7) rfl
theorem d_M_keeper_47 : decode (zb m_M_keeper) 47 = .ok (.goto 4, 3) := zdal_p dlD_M_keeper_42 (i := 8) rfl
theorem d_M_keeper_50 : decode (zb m_M_keeper) 50 = .ok (.iconst 0, 1) := zdal_p dlD_M_keeper_42 (i := 9) rfl
theorem d_M_keeper_51 : decode (zb m_M_keeper) 51 = .ok (.invokestatic 256, 3) := zdal_p dlD_M_keeper_42 (i := 10) rfl
theorem d_M_keeper_54 : decode (zb m_M_keeper) 54 = .ok (.iload_n 3, 1) := zdal_p dlD_M_keeper_42 (i := 11) rfl
theorem d_M_keeper_55 : decode (zb m_M_keeper) 55 = .ok (.ishl, 1) := zdal_p dlD_M_keeper_42 (i := 12) rfl
theorem d_M_keeper_56 : decode (zb m_M_keeper) 56 = .ok (.ior, 1) := zdal_p dlD_M_keeper_42 (i := 13) rfl
theorem d_M_keeper_57 : decode (zb m_M_keeper) 57 = .ok (.istore_n 2, 1) := zdal_p dlD_M_keeper_42 (i := 14) rfl
theorem d_M_keeper_58 : decode (zb m_M_keeper) 58 = .ok (.iinc 3 1, 3) := zdal_p dlD_M_keeper_42 (i := 15) rfl
theorem d_M_keeper_61 : decode (zb m_M_keeper) 61 = .ok (.goto (-39), 3) := zdal_p dlD_M_keeper_42 (i := 16) rfl
theorem d_M_keeper_64 : decode (zb m_M_keeper) 64 = .ok (.iload_n 2, 1) := zdal_p dlD_M_keeper_42 (i := 17) rfl
theorem d_M_keeper_65 : decode (zb m_M_keeper) 65 = .ok (.ireturn, 1) := zdal_p dlD_M_keeper_42 (i := 18) rfl
theorem dlD_M_orbit_43 : zdal (zb m_M_orbit) [(0, (.iload_n 1, 1)), (1, (.i2l, 1)), (2, (.lconst 0, 1)), (3, (.aload_n 0, 1)), (4, (.getfield 382, 3)), (7, (.iconst 1, 1)), (8, (.isub, 1)), (9, (.i2l, 1)), (10, (.invokestatic 131, 3)), (13, (.ifCond .ne 5, 3)), (16, (.iconst (-1), 1)), (17, (.ireturn, 1)), (18, (.iconst 0, 1)), (19, (.istore_n 2, 1)), (20, (.iconst 0, 1)), (21, (.istore_n 3, 1)), (22, (.iload_n 3, 1)), (23, (.aload_n 0, 1)), (24, (.getfield 196, 3)), (27, (.if_icmp .ge 25, 3)), (30, (.iload_n 2, 1)), (31, (.iconst 1, 1)), (32, (.aload_n 0, 1)), (33, (.getfield 26, 3))] = true := zDs 0 (by decide +kernel)
theorem d_M_orbit_0 : decode (zb m_M_orbit) 0 = .ok (.iload_n 1, 1) := zdal_p dlD_M_orbit_43 (i := 0) rfl
theorem d_M_orbit_1 : decode (zb m_M_orbit) 1 = .ok (.i2l, 1) := zdal_p dlD_M_orbit_43 (i := 1) rfl
theorem d_M_orbit_2 : decode (zb m_M_orbit) 2 = .ok (.lconst 0, 1) := zdal_p dlD_M_orbit_43 (i := 2) rfl
theorem d_M_orbit_3 : decode (zb m_M_orbit) 3 = .ok (.aload_n 0, 1) := zdal_p dlD_M_orbit_43 (i := 3) rfl
theorem d_M_orbit_4 : decode (zb m_M_orbit) 4 = .ok (.getfield 382, 3) := zdal_p dlD_M_orbit_43 (i := 4) rfl
theorem d_M_orbit_7 : decode (zb m_M_orbit) 7 = .ok (.iconst 1, 1) := zdal_p dlD_M_orbit_43 (i := 5) rfl
theorem d_M_orbit_8 : decode (zb m_M_orbit) 8 = .ok (.isub, 1) := zdal_p dlD_M_orbit_43 (i := 6) rfl
theorem d_M_orbit_9 : decode (zb m_M_orbit) 9 = .ok (.i2l, 1) := zdal_p dlD_M_orbit_43 (i := 7) rfl
theorem d_M_orbit_10 : decode (zb m_M_orbit) 10 = .ok (.invokestatic 131, 3) := zdal_p dlD_M_orbit_43 (i := 8) rfl
theorem d_M_orbit_13 : decode (zb m_M_orbit) 13 = .ok (.ifCond .ne 5, 3) := zdal_p dlD_M_orbit_43 (i := 9) rfl
theorem d_M_orbit_16 : decode (zb m_M_orbit) 16 = .ok (.iconst (-1), 1) := zdal_p dlD_M_orbit_43 (i := 10) rfl
theorem d_M_orbit_17 : decode (zb m_M_orbit) 17 = .ok (.ireturn, 1) := zdal_p dlD_M_orbit_43 (i := 11) rfl
theorem d_M_orbit_18 : decode (zb m_M_orbit) 18 = .ok (.iconst 0, 1) := zdal_p dlD_M_orbit_43 (i := 12) rfl
theorem d_M_orbit_19 : decode (zb m_M_orbit) 19 = .ok (.istore_n 2, 1) := zdal_p dlD_M_orbit_43 (i := 13) rfl
theorem d_M_orbit_20 : decode (zb m_M_orbit) 20 = .ok (.iconst 0, 1) := zdal_p dlD_M_orbit_43 (i := 14) rfl
theorem d_M_orbit_21 : decode (zb m_M_orbit) 21 = .ok (.istore_n 3, 1) := zdal_p dlD_M_orbit_43 (i := 15) rfl
theorem d_M_orbit_22 : decode (zb m_M_orbit) 22 = .ok (.iload_n 3, 1) := zdal_p dlD_M_orbit_43 (i := 16) rfl
theorem d_M_orbit_23 : decode (zb m_M_orbit) 23 = .ok (.aload_n 0, 1) := zdal_p dlD_M_orbit_43 (i := 17) rfl
theorem d_M_orbit_24 : decode (zb m_M_orbit) 24 = .ok (.getfield 196, 3) := zdal_p dlD_M_orbit_43 (i := 18) rfl
theorem d_M_orbit_27 : decode (zb m_M_orbit) 27 = .ok (.if_icmp .ge 25, 3) := zdal_p dlD_M_orbit_43 (i := 19) rfl
theorem d_M_orbit_30 : decode (zb m_M_orbit) 30 = .ok (.iload_n 2, 1) := zdal_p dlD_M_orbit_43 (i := 20) rfl
theorem d_M_orbit_31 : decode (zb m_M_orbit) 31 = .ok (.iconst 1, 1) := zdal_p dlD_M_orbit_43 (i := 21) rfl
theorem d_M_orbit_32 : decode (zb m_M_orbit) 32 = .ok (.aload_n 0, 1) := zdal_p dlD_M_orbit_43 (i := 22) rfl
theorem d_M_orbit_33 : decode (zb m_M_orbit) 33 = .ok (.getfield 26, 3) := zdal_p dlD_M_orbit_43 (i := 23) rfl
theorem dlD_M_orbit_44 : zdal (zb m_M_orbit) [(36, (.bipush 6, 2)), (38, (.iload_n 3, 1)), (39, (.imul, 1)), (40, (.iload_n 1, 1)), (41, (.iadd, 1)), (42, (.iaload, 1)), (43, (.ishl, 1)), (44, (.ior, 1)), (45, (.istore_n 2, 1)), (46, (.iinc 3 1, 3)), (49, (.goto (-27), 3)), (52, (.iload_n 2, 1)), (53, (.ireturn, 1))] = true := zDs 36 (by decide +kernel)
theorem d_M_orbit_36 : decode (zb m_M_orbit) 36 = .ok (.bipush 6, 2) := zdal_p dlD_M_orbit_44 (i := 0) rfl
theorem d_M_orbit_38 : decode (zb m_M_orbit) 38 = .ok (.iload_n 3, 1) := zdal_p dlD_M_orbit_44 (i := 1) rfl
theorem d_M_orbit_39 : decode (zb m_M_orbit) 39 = .ok (.imul, 1) := zdal_p dlD_M_orbit_44 (i := 2) rfl
theorem d_M_orbit_40 : decode (zb m_M_orbit) 40 = .ok (.iload_n 1, 1) := zdal_p dlD_M_orbit_44 (i := 3) rfl
theorem d_M_orbit_41 : decode (zb m_M_orbit) 41 = .ok (.iadd, 1) := zdal_p dlD_M_orbit_44 (i := 4) rfl
theorem d_M_orbit_42 : decode (zb m_M_orbit) 42 = .ok (.iaload, 1) := zdal_p dlD_M_orbit_44 (i := 5) rfl
theorem d_M_orbit_43 : decode (zb m_M_orbit) 43 = .ok (.ishl, 1) := zdal_p dlD_M_orbit_44 (i := 6) rfl
theorem d_M_orbit_44 : decode (zb m_M_orbit) 44 = .ok (.ior, 1) := zdal_p dlD_M_orbit_44 (i := 7) rfl
theorem d_M_orbit_45 : decode (zb m_M_orbit) 45 = .ok (.istore_n 2, 1) := zdal_p dlD_M_orbit_44 (i := 8) rfl
theorem d_M_orbit_46 : decode (zb m_M_orbit) 46 = .ok (.iinc 3 1, 3) := zdal_p dlD_M_orbit_44 (i := 9) rfl
theorem d_M_orbit_49 : decode (zb m_M_orbit) 49 = .ok (.goto (-27), 3) := zdal_p dlD_M_orbit_44 (i := 10) rfl
theorem d_M_orbit_52 : decode (zb m_M_orbit) 52 = .ok (.iload_n 2, 1) := zdal_p dlD_M_orbit_44 (i := 11) rfl
theorem d_M_orbit_53 : decode (zb m_M_orbit) 53 = .ok (.ireturn, 1) := zdal_p dlD_M_orbit_44 (i := 12) rfl
theorem dlD_M_coset_45 : zdal (zb m_M_coset) [(0, (.aload_n 0, 1)), (1, (.iload_n 1, 1)), (2, (.invokevirtual 414, 3)), (5, (.ifCond .eq 25, 3)), (8, (.aload_n 0, 1)), (9, (.iload_n 2, 1)), (10, (.invokevirtual 400, 3)), (13, (.ifCond .eq 17, 3)), (16, (.aload_n 0, 1)), (17, (.getfield 53, 3)), (20, (.bipush 24, 2)), (22, (.iload_n 1, 1)), (23, (.imul, 1)), (24, (.iload_n 2, 1)), (25, (.iadd, 1)), (26, (.iaload, 1)), (27, (.goto 4, 3)), (30, (.iconst (-1), 1)), (31, (.ireturn, 1))] = true := zDs 0 (by decide +kernel)
theorem d_M_coset_0 : decode (zb m_M_coset) 0 = .ok (.aload_n 0, 1) := zdal_p dlD_M_coset_45 (i := 0) rfl
theorem d_M_coset_1 : decode (zb m_M_coset) 1 = .ok (.iload_n 1, 1) := zdal_p dlD_M_coset_45 (i := 1) rfl
theorem d_M_coset_2 : decode (zb m_M_coset) 2 = .ok (.invokevirtual 414, 3) := zdal_p dlD_M_coset_45 (i := 2) rfl
theorem d_M_coset_5 : decode (zb m_M_coset) 5 = .ok (.ifCond .eq 25, 3) := zdal_p dlD_M_coset_45 (i := 3) rfl
theorem d_M_coset_8 : decode (zb m_M_coset) 8 = .ok (.aload_n 0, 1) := zdal_p dlD_M_coset_45 (i := 4) rfl
theorem d_M_coset_9 : decode (zb m_M_coset) 9 = .ok (.iload_n 2, 1) := zdal_p dlD_M_coset_45 (i := 5) rfl
theorem d_M_coset_10 : decode (zb m_M_coset) 10 = .ok (.invokevirtual 400, 3) := zdal_p dlD_M_coset_45 (i := 6) rfl
theorem d_M_coset_13 : decode (zb m_M_coset) 13 = .ok (.ifCond .eq 17, 3) := zdal_p dlD_M_coset_45 (i := 7) rfl
theorem d_M_coset_16 : decode (zb m_M_coset) 16 = .ok (.aload_n 0, 1) := zdal_p dlD_M_coset_45 (i := 8) rfl
theorem d_M_coset_17 : decode (zb m_M_coset) 17 = .ok (.getfield 53, 3) := zdal_p dlD_M_coset_45 (i := 9) rfl
theorem d_M_coset_20 : decode (zb m_M_coset) 20 = .ok (.bipush 24, 2) := zdal_p dlD_M_coset_45 (i := 10) rfl
theorem d_M_coset_22 : decode (zb m_M_coset) 22 = .ok (.iload_n 1, 1) := zdal_p dlD_M_coset_45 (i := 11) rfl
theorem d_M_coset_23 : decode (zb m_M_coset) 23 = .ok (.imul, 1) := zdal_p dlD_M_coset_45 (i := 12) rfl
theorem d_M_coset_24 : decode (zb m_M_coset) 24 = .ok (.iload_n 2, 1) := zdal_p dlD_M_coset_45 (i := 13) rfl
theorem d_M_coset_25 : decode (zb m_M_coset) 25 = .ok (.iadd, 1) := zdal_p dlD_M_coset_45 (i := 14) rfl
theorem d_M_coset_26 : decode (zb m_M_coset) 26 = .ok (.iaload, 1) := zdal_p dlD_M_coset_45 (i := 15) rfl
theorem d_M_coset_27 : decode (zb m_M_coset) 27 = .ok (.goto 4, 3) := zdal_p dlD_M_coset_45 (i := 16) rfl
theorem d_M_coset_30 : decode (zb m_M_coset) 30 = .ok (.iconst (-1), 1) := zdal_p dlD_M_coset_45 (i := 17) rfl
theorem d_M_coset_31 : decode (zb m_M_coset) 31 = .ok (.ireturn, 1) := zdal_p dlD_M_coset_45 (i := 18) rfl
theorem dlD_M_takes_46 : zdal (zb m_M_takes) [(0, (.aload_n 0, 1)), (1, (.iload_n 1, 1)), (2, (.invokevirtual 414, 3)), (5, (.ifCond .eq 38, 3)), (8, (.aload_n 0, 1)), (9, (.iload_n 2, 1)), (10, (.invokevirtual 400, 3)), (13, (.ifCond .eq 30, 3)), (16, (.aload_n 0, 1)), (17, (.iload_n 3, 1)), (18, (.invokevirtual 400, 3)), (21, (.ifCond .eq 22, 3)), (24, (.aload_n 0, 1)), (25, (.getfield 53, 3)), (28, (.bipush 24, 2)), (30, (.iload_n 1, 1)), (31, (.imul, 1)), (32, (.aload_n 0, 1)), (33, (.iload_n 2, 1)), (34, (.iload_n 3, 1)), (35, (.invokevirtual 216, 3)), (38, (.iadd, 1)), (39, (.iaload, 1)), (40, (.goto 4, 3))] = true := zDs 0 (by decide +kernel)
theorem d_M_takes_0 : decode (zb m_M_takes) 0 = .ok (.aload_n 0, 1) := zdal_p dlD_M_takes_46 (i := 0) rfl
theorem d_M_takes_1 : decode (zb m_M_takes) 1 = .ok (.iload_n 1, 1) := zdal_p dlD_M_takes_46 (i := 1) rfl
theorem d_M_takes_2 : decode (zb m_M_takes) 2 = .ok (.invokevirtual 414, 3) := zdal_p dlD_M_takes_46 (i := 2) rfl
theorem d_M_takes_5 : decode (zb m_M_takes) 5 = .ok (.ifCond .eq 38, 3) := zdal_p dlD_M_takes_46 (i := 3) rfl
theorem d_M_takes_8 : decode (zb m_M_takes) 8 = .ok (.aload_n 0, 1) := zdal_p dlD_M_takes_46 (i := 4) rfl
theorem d_M_takes_9 : decode (zb m_M_takes) 9 = .ok (.iload_n 2, 1) := zdal_p dlD_M_takes_46 (i := 5) rfl
theorem d_M_takes_10 : decode (zb m_M_takes) 10 = .ok (.invokevirtual 400, 3) := zdal_p dlD_M_takes_46 (i := 6) rfl
theorem d_M_takes_13 : decode (zb m_M_takes) 13 = .ok (.ifCond .eq 30, 3) := zdal_p dlD_M_takes_46 (i := 7) rfl
theorem d_M_takes_16 : decode (zb m_M_takes) 16 = .ok (.aload_n 0, 1) := zdal_p dlD_M_takes_46 (i := 8) rfl
theorem d_M_takes_17 : decode (zb m_M_takes) 17 = .ok (.iload_n 3, 1) := zdal_p dlD_M_takes_46 (i := 9) rfl
theorem d_M_takes_18 : decode (zb m_M_takes) 18 = .ok (.invokevirtual 400, 3) := zdal_p dlD_M_takes_46 (i := 10) rfl
theorem d_M_takes_21 : decode (zb m_M_takes) 21 = .ok (.ifCond .eq 22, 3) := zdal_p dlD_M_takes_46 (i := 11) rfl
theorem d_M_takes_24 : decode (zb m_M_takes) 24 = .ok (.aload_n 0, 1) := zdal_p dlD_M_takes_46 (i := 12) rfl
theorem d_M_takes_25 : decode (zb m_M_takes) 25 = .ok (.getfield 53, 3) := zdal_p dlD_M_takes_46 (i := 13) rfl
theorem d_M_takes_28 : decode (zb m_M_takes) 28 = .ok (.bipush 24, 2) := zdal_p dlD_M_takes_46 (i := 14) rfl
theorem d_M_takes_30 : decode (zb m_M_takes) 30 = .ok (.iload_n 1, 1) := zdal_p dlD_M_takes_46 (i := 15) rfl
theorem d_M_takes_31 : decode (zb m_M_takes) 31 = .ok (.imul, 1) := zdal_p dlD_M_takes_46 (i := 16) rfl
theorem d_M_takes_32 : decode (zb m_M_takes) 32 = .ok (.aload_n 0, 1) := zdal_p dlD_M_takes_46 (i := 17) rfl
theorem d_M_takes_33 : decode (zb m_M_takes) 33 = .ok (.iload_n 2, 1) := zdal_p dlD_M_takes_46 (i := 18) rfl
theorem d_M_takes_34 : decode (zb m_M_takes) 34 = .ok (.iload_n 3, 1) := zdal_p dlD_M_takes_46 (i := 19) rfl
theorem d_M_takes_35 : decode (zb m_M_takes) 35 = .ok (.invokevirtual 216, 3) := zdal_p dlD_M_takes_46 (i := 20) rfl
theorem d_M_takes_38 : decode (zb m_M_takes) 38 = .ok (.iadd, 1) := zdal_p dlD_M_takes_46 (i := 21) rfl
theorem d_M_takes_39 : decode (zb m_M_takes) 39 = .ok (.iaload, 1) := zdal_p dlD_M_takes_46 (i := 22) rfl
theorem d_M_takes_40 : decode (zb m_M_takes) 40 = .ok (.goto 4, 3) := zdal_p dlD_M_takes_46 (i := 23) rfl
theorem dlD_M_takes_47 : zdal (zb m_M_takes) [(43, (.iconst (-1), 1)), (44, (.ireturn, 1))] = true := zDs 43 (by decide +kernel)
theorem d_M_takes_43 : decode (zb m_M_takes) 43 = .ok (.iconst (-1), 1) := zdal_p dlD_M_takes_47 (i := 0) rfl
theorem d_M_takes_44 : decode (zb m_M_takes) 44 = .ok (.ireturn, 1) := zdal_p dlD_M_takes_47 (i := 1) rfl
theorem dlD_M_moebius_48 : zdal (zb m_M_moebius) [(0, (.aload_n 0, 1)), (1, (.iload_n 1, 1)), (2, (.invokevirtual 414, 3)), (5, (.ifCond .ne 7, 3)), (8, (.ldc_w 435, 3)), (11, (.ireturn, 1)), (12, (.aload_n 0, 1)), (13, (.getfield 196, 3)), (16, (.istore_n 2, 1)), (17, (.iload_n 2, 1)), (18, (.ifCond .le 130, 3)), (21, (.iconst 0, 1)), (22, (.istore_n 3, 1)), (23, (.iload_n 3, 1)), (24, (.aload_n 0, 1)), (25, (.getfield 220, 3)), (28, (.if_icmp .ge 114, 3)), (31, (.aload_n 0, 1)), (32, (.getfield 38, 3)), (35, (.iload_n 3, 1)), (36, (.iaload, 1)), (37, (.invokestatic 253, 3)), (40, (.iload_n 2, 1)), (41, (.if_icmp .eq 6, 3))] = true := zDs 0 (by decide +kernel)
theorem d_M_moebius_0 : decode (zb m_M_moebius) 0 = .ok (.aload_n 0, 1) := zdal_p dlD_M_moebius_48 (i := 0) rfl
theorem d_M_moebius_1 : decode (zb m_M_moebius) 1 = .ok (.iload_n 1, 1) := zdal_p dlD_M_moebius_48 (i := 1) rfl
theorem d_M_moebius_2 : decode (zb m_M_moebius) 2 = .ok (.invokevirtual 414, 3) := zdal_p dlD_M_moebius_48 (i := 2) rfl
theorem d_M_moebius_5 : decode (zb m_M_moebius) 5 = .ok (.ifCond .ne 7, 3) := zdal_p dlD_M_moebius_48 (i := 3) rfl
theorem d_M_moebius_8 : decode (zb m_M_moebius) 8 = .ok (.ldc_w 435, 3) := zdal_p dlD_M_moebius_48 (i := 4) rfl
theorem d_M_moebius_11 : decode (zb m_M_moebius) 11 = .ok (.ireturn, 1) := zdal_p dlD_M_moebius_48 (i := 5) rfl
theorem d_M_moebius_12 : decode (zb m_M_moebius) 12 = .ok (.aload_n 0, 1) := zdal_p dlD_M_moebius_48 (i := 6) rfl
theorem d_M_moebius_13 : decode (zb m_M_moebius) 13 = .ok (.getfield 196, 3) := zdal_p dlD_M_moebius_48 (i := 7) rfl
theorem d_M_moebius_16 : decode (zb m_M_moebius) 16 = .ok (.istore_n 2, 1) := zdal_p dlD_M_moebius_48 (i := 8) rfl
theorem d_M_moebius_17 : decode (zb m_M_moebius) 17 = .ok (.iload_n 2, 1) := zdal_p dlD_M_moebius_48 (i := 9) rfl
theorem d_M_moebius_18 : decode (zb m_M_moebius) 18 = .ok (.ifCond .le 130, 3) := zdal_p dlD_M_moebius_48 (i := 10) rfl
theorem d_M_moebius_21 : decode (zb m_M_moebius) 21 = .ok (.iconst 0, 1) := zdal_p dlD_M_moebius_48 (i := 11) rfl
theorem d_M_moebius_22 : decode (zb m_M_moebius) 22 = .ok (.istore_n 3, 1) := zdal_p dlD_M_moebius_48 (i := 12) rfl
theorem d_M_moebius_23 : decode (zb m_M_moebius) 23 = .ok (.iload_n 3, 1) := zdal_p dlD_M_moebius_48 (i := 13) rfl
theorem d_M_moebius_24 : decode (zb m_M_moebius) 24 = .ok (.aload_n 0, 1) := zdal_p dlD_M_moebius_48 (i := 14) rfl
theorem d_M_moebius_25 : decode (zb m_M_moebius) 25 = .ok (.getfield 220, 3) := zdal_p dlD_M_moebius_48 (i := 15) rfl
theorem d_M_moebius_28 : decode (zb m_M_moebius) 28 = .ok (.if_icmp .ge 114, 3) := zdal_p dlD_M_moebius_48 (i := 16) rfl
theorem d_M_moebius_31 : decode (zb m_M_moebius) 31 = .ok (.aload_n 0, 1) := zdal_p dlD_M_moebius_48 (i := 17) rfl
theorem d_M_moebius_32 : decode (zb m_M_moebius) 32 = .ok (.getfield 38, 3) := zdal_p dlD_M_moebius_48 (i := 18) rfl
theorem d_M_moebius_35 : decode (zb m_M_moebius) 35 = .ok (.iload_n 3, 1) := zdal_p dlD_M_moebius_48 (i := 19) rfl
theorem d_M_moebius_36 : decode (zb m_M_moebius) 36 = .ok (.iaload, 1) := zdal_p dlD_M_moebius_48 (i := 20) rfl
theorem d_M_moebius_37 : decode (zb m_M_moebius) 37 = .ok (.invokestatic 253, 3) := zdal_p dlD_M_moebius_48 (i := 21) rfl
theorem d_M_moebius_40 : decode (zb m_M_moebius) 40 = .ok (.iload_n 2, 1) := zdal_p dlD_M_moebius_48 (i := 22) rfl
theorem d_M_moebius_41 : decode (zb m_M_moebius) 41 = .ok (.if_icmp .eq 6, 3) := zdal_p dlD_M_moebius_48 (i := 23) rfl
theorem dlD_M_moebius_49 : zdal (zb m_M_moebius) [(44, (.goto 92, 3)), (47, (.aload_n 0, 1)), (48, (.getfield 90, 3)), (51, (.iload_n 3, 1)), (52, (.iload_n 2, 1)), (53, (.aload_n 0, 1)), (54, (.getfield 196, 3)), (57, (.if_icmp .ne 7, 3)), (60, (.iconst 1, 1)), (61, (.goto 4, 3)), (64, (.iconst 0, 1)), (65, (.invokestatic 256, 3)), (68, (.iastore, 1)), (69, (.iconst 0, 1)), (70, (.istore 4, 2)), (72, (.iload 4, 2)), (74, (.aload_n 0, 1)), (75, (.getfield 220, 3)), (78, (.if_icmp .ge 58, 3)), (81, (.aload_n 0, 1)), (82, (.getfield 38, 3)), (85, (.iload 4, 2)), (87, (.iaload, 1)), (88, (.invokestatic 253, 3))] = true := zDs 44 (by decide +kernel)
theorem d_M_moebius_44 : decode (zb m_M_moebius) 44 = .ok (.goto 92, 3) := zdal_p dlD_M_moebius_49 (i := 0) rfl
theorem d_M_moebius_47 : decode (zb m_M_moebius) 47 = .ok (.aload_n 0, 1) := zdal_p dlD_M_moebius_49 (i := 1) rfl
theorem d_M_moebius_48 : decode (zb m_M_moebius) 48 = .ok (.getfield 90, 3) := zdal_p dlD_M_moebius_49 (i := 2) rfl
theorem d_M_moebius_51 : decode (zb m_M_moebius) 51 = .ok (.iload_n 3, 1) := zdal_p dlD_M_moebius_49 (i := 3) rfl
theorem d_M_moebius_52 : decode (zb m_M_moebius) 52 = .ok (.iload_n 2, 1) := zdal_p dlD_M_moebius_49 (i := 4) rfl
theorem d_M_moebius_53 : decode (zb m_M_moebius) 53 = .ok (.aload_n 0, 1) := zdal_p dlD_M_moebius_49 (i := 5) rfl
theorem d_M_moebius_54 : decode (zb m_M_moebius) 54 = .ok (.getfield 196, 3) := zdal_p dlD_M_moebius_49 (i := 6) rfl
theorem d_M_moebius_57 : decode (zb m_M_moebius) 57 = .ok (.if_icmp .ne 7, 3) := zdal_p dlD_M_moebius_49 (i := 7) rfl
theorem d_M_moebius_60 : decode (zb m_M_moebius) 60 = .ok (.iconst 1, 1) := zdal_p dlD_M_moebius_49 (i := 8) rfl
theorem d_M_moebius_61 : decode (zb m_M_moebius) 61 = .ok (.goto 4, 3) := zdal_p dlD_M_moebius_49 (i := 9) rfl
theorem d_M_moebius_64 : decode (zb m_M_moebius) 64 = .ok (.iconst 0, 1) := zdal_p dlD_M_moebius_49 (i := 10) rfl
theorem d_M_moebius_65 : decode (zb m_M_moebius) 65 = .ok (.invokestatic 256, 3) := zdal_p dlD_M_moebius_49 (i := 11) rfl
theorem d_M_moebius_68 : decode (zb m_M_moebius) 68 = .ok (.iastore, 1) := zdal_p dlD_M_moebius_49 (i := 12) rfl
theorem d_M_moebius_69 : decode (zb m_M_moebius) 69 = .ok (.iconst 0, 1) := zdal_p dlD_M_moebius_49 (i := 13) rfl
theorem d_M_moebius_70 : decode (zb m_M_moebius) 70 = .ok (.istore 4, 2) := zdal_p dlD_M_moebius_49 (i := 14) rfl
theorem d_M_moebius_72 : decode (zb m_M_moebius) 72 = .ok (.iload 4, 2) := zdal_p dlD_M_moebius_49 (i := 15) rfl
theorem d_M_moebius_74 : decode (zb m_M_moebius) 74 = .ok (.aload_n 0, 1) := zdal_p dlD_M_moebius_49 (i := 16) rfl
theorem d_M_moebius_75 : decode (zb m_M_moebius) 75 = .ok (.getfield 220, 3) := zdal_p dlD_M_moebius_49 (i := 17) rfl
theorem d_M_moebius_78 : decode (zb m_M_moebius) 78 = .ok (.if_icmp .ge 58, 3) := zdal_p dlD_M_moebius_49 (i := 18) rfl
theorem d_M_moebius_81 : decode (zb m_M_moebius) 81 = .ok (.aload_n 0, 1) := zdal_p dlD_M_moebius_49 (i := 19) rfl
theorem d_M_moebius_82 : decode (zb m_M_moebius) 82 = .ok (.getfield 38, 3) := zdal_p dlD_M_moebius_49 (i := 20) rfl
theorem d_M_moebius_85 : decode (zb m_M_moebius) 85 = .ok (.iload 4, 2) := zdal_p dlD_M_moebius_49 (i := 21) rfl
theorem d_M_moebius_87 : decode (zb m_M_moebius) 87 = .ok (.iaload, 1) := zdal_p dlD_M_moebius_49 (i := 22) rfl
theorem d_M_moebius_88 : decode (zb m_M_moebius) 88 = .ok (.invokestatic 253, 3) := zdal_p dlD_M_moebius_49 (i := 23) rfl
theorem dlD_M_moebius_50 : zdal (zb m_M_moebius) [(91, (.iload_n 2, 1)), (92, (.if_icmp .le 38, 3)), (95, (.aload_n 0, 1)), (96, (.getfield 38, 3)), (99, (.iload_n 3, 1)), (100, (.iaload, 1)), (101, (.aload_n 0, 1)), (102, (.getfield 38, 3)), (105, (.iload 4, 2)), (107, (.iaload, 1)), (108, (.iconst (-1), 1)), (109, (.ixor, 1)), (110, (.iand, 1)), (111, (.ifCond .ne 19, 3)), (114, (.aload_n 0, 1)), (115, (.getfield 90, 3)), (118, (.iload_n 3, 1)), (119, (.dup2, 1)), (120, (.iaload, 1)), (121, (.aload_n 0, 1)), (122, (.getfield 90, 3)), (125, (.iload 4, 2)), (127, (.iaload, 1)), (128, (.isub, 1))] = true := zDs 91 (by decide +kernel)
theorem d_M_moebius_91 : decode (zb m_M_moebius) 91 = .ok (.iload_n 2, 1) := zdal_p dlD_M_moebius_50 (i := 0) rfl
theorem d_M_moebius_92 : decode (zb m_M_moebius) 92 = .ok (.if_icmp .le 38, 3) := zdal_p dlD_M_moebius_50 (i := 1) rfl
theorem d_M_moebius_95 : decode (zb m_M_moebius) 95 = .ok (.aload_n 0, 1) := zdal_p dlD_M_moebius_50 (i := 2) rfl
theorem d_M_moebius_96 : decode (zb m_M_moebius) 96 = .ok (.getfield 38, 3) := zdal_p dlD_M_moebius_50 (i := 3) rfl
theorem d_M_moebius_99 : decode (zb m_M_moebius) 99 = .ok (.iload_n 3, 1) := zdal_p dlD_M_moebius_50 (i := 4) rfl
theorem d_M_moebius_100 : decode (zb m_M_moebius) 100 = .ok (.iaload, 1) := zdal_p dlD_M_moebius_50 (i := 5) rfl
theorem d_M_moebius_101 : decode (zb m_M_moebius) 101 = .ok (.aload_n 0, 1) := zdal_p dlD_M_moebius_50 (i := 6) rfl
theorem d_M_moebius_102 : decode (zb m_M_moebius) 102 = .ok (.getfield 38, 3) := zdal_p dlD_M_moebius_50 (i := 7) rfl
theorem d_M_moebius_105 : decode (zb m_M_moebius) 105 = .ok (.iload 4, 2) := zdal_p dlD_M_moebius_50 (i := 8) rfl
theorem d_M_moebius_107 : decode (zb m_M_moebius) 107 = .ok (.iaload, 1) := zdal_p dlD_M_moebius_50 (i := 9) rfl
theorem d_M_moebius_108 : decode (zb m_M_moebius) 108 = .ok (.iconst (-1), 1) := zdal_p dlD_M_moebius_50 (i := 10) rfl
theorem d_M_moebius_109 : decode (zb m_M_moebius) 109 = .ok (.ixor, 1) := zdal_p dlD_M_moebius_50 (i := 11) rfl
theorem d_M_moebius_110 : decode (zb m_M_moebius) 110 = .ok (.iand, 1) := zdal_p dlD_M_moebius_50 (i := 12) rfl
theorem d_M_moebius_111 : decode (zb m_M_moebius) 111 = .ok (.ifCond .ne 19, 3) := zdal_p dlD_M_moebius_50 (i := 13) rfl
theorem d_M_moebius_114 : decode (zb m_M_moebius) 114 = .ok (.aload_n 0, 1) := zdal_p dlD_M_moebius_50 (i := 14) rfl
theorem d_M_moebius_115 : decode (zb m_M_moebius) 115 = .ok (.getfield 90, 3) := zdal_p dlD_M_moebius_50 (i := 15) rfl
theorem d_M_moebius_118 : decode (zb m_M_moebius) 118 = .ok (.iload_n 3, 1) := zdal_p dlD_M_moebius_50 (i := 16) rfl
theorem d_M_moebius_119 : decode (zb m_M_moebius) 119 = .ok (.dup2, 1) := zdal_p dlD_M_moebius_50 (i := 17) rfl
theorem d_M_moebius_120 : decode (zb m_M_moebius) 120 = .ok (.iaload, 1) := zdal_p dlD_M_moebius_50 (i := 18) rfl
theorem d_M_moebius_121 : decode (zb m_M_moebius) 121 = .ok (.aload_n 0, 1) := zdal_p dlD_M_moebius_50 (i := 19) rfl
theorem d_M_moebius_122 : decode (zb m_M_moebius) 122 = .ok (.getfield 90, 3) := zdal_p dlD_M_moebius_50 (i := 20) rfl
theorem d_M_moebius_125 : decode (zb m_M_moebius) 125 = .ok (.iload 4, 2) := zdal_p dlD_M_moebius_50 (i := 21) rfl
theorem d_M_moebius_127 : decode (zb m_M_moebius) 127 = .ok (.iaload, 1) := zdal_p dlD_M_moebius_50 (i := 22) rfl
theorem d_M_moebius_128 : decode (zb m_M_moebius) 128 = .ok (.isub, 1) := zdal_p dlD_M_moebius_50 (i := 23) rfl
theorem dlD_M_moebius_51 : zdal (zb m_M_moebius) [(129, (.iastore, 1)), (130, (.iinc 4 1, 3)), (133, (.goto (-61), 3)), (136, (.iinc 3 1, 3)), (139, (.goto (-116), 3)), (142, (.iinc 2 (-1), 3)), (145, (.goto (-128), 3)), (148, (.aload_n 0, 1)), (149, (.getfield 90, 3)), (152, (.aload_n 0, 1)), (153, (.aload_n 0, 1)), (154, (.getfield 44, 3)), (157, (.iload_n 1, 1)), (158, (.iaload, 1)), (159, (.invokevirtual 232, 3)), (162, (.iaload, 1)), (163, (.ireturn, 1))] = true := zDs 129 (by decide +kernel)
theorem d_M_moebius_129 : decode (zb m_M_moebius) 129 = .ok (.iastore, 1) := zdal_p dlD_M_moebius_51 (i := 0) rfl
theorem d_M_moebius_130 : decode (zb m_M_moebius) 130 = .ok (.iinc 4 1, 3) := zdal_p dlD_M_moebius_51 (i := 1) rfl
theorem d_M_moebius_133 : decode (zb m_M_moebius) 133 = .ok (.goto (-61), 3) := zdal_p dlD_M_moebius_51 (i := 2) rfl
theorem d_M_moebius_136 : decode (zb m_M_moebius) 136 = .ok (.iinc 3 1, 3) := zdal_p dlD_M_moebius_51 (i := 3) rfl
theorem d_M_moebius_139 : decode (zb m_M_moebius) 139 = .ok (.goto (-116), 3) := zdal_p dlD_M_moebius_51 (i := 4) rfl
theorem d_M_moebius_142 : decode (zb m_M_moebius) 142 = .ok (.iinc 2 (-1), 3) := zdal_p dlD_M_moebius_51 (i := 5) rfl
theorem d_M_moebius_145 : decode (zb m_M_moebius) 145 = .ok (.goto (-128), 3) := zdal_p dlD_M_moebius_51 (i := 6) rfl
theorem d_M_moebius_148 : decode (zb m_M_moebius) 148 = .ok (.aload_n 0, 1) := zdal_p dlD_M_moebius_51 (i := 7) rfl
theorem d_M_moebius_149 : decode (zb m_M_moebius) 149 = .ok (.getfield 90, 3) := zdal_p dlD_M_moebius_51 (i := 8) rfl
theorem d_M_moebius_152 : decode (zb m_M_moebius) 152 = .ok (.aload_n 0, 1) := zdal_p dlD_M_moebius_51 (i := 9) rfl
theorem d_M_moebius_153 : decode (zb m_M_moebius) 153 = .ok (.aload_n 0, 1) := zdal_p dlD_M_moebius_51 (i := 10) rfl
theorem d_M_moebius_154 : decode (zb m_M_moebius) 154 = .ok (.getfield 44, 3) := zdal_p dlD_M_moebius_51 (i := 11) rfl
theorem d_M_moebius_157 : decode (zb m_M_moebius) 157 = .ok (.iload_n 1, 1) := zdal_p dlD_M_moebius_51 (i := 12) rfl
theorem d_M_moebius_158 : decode (zb m_M_moebius) 158 = .ok (.iaload, 1) := zdal_p dlD_M_moebius_51 (i := 13) rfl
theorem d_M_moebius_159 : decode (zb m_M_moebius) 159 = .ok (.invokevirtual 232, 3) := zdal_p dlD_M_moebius_51 (i := 14) rfl
theorem d_M_moebius_162 : decode (zb m_M_moebius) 162 = .ok (.iaload, 1) := zdal_p dlD_M_moebius_51 (i := 15) rfl
theorem d_M_moebius_163 : decode (zb m_M_moebius) 163 = .ok (.ireturn, 1) := zdal_p dlD_M_moebius_51 (i := 16) rfl
theorem dlD_M_mixed_52 : zdal (zb m_M_mixed) [(0, (.aload_n 0, 1)), (1, (.iload_n 1, 1)), (2, (.invokevirtual 414, 3)), (5, (.ifCond .ne 5, 3)), (8, (.iconst (-1), 1)), (9, (.ireturn, 1)), (10, (.iconst 0, 1)), (11, (.istore_n 2, 1)), (12, (.iconst 0, 1)), (13, (.istore_n 3, 1)), (14, (.iload_n 3, 1)), (15, (.aload_n 0, 1)), (16, (.getfield 196, 3)), (19, (.if_icmp .ge 87, 3)), (22, (.iconst 0, 1)), (23, (.istore 4, 2)), (25, (.iload 4, 2)), (27, (.aload_n 0, 1)), (28, (.getfield 196, 3)), (31, (.if_icmp .ge 69, 3)), (34, (.aload_n 0, 1)), (35, (.getfield 44, 3)), (38, (.iload_n 1, 1)), (39, (.iaload, 1))] = true := zDs 0 (by decide +kernel)
theorem d_M_mixed_0 : decode (zb m_M_mixed) 0 = .ok (.aload_n 0, 1) := zdal_p dlD_M_mixed_52 (i := 0) rfl
theorem d_M_mixed_1 : decode (zb m_M_mixed) 1 = .ok (.iload_n 1, 1) := zdal_p dlD_M_mixed_52 (i := 1) rfl
theorem d_M_mixed_2 : decode (zb m_M_mixed) 2 = .ok (.invokevirtual 414, 3) := zdal_p dlD_M_mixed_52 (i := 2) rfl
theorem d_M_mixed_5 : decode (zb m_M_mixed) 5 = .ok (.ifCond .ne 5, 3) := zdal_p dlD_M_mixed_52 (i := 3) rfl
theorem d_M_mixed_8 : decode (zb m_M_mixed) 8 = .ok (.iconst (-1), 1) := zdal_p dlD_M_mixed_52 (i := 4) rfl
theorem d_M_mixed_9 : decode (zb m_M_mixed) 9 = .ok (.ireturn, 1) := zdal_p dlD_M_mixed_52 (i := 5) rfl
theorem d_M_mixed_10 : decode (zb m_M_mixed) 10 = .ok (.iconst 0, 1) := zdal_p dlD_M_mixed_52 (i := 6) rfl
theorem d_M_mixed_11 : decode (zb m_M_mixed) 11 = .ok (.istore_n 2, 1) := zdal_p dlD_M_mixed_52 (i := 7) rfl
theorem d_M_mixed_12 : decode (zb m_M_mixed) 12 = .ok (.iconst 0, 1) := zdal_p dlD_M_mixed_52 (i := 8) rfl
theorem d_M_mixed_13 : decode (zb m_M_mixed) 13 = .ok (.istore_n 3, 1) := zdal_p dlD_M_mixed_52 (i := 9) rfl
theorem d_M_mixed_14 : decode (zb m_M_mixed) 14 = .ok (.iload_n 3, 1) := zdal_p dlD_M_mixed_52 (i := 10) rfl
theorem d_M_mixed_15 : decode (zb m_M_mixed) 15 = .ok (.aload_n 0, 1) := zdal_p dlD_M_mixed_52 (i := 11) rfl
theorem d_M_mixed_16 : decode (zb m_M_mixed) 16 = .ok (.getfield 196, 3) := zdal_p dlD_M_mixed_52 (i := 12) rfl
theorem d_M_mixed_19 : decode (zb m_M_mixed) 19 = .ok (.if_icmp .ge 87, 3) := zdal_p dlD_M_mixed_52 (i := 13) rfl
theorem d_M_mixed_22 : decode (zb m_M_mixed) 22 = .ok (.iconst 0, 1) := zdal_p dlD_M_mixed_52 (i := 14) rfl
theorem d_M_mixed_23 : decode (zb m_M_mixed) 23 = .ok (.istore 4, 2) := zdal_p dlD_M_mixed_52 (i := 15) rfl
theorem d_M_mixed_25 : decode (zb m_M_mixed) 25 = .ok (.iload 4, 2) := zdal_p dlD_M_mixed_52 (i := 16) rfl
theorem d_M_mixed_27 : decode (zb m_M_mixed) 27 = .ok (.aload_n 0, 1) := zdal_p dlD_M_mixed_52 (i := 17) rfl
theorem d_M_mixed_28 : decode (zb m_M_mixed) 28 = .ok (.getfield 196, 3) := zdal_p dlD_M_mixed_52 (i := 18) rfl
theorem d_M_mixed_31 : decode (zb m_M_mixed) 31 = .ok (.if_icmp .ge 69, 3) := zdal_p dlD_M_mixed_52 (i := 19) rfl
theorem d_M_mixed_34 : decode (zb m_M_mixed) 34 = .ok (.aload_n 0, 1) := zdal_p dlD_M_mixed_52 (i := 20) rfl
theorem d_M_mixed_35 : decode (zb m_M_mixed) 35 = .ok (.getfield 44, 3) := zdal_p dlD_M_mixed_52 (i := 21) rfl
theorem d_M_mixed_38 : decode (zb m_M_mixed) 38 = .ok (.iload_n 1, 1) := zdal_p dlD_M_mixed_52 (i := 22) rfl
theorem d_M_mixed_39 : decode (zb m_M_mixed) 39 = .ok (.iaload, 1) := zdal_p dlD_M_mixed_52 (i := 23) rfl
theorem dlD_M_mixed_53 : zdal (zb m_M_mixed) [(40, (.iload_n 3, 1)), (41, (.invokestatic 213, 3)), (44, (.ifCond .eq 50, 3)), (47, (.aload_n 0, 1)), (48, (.getfield 44, 3)), (51, (.iload_n 1, 1)), (52, (.iaload, 1)), (53, (.iload 4, 2)), (55, (.invokestatic 213, 3)), (58, (.ifCond .eq 36, 3)), (61, (.iload_n 2, 1)), (62, (.iconst 1, 1)), (63, (.aload_n 0, 1)), (64, (.aload_n 0, 1)), (65, (.aload_n 0, 1)), (66, (.aload_n 0, 1)), (67, (.getfield 35, 3)), (70, (.iload_n 3, 1)), (71, (.iaload, 1)), (72, (.aload_n 0, 1)), (73, (.getfield 35, 3)), (76, (.iload 4, 2)), (78, (.iaload, 1)), (79, (.invokevirtual 216, 3))] = true := zDs 40 (by decide +kernel)
theorem d_M_mixed_40 : decode (zb m_M_mixed) 40 = .ok (.iload_n 3, 1) := zdal_p dlD_M_mixed_53 (i := 0) rfl
theorem d_M_mixed_41 : decode (zb m_M_mixed) 41 = .ok (.invokestatic 213, 3) := zdal_p dlD_M_mixed_53 (i := 1) rfl
theorem d_M_mixed_44 : decode (zb m_M_mixed) 44 = .ok (.ifCond .eq 50, 3) := zdal_p dlD_M_mixed_53 (i := 2) rfl
theorem d_M_mixed_47 : decode (zb m_M_mixed) 47 = .ok (.aload_n 0, 1) := zdal_p dlD_M_mixed_53 (i := 3) rfl
theorem d_M_mixed_48 : decode (zb m_M_mixed) 48 = .ok (.getfield 44, 3) := zdal_p dlD_M_mixed_53 (i := 4) rfl
theorem d_M_mixed_51 : decode (zb m_M_mixed) 51 = .ok (.iload_n 1, 1) := zdal_p dlD_M_mixed_53 (i := 5) rfl
theorem d_M_mixed_52 : decode (zb m_M_mixed) 52 = .ok (.iaload, 1) := zdal_p dlD_M_mixed_53 (i := 6) rfl
theorem d_M_mixed_53 : decode (zb m_M_mixed) 53 = .ok (.iload 4, 2) := zdal_p dlD_M_mixed_53 (i := 7) rfl
theorem d_M_mixed_55 : decode (zb m_M_mixed) 55 = .ok (.invokestatic 213, 3) := zdal_p dlD_M_mixed_53 (i := 8) rfl
theorem d_M_mixed_58 : decode (zb m_M_mixed) 58 = .ok (.ifCond .eq 36, 3) := zdal_p dlD_M_mixed_53 (i := 9) rfl
theorem d_M_mixed_61 : decode (zb m_M_mixed) 61 = .ok (.iload_n 2, 1) := zdal_p dlD_M_mixed_53 (i := 10) rfl
theorem d_M_mixed_62 : decode (zb m_M_mixed) 62 = .ok (.iconst 1, 1) := zdal_p dlD_M_mixed_53 (i := 11) rfl
theorem d_M_mixed_63 : decode (zb m_M_mixed) 63 = .ok (.aload_n 0, 1) := zdal_p dlD_M_mixed_53 (i := 12) rfl
theorem d_M_mixed_64 : decode (zb m_M_mixed) 64 = .ok (.aload_n 0, 1) := zdal_p dlD_M_mixed_53 (i := 13) rfl
theorem d_M_mixed_65 : decode (zb m_M_mixed) 65 = .ok (.aload_n 0, 1) := zdal_p dlD_M_mixed_53 (i := 14) rfl
theorem d_M_mixed_66 : decode (zb m_M_mixed) 66 = .ok (.aload_n 0, 1) := zdal_p dlD_M_mixed_53 (i := 15) rfl
theorem d_M_mixed_67 : decode (zb m_M_mixed) 67 = .ok (.getfield 35, 3) := zdal_p dlD_M_mixed_53 (i := 16) rfl
theorem d_M_mixed_70 : decode (zb m_M_mixed) 70 = .ok (.iload_n 3, 1) := zdal_p dlD_M_mixed_53 (i := 17) rfl
theorem d_M_mixed_71 : decode (zb m_M_mixed) 71 = .ok (.iaload, 1) := zdal_p dlD_M_mixed_53 (i := 18) rfl
theorem d_M_mixed_72 : decode (zb m_M_mixed) 72 = .ok (.aload_n 0, 1) := zdal_p dlD_M_mixed_53 (i := 19) rfl
theorem d_M_mixed_73 : decode (zb m_M_mixed) 73 = .ok (.getfield 35, 3) := zdal_p dlD_M_mixed_53 (i := 20) rfl
theorem d_M_mixed_76 : decode (zb m_M_mixed) 76 = .ok (.iload 4, 2) := zdal_p dlD_M_mixed_53 (i := 21) rfl
theorem d_M_mixed_78 : decode (zb m_M_mixed) 78 = .ok (.iaload, 1) := zdal_p dlD_M_mixed_53 (i := 22) rfl
theorem d_M_mixed_79 : decode (zb m_M_mixed) 79 = .ok (.invokevirtual 216, 3) := zdal_p dlD_M_mixed_53 (i := 23) rfl
theorem dlD_M_mixed_54 : zdal (zb m_M_mixed) [(82, (.iload_n 3, 1)), (83, (.invokevirtual 216, 3)), (86, (.iload 4, 2)), (88, (.invokevirtual 216, 3)), (91, (.ishl, 1)), (92, (.ior, 1)), (93, (.istore_n 2, 1)), (94, (.iinc 4 1, 3)), (97, (.goto (-72), 3)), (100, (.iinc 3 1, 3)), (103, (.goto (-89), 3)), (106, (.aload_n 0, 1)), (107, (.aload_n 0, 1)), (108, (.iload_n 2, 1)), (109, (.invokevirtual 229, 3)), (112, (.invokevirtual 411, 3)), (115, (.ireturn, 1))] = true := zDs 82 (by decide +kernel)
theorem d_M_mixed_82 : decode (zb m_M_mixed) 82 = .ok (.iload_n 3, 1) := zdal_p dlD_M_mixed_54 (i := 0) rfl
theorem d_M_mixed_83 : decode (zb m_M_mixed) 83 = .ok (.invokevirtual 216, 3) := zdal_p dlD_M_mixed_54 (i := 1) rfl
theorem d_M_mixed_86 : decode (zb m_M_mixed) 86 = .ok (.iload 4, 2) := zdal_p dlD_M_mixed_54 (i := 2) rfl
theorem d_M_mixed_88 : decode (zb m_M_mixed) 88 = .ok (.invokevirtual 216, 3) := zdal_p dlD_M_mixed_54 (i := 3) rfl
theorem d_M_mixed_91 : decode (zb m_M_mixed) 91 = .ok (.ishl, 1) := zdal_p dlD_M_mixed_54 (i := 4) rfl
theorem d_M_mixed_92 : decode (zb m_M_mixed) 92 = .ok (.ior, 1) := zdal_p dlD_M_mixed_54 (i := 5) rfl
theorem d_M_mixed_93 : decode (zb m_M_mixed) 93 = .ok (.istore_n 2, 1) := zdal_p dlD_M_mixed_54 (i := 6) rfl
theorem d_M_mixed_94 : decode (zb m_M_mixed) 94 = .ok (.iinc 4 1, 3) := zdal_p dlD_M_mixed_54 (i := 7) rfl
theorem d_M_mixed_97 : decode (zb m_M_mixed) 97 = .ok (.goto (-72), 3) := zdal_p dlD_M_mixed_54 (i := 8) rfl
theorem d_M_mixed_100 : decode (zb m_M_mixed) 100 = .ok (.iinc 3 1, 3) := zdal_p dlD_M_mixed_54 (i := 9) rfl
theorem d_M_mixed_103 : decode (zb m_M_mixed) 103 = .ok (.goto (-89), 3) := zdal_p dlD_M_mixed_54 (i := 10) rfl
theorem d_M_mixed_106 : decode (zb m_M_mixed) 106 = .ok (.aload_n 0, 1) := zdal_p dlD_M_mixed_54 (i := 11) rfl
theorem d_M_mixed_107 : decode (zb m_M_mixed) 107 = .ok (.aload_n 0, 1) := zdal_p dlD_M_mixed_54 (i := 12) rfl
theorem d_M_mixed_108 : decode (zb m_M_mixed) 108 = .ok (.iload_n 2, 1) := zdal_p dlD_M_mixed_54 (i := 13) rfl
theorem d_M_mixed_109 : decode (zb m_M_mixed) 109 = .ok (.invokevirtual 229, 3) := zdal_p dlD_M_mixed_54 (i := 14) rfl
theorem d_M_mixed_112 : decode (zb m_M_mixed) 112 = .ok (.invokevirtual 411, 3) := zdal_p dlD_M_mixed_54 (i := 15) rfl
theorem d_M_mixed_115 : decode (zb m_M_mixed) 115 = .ok (.ireturn, 1) := zdal_p dlD_M_mixed_54 (i := 16) rfl
theorem dlD_M_centre_55 : zdal (zb m_M_centre) [(0, (.aload_n 0, 1)), (1, (.iload_n 1, 1)), (2, (.invokevirtual 414, 3)), (5, (.ifCond .ne 5, 3)), (8, (.iconst (-1), 1)), (9, (.ireturn, 1)), (10, (.iconst 0, 1)), (11, (.istore_n 2, 1)), (12, (.iconst 0, 1)), (13, (.istore_n 3, 1)), (14, (.iload_n 3, 1)), (15, (.aload_n 0, 1)), (16, (.getfield 196, 3)), (19, (.if_icmp .ge 92, 3)), (22, (.aload_n 0, 1)), (23, (.getfield 44, 3)), (26, (.iload_n 1, 1)), (27, (.iaload, 1)), (28, (.iload_n 3, 1)), (29, (.invokestatic 213, 3)), (32, (.istore 4, 2)), (34, (.iconst 0, 1)), (35, (.istore 5, 2)), (37, (.iload 5, 2))] = true := zDs 0 (by decide +kernel)
theorem d_M_centre_0 : decode (zb m_M_centre) 0 = .ok (.aload_n 0, 1) := zdal_p dlD_M_centre_55 (i := 0) rfl
theorem d_M_centre_1 : decode (zb m_M_centre) 1 = .ok (.iload_n 1, 1) := zdal_p dlD_M_centre_55 (i := 1) rfl
theorem d_M_centre_2 : decode (zb m_M_centre) 2 = .ok (.invokevirtual 414, 3) := zdal_p dlD_M_centre_55 (i := 2) rfl
theorem d_M_centre_5 : decode (zb m_M_centre) 5 = .ok (.ifCond .ne 5, 3) := zdal_p dlD_M_centre_55 (i := 3) rfl
theorem d_M_centre_8 : decode (zb m_M_centre) 8 = .ok (.iconst (-1), 1) := zdal_p dlD_M_centre_55 (i := 4) rfl
theorem d_M_centre_9 : decode (zb m_M_centre) 9 = .ok (.ireturn, 1) := zdal_p dlD_M_centre_55 (i := 5) rfl
theorem d_M_centre_10 : decode (zb m_M_centre) 10 = .ok (.iconst 0, 1) := zdal_p dlD_M_centre_55 (i := 6) rfl
theorem d_M_centre_11 : decode (zb m_M_centre) 11 = .ok (.istore_n 2, 1) := zdal_p dlD_M_centre_55 (i := 7) rfl
theorem d_M_centre_12 : decode (zb m_M_centre) 12 = .ok (.iconst 0, 1) := zdal_p dlD_M_centre_55 (i := 8) rfl
theorem d_M_centre_13 : decode (zb m_M_centre) 13 = .ok (.istore_n 3, 1) := zdal_p dlD_M_centre_55 (i := 9) rfl
theorem d_M_centre_14 : decode (zb m_M_centre) 14 = .ok (.iload_n 3, 1) := zdal_p dlD_M_centre_55 (i := 10) rfl
theorem d_M_centre_15 : decode (zb m_M_centre) 15 = .ok (.aload_n 0, 1) := zdal_p dlD_M_centre_55 (i := 11) rfl
theorem d_M_centre_16 : decode (zb m_M_centre) 16 = .ok (.getfield 196, 3) := zdal_p dlD_M_centre_55 (i := 12) rfl
theorem d_M_centre_19 : decode (zb m_M_centre) 19 = .ok (.if_icmp .ge 92, 3) := zdal_p dlD_M_centre_55 (i := 13) rfl
theorem d_M_centre_22 : decode (zb m_M_centre) 22 = .ok (.aload_n 0, 1) := zdal_p dlD_M_centre_55 (i := 14) rfl
theorem d_M_centre_23 : decode (zb m_M_centre) 23 = .ok (.getfield 44, 3) := zdal_p dlD_M_centre_55 (i := 15) rfl
theorem d_M_centre_26 : decode (zb m_M_centre) 26 = .ok (.iload_n 1, 1) := zdal_p dlD_M_centre_55 (i := 16) rfl
theorem d_M_centre_27 : decode (zb m_M_centre) 27 = .ok (.iaload, 1) := zdal_p dlD_M_centre_55 (i := 17) rfl
theorem d_M_centre_28 : decode (zb m_M_centre) 28 = .ok (.iload_n 3, 1) := zdal_p dlD_M_centre_55 (i := 18) rfl
theorem d_M_centre_29 : decode (zb m_M_centre) 29 = .ok (.invokestatic 213, 3) := zdal_p dlD_M_centre_55 (i := 19) rfl
theorem d_M_centre_32 : decode (zb m_M_centre) 32 = .ok (.istore 4, 2) := zdal_p dlD_M_centre_55 (i := 20) rfl
theorem d_M_centre_34 : decode (zb m_M_centre) 34 = .ok (.iconst 0, 1) := zdal_p dlD_M_centre_55 (i := 21) rfl
theorem d_M_centre_35 : decode (zb m_M_centre) 35 = .ok (.istore 5, 2) := zdal_p dlD_M_centre_55 (i := 22) rfl
theorem d_M_centre_37 : decode (zb m_M_centre) 37 = .ok (.iload 5, 2) := zdal_p dlD_M_centre_55 (i := 23) rfl
theorem dlD_M_centre_56 : zdal (zb m_M_centre) [(39, (.aload_n 0, 1)), (40, (.getfield 196, 3)), (43, (.if_icmp .ge 52, 3)), (46, (.iload 4, 2)), (48, (.ifCond .eq 47, 3)), (51, (.aload_n 0, 1)), (52, (.getfield 44, 3)), (55, (.iload_n 1, 1)), (56, (.iaload, 1)), (57, (.iload 5, 2)), (59, (.invokestatic 213, 3)), (62, (.ifCond .eq 20, 3)), (65, (.aload_n 0, 1)), (66, (.iload_n 3, 1)), (67, (.iload 5, 2)), (69, (.invokevirtual 216, 3)), (72, (.aload_n 0, 1)), (73, (.iload 5, 2)), (75, (.iload_n 3, 1)), (76, (.invokevirtual 216, 3)), (79, (.if_icmp .ne 7, 3)), (82, (.iconst 1, 1)), (83, (.goto 4, 3)), (86, (.iconst 0, 1))] = true := zDs 39 (by decide +kernel)
theorem d_M_centre_39 : decode (zb m_M_centre) 39 = .ok (.aload_n 0, 1) := zdal_p dlD_M_centre_56 (i := 0) rfl
theorem d_M_centre_40 : decode (zb m_M_centre) 40 = .ok (.getfield 196, 3) := zdal_p dlD_M_centre_56 (i := 1) rfl
theorem d_M_centre_43 : decode (zb m_M_centre) 43 = .ok (.if_icmp .ge 52, 3) := zdal_p dlD_M_centre_56 (i := 2) rfl
theorem d_M_centre_46 : decode (zb m_M_centre) 46 = .ok (.iload 4, 2) := zdal_p dlD_M_centre_56 (i := 3) rfl
theorem d_M_centre_48 : decode (zb m_M_centre) 48 = .ok (.ifCond .eq 47, 3) := zdal_p dlD_M_centre_56 (i := 4) rfl
theorem d_M_centre_51 : decode (zb m_M_centre) 51 = .ok (.aload_n 0, 1) := zdal_p dlD_M_centre_56 (i := 5) rfl
theorem d_M_centre_52 : decode (zb m_M_centre) 52 = .ok (.getfield 44, 3) := zdal_p dlD_M_centre_56 (i := 6) rfl
theorem d_M_centre_55 : decode (zb m_M_centre) 55 = .ok (.iload_n 1, 1) := zdal_p dlD_M_centre_56 (i := 7) rfl
theorem d_M_centre_56 : decode (zb m_M_centre) 56 = .ok (.iaload, 1) := zdal_p dlD_M_centre_56 (i := 8) rfl
theorem d_M_centre_57 : decode (zb m_M_centre) 57 = .ok (.iload 5, 2) := zdal_p dlD_M_centre_56 (i := 9) rfl
theorem d_M_centre_59 : decode (zb m_M_centre) 59 = .ok (.invokestatic 213, 3) := zdal_p dlD_M_centre_56 (i := 10) rfl
theorem d_M_centre_62 : decode (zb m_M_centre) 62 = .ok (.ifCond .eq 20, 3) := zdal_p dlD_M_centre_56 (i := 11) rfl
theorem d_M_centre_65 : decode (zb m_M_centre) 65 = .ok (.aload_n 0, 1) := zdal_p dlD_M_centre_56 (i := 12) rfl
theorem d_M_centre_66 : decode (zb m_M_centre) 66 = .ok (.iload_n 3, 1) := zdal_p dlD_M_centre_56 (i := 13) rfl
theorem d_M_centre_67 : decode (zb m_M_centre) 67 = .ok (.iload 5, 2) := zdal_p dlD_M_centre_56 (i := 14) rfl
theorem d_M_centre_69 : decode (zb m_M_centre) 69 = .ok (.invokevirtual 216, 3) := zdal_p dlD_M_centre_56 (i := 15) rfl
theorem d_M_centre_72 : decode (zb m_M_centre) 72 = .ok (.aload_n 0, 1) := zdal_p dlD_M_centre_56 (i := 16) rfl
theorem d_M_centre_73 : decode (zb m_M_centre) 73 = .ok (.iload 5, 2) := zdal_p dlD_M_centre_56 (i := 17) rfl
theorem d_M_centre_75 : decode (zb m_M_centre) 75 = .ok (.iload_n 3, 1) := zdal_p dlD_M_centre_56 (i := 18) rfl
theorem d_M_centre_76 : decode (zb m_M_centre) 76 = .ok (.invokevirtual 216, 3) := zdal_p dlD_M_centre_56 (i := 19) rfl
theorem d_M_centre_79 : decode (zb m_M_centre) 79 = .ok (.if_icmp .ne 7, 3) := zdal_p dlD_M_centre_56 (i := 20) rfl
theorem d_M_centre_82 : decode (zb m_M_centre) 82 = .ok (.iconst 1, 1) := zdal_p dlD_M_centre_56 (i := 21) rfl
theorem d_M_centre_83 : decode (zb m_M_centre) 83 = .ok (.goto 4, 3) := zdal_p dlD_M_centre_56 (i := 22) rfl
theorem d_M_centre_86 : decode (zb m_M_centre) 86 = .ok (.iconst 0, 1) := zdal_p dlD_M_centre_56 (i := 23) rfl
theorem dlD_M_centre_57 : zdal (zb m_M_centre) [(87, (.istore 4, 2)), (89, (.iinc 5 1, 3)), (92, (.goto (-55), 3)), (95, (.iload_n 2, 1)), (96, (.iload 4, 2)), (98, (.invokestatic 256, 3)), (101, (.iload_n 3, 1)), (102, (.ishl, 1)), (103, (.ior, 1)), (104, (.istore_n 2, 1)), (105, (.iinc 3 1, 3)), (108, (.goto (-94), 3)), (111, (.iload_n 2, 1)), (112, (.ireturn, 1))] = true := zDs 87 (by decide +kernel)
theorem d_M_centre_87 : decode (zb m_M_centre) 87 = .ok (.istore 4, 2) := zdal_p dlD_M_centre_57 (i := 0) rfl
theorem d_M_centre_89 : decode (zb m_M_centre) 89 = .ok (.iinc 5 1, 3) := zdal_p dlD_M_centre_57 (i := 1) rfl
theorem d_M_centre_92 : decode (zb m_M_centre) 92 = .ok (.goto (-55), 3) := zdal_p dlD_M_centre_57 (i := 2) rfl
theorem d_M_centre_95 : decode (zb m_M_centre) 95 = .ok (.iload_n 2, 1) := zdal_p dlD_M_centre_57 (i := 3) rfl
theorem d_M_centre_96 : decode (zb m_M_centre) 96 = .ok (.iload 4, 2) := zdal_p dlD_M_centre_57 (i := 4) rfl
theorem d_M_centre_98 : decode (zb m_M_centre) 98 = .ok (.invokestatic 256, 3) := zdal_p dlD_M_centre_57 (i := 5) rfl
theorem d_M_centre_101 : decode (zb m_M_centre) 101 = .ok (.iload_n 3, 1) := zdal_p dlD_M_centre_57 (i := 6) rfl
theorem d_M_centre_102 : decode (zb m_M_centre) 102 = .ok (.ishl, 1) := zdal_p dlD_M_centre_57 (i := 7) rfl
theorem d_M_centre_103 : decode (zb m_M_centre) 103 = .ok (.ior, 1) := zdal_p dlD_M_centre_57 (i := 8) rfl
theorem d_M_centre_104 : decode (zb m_M_centre) 104 = .ok (.istore_n 2, 1) := zdal_p dlD_M_centre_57 (i := 9) rfl
theorem d_M_centre_105 : decode (zb m_M_centre) 105 = .ok (.iinc 3 1, 3) := zdal_p dlD_M_centre_57 (i := 10) rfl
theorem d_M_centre_108 : decode (zb m_M_centre) 108 = .ok (.goto (-94), 3) := zdal_p dlD_M_centre_57 (i := 11) rfl
theorem d_M_centre_111 : decode (zb m_M_centre) 111 = .ok (.iload_n 2, 1) := zdal_p dlD_M_centre_57 (i := 12) rfl
theorem d_M_centre_112 : decode (zb m_M_centre) 112 = .ok (.ireturn, 1) := zdal_p dlD_M_centre_57 (i := 13) rfl
theorem dlD_M_likes_58 : zdal (zb m_M_likes) [(0, (.aload_n 0, 1)), (1, (.iload_n 1, 1)), (2, (.invokevirtual 400, 3)), (5, (.ifCond .ne 5, 3)), (8, (.iconst (-1), 1)), (9, (.ireturn, 1)), (10, (.iconst 0, 1)), (11, (.istore_n 2, 1)), (12, (.iconst 0, 1)), (13, (.istore_n 3, 1)), (14, (.iload_n 3, 1)), (15, (.aload_n 0, 1)), (16, (.getfield 196, 3)), (19, (.if_icmp .ge 30, 3)), (22, (.iload_n 2, 1)), (23, (.iconst 1, 1)), (24, (.aload_n 0, 1)), (25, (.aload_n 0, 1)), (26, (.aload_n 0, 1)), (27, (.getfield 35, 3)), (30, (.iload_n 3, 1)), (31, (.iaload, 1)), (32, (.iload_n 1, 1)), (33, (.invokevirtual 216, 3))] = true := zDs 0 (by decide +kernel)
theorem d_M_likes_0 : decode (zb m_M_likes) 0 = .ok (.aload_n 0, 1) := zdal_p dlD_M_likes_58 (i := 0) rfl
theorem d_M_likes_1 : decode (zb m_M_likes) 1 = .ok (.iload_n 1, 1) := zdal_p dlD_M_likes_58 (i := 1) rfl
theorem d_M_likes_2 : decode (zb m_M_likes) 2 = .ok (.invokevirtual 400, 3) := zdal_p dlD_M_likes_58 (i := 2) rfl
theorem d_M_likes_5 : decode (zb m_M_likes) 5 = .ok (.ifCond .ne 5, 3) := zdal_p dlD_M_likes_58 (i := 3) rfl
theorem d_M_likes_8 : decode (zb m_M_likes) 8 = .ok (.iconst (-1), 1) := zdal_p dlD_M_likes_58 (i := 4) rfl
theorem d_M_likes_9 : decode (zb m_M_likes) 9 = .ok (.ireturn, 1) := zdal_p dlD_M_likes_58 (i := 5) rfl
theorem d_M_likes_10 : decode (zb m_M_likes) 10 = .ok (.iconst 0, 1) := zdal_p dlD_M_likes_58 (i := 6) rfl
theorem d_M_likes_11 : decode (zb m_M_likes) 11 = .ok (.istore_n 2, 1) := zdal_p dlD_M_likes_58 (i := 7) rfl
theorem d_M_likes_12 : decode (zb m_M_likes) 12 = .ok (.iconst 0, 1) := zdal_p dlD_M_likes_58 (i := 8) rfl
theorem d_M_likes_13 : decode (zb m_M_likes) 13 = .ok (.istore_n 3, 1) := zdal_p dlD_M_likes_58 (i := 9) rfl
theorem d_M_likes_14 : decode (zb m_M_likes) 14 = .ok (.iload_n 3, 1) := zdal_p dlD_M_likes_58 (i := 10) rfl
theorem d_M_likes_15 : decode (zb m_M_likes) 15 = .ok (.aload_n 0, 1) := zdal_p dlD_M_likes_58 (i := 11) rfl
theorem d_M_likes_16 : decode (zb m_M_likes) 16 = .ok (.getfield 196, 3) := zdal_p dlD_M_likes_58 (i := 12) rfl
theorem d_M_likes_19 : decode (zb m_M_likes) 19 = .ok (.if_icmp .ge 30, 3) := zdal_p dlD_M_likes_58 (i := 13) rfl
theorem d_M_likes_22 : decode (zb m_M_likes) 22 = .ok (.iload_n 2, 1) := zdal_p dlD_M_likes_58 (i := 14) rfl
theorem d_M_likes_23 : decode (zb m_M_likes) 23 = .ok (.iconst 1, 1) := zdal_p dlD_M_likes_58 (i := 15) rfl
theorem d_M_likes_24 : decode (zb m_M_likes) 24 = .ok (.aload_n 0, 1) := zdal_p dlD_M_likes_58 (i := 16) rfl
theorem d_M_likes_25 : decode (zb m_M_likes) 25 = .ok (.aload_n 0, 1) := zdal_p dlD_M_likes_58 (i := 17) rfl
theorem d_M_likes_26 : decode (zb m_M_likes) 26 = .ok (.aload_n 0, 1) := zdal_p dlD_M_likes_58 (i := 18) rfl
theorem d_M_likes_27 : decode (zb m_M_likes) 27 = .ok (.getfield 35, 3) := zdal_p dlD_M_likes_58 (i := 19) rfl
theorem d_M_likes_30 : decode (zb m_M_likes) 30 = .ok (.iload_n 3, 1) := zdal_p dlD_M_likes_58 (i := 20) rfl
theorem d_M_likes_31 : decode (zb m_M_likes) 31 = .ok (.iaload, 1) := zdal_p dlD_M_likes_58 (i := 21) rfl
theorem d_M_likes_32 : decode (zb m_M_likes) 32 = .ok (.iload_n 1, 1) := zdal_p dlD_M_likes_58 (i := 22) rfl
theorem d_M_likes_33 : decode (zb m_M_likes) 33 = .ok (.invokevirtual 216, 3) := zdal_p dlD_M_likes_58 (i := 23) rfl
theorem dlD_M_likes_59 : zdal (zb m_M_likes) [(36, (.iload_n 3, 1)), (37, (.invokevirtual 216, 3)), (40, (.ishl, 1)), (41, (.ior, 1)), (42, (.istore_n 2, 1)), (43, (.iinc 3 1, 3)), (46, (.goto (-32), 3)), (49, (.iload_n 2, 1)), (50, (.invokestatic 253, 3)), (53, (.ireturn, 1))] = true := zDs 36 (by decide +kernel)
theorem d_M_likes_36 : decode (zb m_M_likes) 36 = .ok (.iload_n 3, 1) := zdal_p dlD_M_likes_59 (i := 0) rfl
theorem d_M_likes_37 : decode (zb m_M_likes) 37 = .ok (.invokevirtual 216, 3) := zdal_p dlD_M_likes_59 (i := 1) rfl
theorem d_M_likes_40 : decode (zb m_M_likes) 40 = .ok (.ishl, 1) := zdal_p dlD_M_likes_59 (i := 2) rfl
theorem d_M_likes_41 : decode (zb m_M_likes) 41 = .ok (.ior, 1) := zdal_p dlD_M_likes_59 (i := 3) rfl
theorem d_M_likes_42 : decode (zb m_M_likes) 42 = .ok (.istore_n 2, 1) := zdal_p dlD_M_likes_59 (i := 4) rfl
theorem d_M_likes_43 : decode (zb m_M_likes) 43 = .ok (.iinc 3 1, 3) := zdal_p dlD_M_likes_59 (i := 5) rfl
theorem d_M_likes_46 : decode (zb m_M_likes) 46 = .ok (.goto (-32), 3) := zdal_p dlD_M_likes_59 (i := 6) rfl
theorem d_M_likes_49 : decode (zb m_M_likes) 49 = .ok (.iload_n 2, 1) := zdal_p dlD_M_likes_59 (i := 7) rfl
theorem d_M_likes_50 : decode (zb m_M_likes) 50 = .ok (.invokestatic 253, 3) := zdal_p dlD_M_likes_59 (i := 8) rfl
theorem d_M_likes_53 : decode (zb m_M_likes) 53 = .ok (.ireturn, 1) := zdal_p dlD_M_likes_59 (i := 9) rfl
theorem dlD_M_peak_60 : zdal (zb m_M_peak) [(0, (.aload_n 0, 1)), (1, (.iload_n 1, 1)), (2, (.invokevirtual 414, 3)), (5, (.ifCond .eq 21, 3)), (8, (.aload_n 0, 1)), (9, (.iload_n 2, 1)), (10, (.invokevirtual 414, 3)), (13, (.ifCond .eq 13, 3)), (16, (.iload_n 3, 1)), (17, (.i2l, 1)), (18, (.lconst 0, 1)), (19, (.lconst 1, 1)), (20, (.invokestatic 131, 3)), (23, (.ifCond .ne 7, 3)), (26, (.ldc_w 435, 3)), (29, (.ireturn, 1)), (30, (.aload_n 0, 1)), (31, (.iload_n 1, 1)), (32, (.invokevirtual 450, 3)), (35, (.iload_n 3, 1)), (36, (.ifCond .ne 12, 3)), (39, (.aload_n 0, 1)), (40, (.getfield 93, 3)), (43, (.iload_n 2, 1))] = true := zDs 0 (by decide +kernel)
theorem d_M_peak_0 : decode (zb m_M_peak) 0 = .ok (.aload_n 0, 1) := zdal_p dlD_M_peak_60 (i := 0) rfl
theorem d_M_peak_1 : decode (zb m_M_peak) 1 = .ok (.iload_n 1, 1) := zdal_p dlD_M_peak_60 (i := 1) rfl
theorem d_M_peak_2 : decode (zb m_M_peak) 2 = .ok (.invokevirtual 414, 3) := zdal_p dlD_M_peak_60 (i := 2) rfl
theorem d_M_peak_5 : decode (zb m_M_peak) 5 = .ok (.ifCond .eq 21, 3) := zdal_p dlD_M_peak_60 (i := 3) rfl
theorem d_M_peak_8 : decode (zb m_M_peak) 8 = .ok (.aload_n 0, 1) := zdal_p dlD_M_peak_60 (i := 4) rfl
theorem d_M_peak_9 : decode (zb m_M_peak) 9 = .ok (.iload_n 2, 1) := zdal_p dlD_M_peak_60 (i := 5) rfl
theorem d_M_peak_10 : decode (zb m_M_peak) 10 = .ok (.invokevirtual 414, 3) := zdal_p dlD_M_peak_60 (i := 6) rfl
theorem d_M_peak_13 : decode (zb m_M_peak) 13 = .ok (.ifCond .eq 13, 3) := zdal_p dlD_M_peak_60 (i := 7) rfl
theorem d_M_peak_16 : decode (zb m_M_peak) 16 = .ok (.iload_n 3, 1) := zdal_p dlD_M_peak_60 (i := 8) rfl
theorem d_M_peak_17 : decode (zb m_M_peak) 17 = .ok (.i2l, 1) := zdal_p dlD_M_peak_60 (i := 9) rfl
theorem d_M_peak_18 : decode (zb m_M_peak) 18 = .ok (.lconst 0, 1) := zdal_p dlD_M_peak_60 (i := 10) rfl
theorem d_M_peak_19 : decode (zb m_M_peak) 19 = .ok (.lconst 1, 1) := zdal_p dlD_M_peak_60 (i := 11) rfl
theorem d_M_peak_20 : decode (zb m_M_peak) 20 = .ok (.invokestatic 131, 3) := zdal_p dlD_M_peak_60 (i := 12) rfl
theorem d_M_peak_23 : decode (zb m_M_peak) 23 = .ok (.ifCond .ne 7, 3) := zdal_p dlD_M_peak_60 (i := 13) rfl
theorem d_M_peak_26 : decode (zb m_M_peak) 26 = .ok (.ldc_w 435, 3) := zdal_p dlD_M_peak_60 (i := 14) rfl
theorem d_M_peak_29 : decode (zb m_M_peak) 29 = .ok (.ireturn, 1) := zdal_p dlD_M_peak_60 (i := 15) rfl
theorem d_M_peak_30 : decode (zb m_M_peak) 30 = .ok (.aload_n 0, 1) := zdal_p dlD_M_peak_60 (i := 16) rfl
theorem d_M_peak_31 : decode (zb m_M_peak) 31 = .ok (.iload_n 1, 1) := zdal_p dlD_M_peak_60 (i := 17) rfl
theorem d_M_peak_32 : decode (zb m_M_peak) 32 = .ok (.invokevirtual 450, 3) := zdal_p dlD_M_peak_60 (i := 18) rfl
theorem d_M_peak_35 : decode (zb m_M_peak) 35 = .ok (.iload_n 3, 1) := zdal_p dlD_M_peak_60 (i := 19) rfl
theorem d_M_peak_36 : decode (zb m_M_peak) 36 = .ok (.ifCond .ne 12, 3) := zdal_p dlD_M_peak_60 (i := 20) rfl
theorem d_M_peak_39 : decode (zb m_M_peak) 39 = .ok (.aload_n 0, 1) := zdal_p dlD_M_peak_60 (i := 21) rfl
theorem d_M_peak_40 : decode (zb m_M_peak) 40 = .ok (.getfield 93, 3) := zdal_p dlD_M_peak_60 (i := 22) rfl
theorem d_M_peak_43 : decode (zb m_M_peak) 43 = .ok (.iload_n 2, 1) := zdal_p dlD_M_peak_60 (i := 23) rfl
theorem dlD_M_peak_61 : zdal (zb m_M_peak) [(44, (.laload, 1)), (45, (.goto 9, 3)), (48, (.aload_n 0, 1)), (49, (.getfield 96, 3)), (52, (.iload_n 2, 1)), (53, (.laload, 1)), (54, (.l2i, 1)), (55, (.ireturn, 1))] = true := zDs 44 (by decide +kernel)
theorem d_M_peak_44 : decode (zb m_M_peak) 44 = .ok (.laload, 1) := zdal_p dlD_M_peak_61 (i := 0) rfl
theorem d_M_peak_45 : decode (zb m_M_peak) 45 = .ok (.goto 9, 3) := zdal_p dlD_M_peak_61 (i := 1) rfl
theorem d_M_peak_48 : decode (zb m_M_peak) 48 = .ok (.aload_n 0, 1) := zdal_p dlD_M_peak_61 (i := 2) rfl
theorem d_M_peak_49 : decode (zb m_M_peak) 49 = .ok (.getfield 96, 3) := zdal_p dlD_M_peak_61 (i := 3) rfl
theorem d_M_peak_52 : decode (zb m_M_peak) 52 = .ok (.iload_n 2, 1) := zdal_p dlD_M_peak_61 (i := 4) rfl
theorem d_M_peak_53 : decode (zb m_M_peak) 53 = .ok (.laload, 1) := zdal_p dlD_M_peak_61 (i := 5) rfl
theorem d_M_peak_54 : decode (zb m_M_peak) 54 = .ok (.l2i, 1) := zdal_p dlD_M_peak_61 (i := 6) rfl
theorem d_M_peak_55 : decode (zb m_M_peak) 55 = .ok (.ireturn, 1) := zdal_p dlD_M_peak_61 (i := 7) rfl
theorem dlD_M_peaks_62 : zdal (zb m_M_peaks) [(0, (.aload_n 0, 1)), (1, (.getfield 235, 3)), (4, (.iconst 1, 1)), (5, (.isub, 1)), (6, (.istore_n 2, 1)), (7, (.iload_n 2, 1)), (8, (.ifCond .lt 158, 3)), (11, (.aload_n 0, 1)), (12, (.iload_n 2, 1)), (13, (.iload_n 1, 1)), (14, (.if_icmp .ne 7, 3)), (17, (.iconst 1, 1)), (18, (.goto 4, 3)), (21, (.iconst 0, 1)), (22, (.invokestatic 256, 3)), (25, (.i2l, 1)), (26, (.putfield 436, 3)), (29, (.aload_n 0, 1)), (30, (.lconst 1, 1)), (31, (.putfield 439, 3)), (34, (.iload_n 2, 1)), (35, (.iconst 1, 1)), (36, (.iadd, 1)), (37, (.istore_n 3, 1))] = true := zDs 0 (by decide +kernel)
theorem d_M_peaks_0 : decode (zb m_M_peaks) 0 = .ok (.aload_n 0, 1) := zdal_p dlD_M_peaks_62 (i := 0) rfl
theorem d_M_peaks_1 : decode (zb m_M_peaks) 1 = .ok (.getfield 235, 3) := zdal_p dlD_M_peaks_62 (i := 1) rfl
theorem d_M_peaks_4 : decode (zb m_M_peaks) 4 = .ok (.iconst 1, 1) := zdal_p dlD_M_peaks_62 (i := 2) rfl
theorem d_M_peaks_5 : decode (zb m_M_peaks) 5 = .ok (.isub, 1) := zdal_p dlD_M_peaks_62 (i := 3) rfl
theorem d_M_peaks_6 : decode (zb m_M_peaks) 6 = .ok (.istore_n 2, 1) := zdal_p dlD_M_peaks_62 (i := 4) rfl
theorem d_M_peaks_7 : decode (zb m_M_peaks) 7 = .ok (.iload_n 2, 1) := zdal_p dlD_M_peaks_62 (i := 5) rfl
theorem d_M_peaks_8 : decode (zb m_M_peaks) 8 = .ok (.ifCond .lt 158, 3) := zdal_p dlD_M_peaks_62 (i := 6) rfl
theorem d_M_peaks_11 : decode (zb m_M_peaks) 11 = .ok (.aload_n 0, 1) := zdal_p dlD_M_peaks_62 (i := 7) rfl
theorem d_M_peaks_12 : decode (zb m_M_peaks) 12 = .ok (.iload_n 2, 1) := zdal_p dlD_M_peaks_62 (i := 8) rfl
theorem d_M_peaks_13 : decode (zb m_M_peaks) 13 = .ok (.iload_n 1, 1) := zdal_p dlD_M_peaks_62 (i := 9) rfl
theorem d_M_peaks_14 : decode (zb m_M_peaks) 14 = .ok (.if_icmp .ne 7, 3) := zdal_p dlD_M_peaks_62 (i := 10) rfl
theorem d_M_peaks_17 : decode (zb m_M_peaks) 17 = .ok (.iconst 1, 1) := zdal_p dlD_M_peaks_62 (i := 11) rfl
theorem d_M_peaks_18 : decode (zb m_M_peaks) 18 = .ok (.goto 4, 3) := zdal_p dlD_M_peaks_62 (i := 12) rfl
theorem d_M_peaks_21 : decode (zb m_M_peaks) 21 = .ok (.iconst 0, 1) := zdal_p dlD_M_peaks_62 (i := 13) rfl
theorem d_M_peaks_22 : decode (zb m_M_peaks) 22 = .ok (.invokestatic 256, 3) := zdal_p dlD_M_peaks_62 (i := 14) rfl
theorem d_M_peaks_25 : decode (zb m_M_peaks) 25 = .ok (.i2l, 1) := zdal_p dlD_M_peaks_62 (i := 15) rfl
theorem d_M_peaks_26 : decode (zb m_M_peaks) 26 = .ok (.putfield 436, 3) := zdal_p dlD_M_peaks_62 (i := 16) rfl
theorem d_M_peaks_29 : decode (zb m_M_peaks) 29 = .ok (.aload_n 0, 1) := zdal_p dlD_M_peaks_62 (i := 17) rfl
theorem d_M_peaks_30 : decode (zb m_M_peaks) 30 = .ok (.lconst 1, 1) := zdal_p dlD_M_peaks_62 (i := 18) rfl
theorem d_M_peaks_31 : decode (zb m_M_peaks) 31 = .ok (.putfield 439, 3) := zdal_p dlD_M_peaks_62 (i := 19) rfl
theorem d_M_peaks_34 : decode (zb m_M_peaks) 34 = .ok (.iload_n 2, 1) := zdal_p dlD_M_peaks_62 (i := 20) rfl
theorem d_M_peaks_35 : decode (zb m_M_peaks) 35 = .ok (.iconst 1, 1) := zdal_p dlD_M_peaks_62 (i := 21) rfl
theorem d_M_peaks_36 : decode (zb m_M_peaks) 36 = .ok (.iadd, 1) := zdal_p dlD_M_peaks_62 (i := 22) rfl
theorem d_M_peaks_37 : decode (zb m_M_peaks) 37 = .ok (.istore_n 3, 1) := zdal_p dlD_M_peaks_62 (i := 23) rfl
theorem dlD_M_peaks_63 : zdal (zb m_M_peaks) [(38, (.iload_n 3, 1)), (39, (.aload_n 0, 1)), (40, (.getfield 235, 3)), (43, (.if_icmp .ge 64, 3)), (46, (.aload_n 0, 1)), (47, (.getfield 93, 3)), (50, (.iload_n 3, 1)), (51, (.laload, 1)), (52, (.lconst 0, 1)), (53, (.lcmp, 1)), (54, (.ifCond .eq 47, 3)), (57, (.aload_n 0, 1)), (58, (.getfield 50, 3)), (61, (.bipush 64, 2)), (63, (.iload_n 3, 1)), (64, (.imul, 1)), (65, (.iload_n 2, 1)), (66, (.iadd, 1)), (67, (.iaload, 1)), (68, (.ifCond .eq 33, 3)), (71, (.aload_n 0, 1)), (72, (.aload_n 0, 1)), (73, (.getfield 93, 3)), (76, (.iload_n 3, 1))] = true := zDs 38 (by decide +kernel)
theorem d_M_peaks_38 : decode (zb m_M_peaks) 38 = .ok (.iload_n 3, 1) := zdal_p dlD_M_peaks_63 (i := 0) rfl
theorem d_M_peaks_39 : decode (zb m_M_peaks) 39 = .ok (.aload_n 0, 1) := zdal_p dlD_M_peaks_63 (i := 1) rfl
theorem d_M_peaks_40 : decode (zb m_M_peaks) 40 = .ok (.getfield 235, 3) := zdal_p dlD_M_peaks_63 (i := 2) rfl
theorem d_M_peaks_43 : decode (zb m_M_peaks) 43 = .ok (.if_icmp .ge 64, 3) := zdal_p dlD_M_peaks_63 (i := 3) rfl
theorem d_M_peaks_46 : decode (zb m_M_peaks) 46 = .ok (.aload_n 0, 1) := zdal_p dlD_M_peaks_63 (i := 4) rfl
theorem d_M_peaks_47 : decode (zb m_M_peaks) 47 = .ok (.getfield 93, 3) := zdal_p dlD_M_peaks_63 (i := 5) rfl
theorem d_M_peaks_50 : decode (zb m_M_peaks) 50 = .ok (.iload_n 3, 1) := zdal_p dlD_M_peaks_63 (i := 6) rfl
theorem d_M_peaks_51 : decode (zb m_M_peaks) 51 = .ok (.laload, 1) := zdal_p dlD_M_peaks_63 (i := 7) rfl
theorem d_M_peaks_52 : decode (zb m_M_peaks) 52 = .ok (.lconst 0, 1) := zdal_p dlD_M_peaks_63 (i := 8) rfl
theorem d_M_peaks_53 : decode (zb m_M_peaks) 53 = .ok (.lcmp, 1) := zdal_p dlD_M_peaks_63 (i := 9) rfl
theorem d_M_peaks_54 : decode (zb m_M_peaks) 54 = .ok (.ifCond .eq 47, 3) := zdal_p dlD_M_peaks_63 (i := 10) rfl
theorem d_M_peaks_57 : decode (zb m_M_peaks) 57 = .ok (.aload_n 0, 1) := zdal_p dlD_M_peaks_63 (i := 11) rfl
theorem d_M_peaks_58 : decode (zb m_M_peaks) 58 = .ok (.getfield 50, 3) := zdal_p dlD_M_peaks_63 (i := 12) rfl
theorem d_M_peaks_61 : decode (zb m_M_peaks) 61 = .ok (.bipush 64, 2) := zdal_p dlD_M_peaks_63 (i := 13) rfl
theorem d_M_peaks_63 : decode (zb m_M_peaks) 63 = .ok (.iload_n 3, 1) := zdal_p dlD_M_peaks_63 (i := 14) rfl
theorem d_M_peaks_64 : decode (zb m_M_peaks) 64 = .ok (.imul, 1) := zdal_p dlD_M_peaks_63 (i := 15) rfl
theorem d_M_peaks_65 : decode (zb m_M_peaks) 65 = .ok (.iload_n 2, 1) := zdal_p dlD_M_peaks_63 (i := 16) rfl
theorem d_M_peaks_66 : decode (zb m_M_peaks) 66 = .ok (.iadd, 1) := zdal_p dlD_M_peaks_63 (i := 17) rfl
theorem d_M_peaks_67 : decode (zb m_M_peaks) 67 = .ok (.iaload, 1) := zdal_p dlD_M_peaks_63 (i := 18) rfl
theorem d_M_peaks_68 : decode (zb m_M_peaks) 68 = .ok (.ifCond .eq 33, 3) := zdal_p dlD_M_peaks_63 (i := 19) rfl
theorem d_M_peaks_71 : decode (zb m_M_peaks) 71 = .ok (.aload_n 0, 1) := zdal_p dlD_M_peaks_63 (i := 20) rfl
theorem d_M_peaks_72 : decode (zb m_M_peaks) 72 = .ok (.aload_n 0, 1) := zdal_p dlD_M_peaks_63 (i := 21) rfl
theorem d_M_peaks_73 : decode (zb m_M_peaks) 73 = .ok (.getfield 93, 3) := zdal_p dlD_M_peaks_63 (i := 22) rfl
theorem d_M_peaks_76 : decode (zb m_M_peaks) 76 = .ok (.iload_n 3, 1) := zdal_p dlD_M_peaks_63 (i := 23) rfl
theorem dlD_M_peaks_64 : zdal (zb m_M_peaks) [(77, (.laload, 1)), (78, (.lneg, 1)), (79, (.aload_n 0, 1)), (80, (.getfield 50, 3)), (83, (.bipush 64, 2)), (85, (.iload_n 3, 1)), (86, (.imul, 1)), (87, (.iload_n 2, 1)), (88, (.iadd, 1)), (89, (.iaload, 1)), (90, (.i2l, 1)), (91, (.lmul, 1)), (92, (.aload_n 0, 1)), (93, (.getfield 96, 3)), (96, (.iload_n 3, 1)), (97, (.laload, 1)), (98, (.invokevirtual 446, 3)), (101, (.iinc 3 1, 3)), (104, (.goto (-66), 3)), (107, (.aload_n 0, 1)), (108, (.getfield 436, 3)), (111, (.lstore_n 3, 1)), (112, (.aload_n 0, 1)), (113, (.getfield 439, 3))] = true := zDs 77 (by decide +kernel)
theorem d_M_peaks_77 : decode (zb m_M_peaks) 77 = .ok (.laload, 1) := zdal_p dlD_M_peaks_64 (i := 0) rfl
theorem d_M_peaks_78 : decode (zb m_M_peaks) 78 = .ok (.lneg, 1) := zdal_p dlD_M_peaks_64 (i := 1) rfl
theorem d_M_peaks_79 : decode (zb m_M_peaks) 79 = .ok (.aload_n 0, 1) := zdal_p dlD_M_peaks_64 (i := 2) rfl
theorem d_M_peaks_80 : decode (zb m_M_peaks) 80 = .ok (.getfield 50, 3) := zdal_p dlD_M_peaks_64 (i := 3) rfl
theorem d_M_peaks_83 : decode (zb m_M_peaks) 83 = .ok (.bipush 64, 2) := zdal_p dlD_M_peaks_64 (i := 4) rfl
theorem d_M_peaks_85 : decode (zb m_M_peaks) 85 = .ok (.iload_n 3, 1) := zdal_p dlD_M_peaks_64 (i := 5) rfl
theorem d_M_peaks_86 : decode (zb m_M_peaks) 86 = .ok (.imul, 1) := zdal_p dlD_M_peaks_64 (i := 6) rfl
theorem d_M_peaks_87 : decode (zb m_M_peaks) 87 = .ok (.iload_n 2, 1) := zdal_p dlD_M_peaks_64 (i := 7) rfl
theorem d_M_peaks_88 : decode (zb m_M_peaks) 88 = .ok (.iadd, 1) := zdal_p dlD_M_peaks_64 (i := 8) rfl
theorem d_M_peaks_89 : decode (zb m_M_peaks) 89 = .ok (.iaload, 1) := zdal_p dlD_M_peaks_64 (i := 9) rfl
theorem d_M_peaks_90 : decode (zb m_M_peaks) 90 = .ok (.i2l, 1) := zdal_p dlD_M_peaks_64 (i := 10) rfl
theorem d_M_peaks_91 : decode (zb m_M_peaks) 91 = .ok (.lmul, 1) := zdal_p dlD_M_peaks_64 (i := 11) rfl
theorem d_M_peaks_92 : decode (zb m_M_peaks) 92 = .ok (.aload_n 0, 1) := zdal_p dlD_M_peaks_64 (i := 12) rfl
theorem d_M_peaks_93 : decode (zb m_M_peaks) 93 = .ok (.getfield 96, 3) := zdal_p dlD_M_peaks_64 (i := 13) rfl
theorem d_M_peaks_96 : decode (zb m_M_peaks) 96 = .ok (.iload_n 3, 1) := zdal_p dlD_M_peaks_64 (i := 14) rfl
theorem d_M_peaks_97 : decode (zb m_M_peaks) 97 = .ok (.laload, 1) := zdal_p dlD_M_peaks_64 (i := 15) rfl
theorem d_M_peaks_98 : decode (zb m_M_peaks) 98 = .ok (.invokevirtual 446, 3) := zdal_p dlD_M_peaks_64 (i := 16) rfl
theorem d_M_peaks_101 : decode (zb m_M_peaks) 101 = .ok (.iinc 3 1, 3) := zdal_p dlD_M_peaks_64 (i := 17) rfl
theorem d_M_peaks_104 : decode (zb m_M_peaks) 104 = .ok (.goto (-66), 3) := zdal_p dlD_M_peaks_64 (i := 18) rfl
theorem d_M_peaks_107 : decode (zb m_M_peaks) 107 = .ok (.aload_n 0, 1) := zdal_p dlD_M_peaks_64 (i := 19) rfl
theorem d_M_peaks_108 : decode (zb m_M_peaks) 108 = .ok (.getfield 436, 3) := zdal_p dlD_M_peaks_64 (i := 20) rfl
theorem d_M_peaks_111 : decode (zb m_M_peaks) 111 = .ok (.lstore_n 3, 1) := zdal_p dlD_M_peaks_64 (i := 21) rfl
theorem d_M_peaks_112 : decode (zb m_M_peaks) 112 = .ok (.aload_n 0, 1) := zdal_p dlD_M_peaks_64 (i := 22) rfl
theorem d_M_peaks_113 : decode (zb m_M_peaks) 113 = .ok (.getfield 439, 3) := zdal_p dlD_M_peaks_64 (i := 23) rfl
theorem dlD_M_peaks_65 : zdal (zb m_M_peaks) [(116, (.aload_n 0, 1)), (117, (.getfield 50, 3)), (120, (.bipush 64, 2)), (122, (.iload_n 2, 1)), (123, (.imul, 1)), (124, (.iload_n 2, 1)), (125, (.iadd, 1)), (126, (.iaload, 1)), (127, (.i2l, 1)), (128, (.lmul, 1)), (129, (.lstore 5, 2)), (131, (.lload_n 3, 1)), (132, (.lload 5, 2)), (134, (.invokestatic 442, 3)), (137, (.lstore 7, 2)), (139, (.aload_n 0, 1)), (140, (.getfield 93, 3)), (143, (.iload_n 2, 1)), (144, (.lload_n 3, 1)), (145, (.lload 7, 2)), (147, (.ldiv, 1)), (148, (.lastore, 1)), (149, (.aload_n 0, 1)), (150, (.getfield 96, 3))] = true := zDs 116 (by decide +kernel)
theorem d_M_peaks_116 : decode (zb m_M_peaks) 116 = .ok (.aload_n 0, 1) := zdal_p dlD_M_peaks_65 (i := 0) rfl
theorem d_M_peaks_117 : decode (zb m_M_peaks) 117 = .ok (.getfield 50, 3) := zdal_p dlD_M_peaks_65 (i := 1) rfl
theorem d_M_peaks_120 : decode (zb m_M_peaks) 120 = .ok (.bipush 64, 2) := zdal_p dlD_M_peaks_65 (i := 2) rfl
theorem d_M_peaks_122 : decode (zb m_M_peaks) 122 = .ok (.iload_n 2, 1) := zdal_p dlD_M_peaks_65 (i := 3) rfl
theorem d_M_peaks_123 : decode (zb m_M_peaks) 123 = .ok (.imul, 1) := zdal_p dlD_M_peaks_65 (i := 4) rfl
theorem d_M_peaks_124 : decode (zb m_M_peaks) 124 = .ok (.iload_n 2, 1) := zdal_p dlD_M_peaks_65 (i := 5) rfl
theorem d_M_peaks_125 : decode (zb m_M_peaks) 125 = .ok (.iadd, 1) := zdal_p dlD_M_peaks_65 (i := 6) rfl
theorem d_M_peaks_126 : decode (zb m_M_peaks) 126 = .ok (.iaload, 1) := zdal_p dlD_M_peaks_65 (i := 7) rfl
theorem d_M_peaks_127 : decode (zb m_M_peaks) 127 = .ok (.i2l, 1) := zdal_p dlD_M_peaks_65 (i := 8) rfl
theorem d_M_peaks_128 : decode (zb m_M_peaks) 128 = .ok (.lmul, 1) := zdal_p dlD_M_peaks_65 (i := 9) rfl
theorem d_M_peaks_129 : decode (zb m_M_peaks) 129 = .ok (.lstore 5, 2) := zdal_p dlD_M_peaks_65 (i := 10) rfl
theorem d_M_peaks_131 : decode (zb m_M_peaks) 131 = .ok (.lload_n 3, 1) := zdal_p dlD_M_peaks_65 (i := 11) rfl
theorem d_M_peaks_132 : decode (zb m_M_peaks) 132 = .ok (.lload 5, 2) := zdal_p dlD_M_peaks_65 (i := 12) rfl
theorem d_M_peaks_134 : decode (zb m_M_peaks) 134 = .ok (.invokestatic 442, 3) := zdal_p dlD_M_peaks_65 (i := 13) rfl
theorem d_M_peaks_137 : decode (zb m_M_peaks) 137 = .ok (.lstore 7, 2) := zdal_p dlD_M_peaks_65 (i := 14) rfl
theorem d_M_peaks_139 : decode (zb m_M_peaks) 139 = .ok (.aload_n 0, 1) := zdal_p dlD_M_peaks_65 (i := 15) rfl
theorem d_M_peaks_140 : decode (zb m_M_peaks) 140 = .ok (.getfield 93, 3) := zdal_p dlD_M_peaks_65 (i := 16) rfl
theorem d_M_peaks_143 : decode (zb m_M_peaks) 143 = .ok (.iload_n 2, 1) := zdal_p dlD_M_peaks_65 (i := 17) rfl
theorem d_M_peaks_144 : decode (zb m_M_peaks) 144 = .ok (.lload_n 3, 1) := zdal_p dlD_M_peaks_65 (i := 18) rfl
theorem d_M_peaks_145 : decode (zb m_M_peaks) 145 = .ok (.lload 7, 2) := zdal_p dlD_M_peaks_65 (i := 19) rfl
theorem d_M_peaks_147 : decode (zb m_M_peaks) 147 = .ok (.ldiv, 1) := zdal_p dlD_M_peaks_65 (i := 20) rfl
theorem d_M_peaks_148 : decode (zb m_M_peaks) 148 = .ok (.lastore, 1) := zdal_p dlD_M_peaks_65 (i := 21) rfl
theorem d_M_peaks_149 : decode (zb m_M_peaks) 149 = .ok (.aload_n 0, 1) := zdal_p dlD_M_peaks_65 (i := 22) rfl
theorem d_M_peaks_150 : decode (zb m_M_peaks) 150 = .ok (.getfield 96, 3) := zdal_p dlD_M_peaks_65 (i := 23) rfl
theorem dlD_M_peaks_66 : zdal (zb m_M_peaks) [(153, (.iload_n 2, 1)), (154, (.lload 5, 2)), (156, (.lload 7, 2)), (158, (.ldiv, 1)), (159, (.lastore, 1)), (160, (.iinc 2 (-1), 3)), (163, (.goto (-156), 3)), (166, (.return_, 1))] = true := zDs 153 (by decide +kernel)
theorem d_M_peaks_153 : decode (zb m_M_peaks) 153 = .ok (.iload_n 2, 1) := zdal_p dlD_M_peaks_66 (i := 0) rfl
theorem d_M_peaks_154 : decode (zb m_M_peaks) 154 = .ok (.lload 5, 2) := zdal_p dlD_M_peaks_66 (i := 1) rfl
theorem d_M_peaks_156 : decode (zb m_M_peaks) 156 = .ok (.lload 7, 2) := zdal_p dlD_M_peaks_66 (i := 2) rfl
theorem d_M_peaks_158 : decode (zb m_M_peaks) 158 = .ok (.ldiv, 1) := zdal_p dlD_M_peaks_66 (i := 3) rfl
theorem d_M_peaks_159 : decode (zb m_M_peaks) 159 = .ok (.lastore, 1) := zdal_p dlD_M_peaks_66 (i := 4) rfl
theorem d_M_peaks_160 : decode (zb m_M_peaks) 160 = .ok (.iinc 2 (-1), 3) := zdal_p dlD_M_peaks_66 (i := 5) rfl
theorem d_M_peaks_163 : decode (zb m_M_peaks) 163 = .ok (.goto (-156), 3) := zdal_p dlD_M_peaks_66 (i := 6) rfl
theorem d_M_peaks_166 : decode (zb m_M_peaks) 166 = .ok (.return_, 1) := zdal_p dlD_M_peaks_66 (i := 7) rfl
theorem dlD_M_sumWith_67 : zdal (zb m_M_sumWith) [(0, (.aload_n 0, 1)), (1, (.getfield 436, 3)), (4, (.lload_n 3, 1)), (5, (.lmul, 1)), (6, (.lload_n 1, 1)), (7, (.aload_n 0, 1)), (8, (.getfield 439, 3)), (11, (.lmul, 1)), (12, (.ladd, 1)), (13, (.lstore 5, 2)), (15, (.aload_n 0, 1)), (16, (.getfield 439, 3)), (19, (.lload_n 3, 1)), (20, (.lmul, 1)), (21, (.lstore 7, 2)), (23, (.lload 5, 2)), (25, (.lload 7, 2)), (27, (.invokestatic 442, 3)), (30, (.lstore 9, 2)), (32, (.aload_n 0, 1)), (33, (.lload 5, 2)), (35, (.lload 9, 2)), (37, (.ldiv, 1)), (38, (.putfield 436, 3))] = true := zDs 0 (by decide +kernel)
theorem d_M_sumWith_0 : decode (zb m_M_sumWith) 0 = .ok (.aload_n 0, 1) := zdal_p dlD_M_sumWith_67 (i := 0) rfl
theorem d_M_sumWith_1 : decode (zb m_M_sumWith) 1 = .ok (.getfield 436, 3) := zdal_p dlD_M_sumWith_67 (i := 1) rfl
theorem d_M_sumWith_4 : decode (zb m_M_sumWith) 4 = .ok (.lload_n 3, 1) := zdal_p dlD_M_sumWith_67 (i := 2) rfl
theorem d_M_sumWith_5 : decode (zb m_M_sumWith) 5 = .ok (.lmul, 1) := zdal_p dlD_M_sumWith_67 (i := 3) rfl
theorem d_M_sumWith_6 : decode (zb m_M_sumWith) 6 = .ok (.lload_n 1, 1) := zdal_p dlD_M_sumWith_67 (i := 4) rfl
theorem d_M_sumWith_7 : decode (zb m_M_sumWith) 7 = .ok (.aload_n 0, 1) := zdal_p dlD_M_sumWith_67 (i := 5) rfl
theorem d_M_sumWith_8 : decode (zb m_M_sumWith) 8 = .ok (.getfield 439, 3) := zdal_p dlD_M_sumWith_67 (i := 6) rfl
theorem d_M_sumWith_11 : decode (zb m_M_sumWith) 11 = .ok (.lmul, 1) := zdal_p dlD_M_sumWith_67 (i := 7) rfl
theorem d_M_sumWith_12 : decode (zb m_M_sumWith) 12 = .ok (.ladd, 1) := zdal_p dlD_M_sumWith_67 (i := 8) rfl
theorem d_M_sumWith_13 : decode (zb m_M_sumWith) 13 = .ok (.lstore 5, 2) := zdal_p dlD_M_sumWith_67 (i := 9) rfl
theorem d_M_sumWith_15 : decode (zb m_M_sumWith) 15 = .ok (.aload_n 0, 1) := zdal_p dlD_M_sumWith_67 (i := 10) rfl
theorem d_M_sumWith_16 : decode (zb m_M_sumWith) 16 = .ok (.getfield 439, 3) := zdal_p dlD_M_sumWith_67 (i := 11) rfl
theorem d_M_sumWith_19 : decode (zb m_M_sumWith) 19 = .ok (.lload_n 3, 1) := zdal_p dlD_M_sumWith_67 (i := 12) rfl
theorem d_M_sumWith_20 : decode (zb m_M_sumWith) 20 = .ok (.lmul, 1) := zdal_p dlD_M_sumWith_67 (i := 13) rfl
theorem d_M_sumWith_21 : decode (zb m_M_sumWith) 21 = .ok (.lstore 7, 2) := zdal_p dlD_M_sumWith_67 (i := 14) rfl
theorem d_M_sumWith_23 : decode (zb m_M_sumWith) 23 = .ok (.lload 5, 2) := zdal_p dlD_M_sumWith_67 (i := 15) rfl
theorem d_M_sumWith_25 : decode (zb m_M_sumWith) 25 = .ok (.lload 7, 2) := zdal_p dlD_M_sumWith_67 (i := 16) rfl
theorem d_M_sumWith_27 : decode (zb m_M_sumWith) 27 = .ok (.invokestatic 442, 3) := zdal_p dlD_M_sumWith_67 (i := 17) rfl
theorem d_M_sumWith_30 : decode (zb m_M_sumWith) 30 = .ok (.lstore 9, 2) := zdal_p dlD_M_sumWith_67 (i := 18) rfl
theorem d_M_sumWith_32 : decode (zb m_M_sumWith) 32 = .ok (.aload_n 0, 1) := zdal_p dlD_M_sumWith_67 (i := 19) rfl
theorem d_M_sumWith_33 : decode (zb m_M_sumWith) 33 = .ok (.lload 5, 2) := zdal_p dlD_M_sumWith_67 (i := 20) rfl
theorem d_M_sumWith_35 : decode (zb m_M_sumWith) 35 = .ok (.lload 9, 2) := zdal_p dlD_M_sumWith_67 (i := 21) rfl
theorem d_M_sumWith_37 : decode (zb m_M_sumWith) 37 = .ok (.ldiv, 1) := zdal_p dlD_M_sumWith_67 (i := 22) rfl
theorem d_M_sumWith_38 : decode (zb m_M_sumWith) 38 = .ok (.putfield 436, 3) := zdal_p dlD_M_sumWith_67 (i := 23) rfl
theorem dlD_M_sumWith_68 : zdal (zb m_M_sumWith) [(41, (.aload_n 0, 1)), (42, (.lload 7, 2)), (44, (.lload 9, 2)), (46, (.ldiv, 1)), (47, (.putfield 439, 3)), (50, (.return_, 1))] = true := zDs 41 (by decide +kernel)
theorem d_M_sumWith_41 : decode (zb m_M_sumWith) 41 = .ok (.aload_n 0, 1) := zdal_p dlD_M_sumWith_68 (i := 0) rfl
theorem d_M_sumWith_42 : decode (zb m_M_sumWith) 42 = .ok (.lload 7, 2) := zdal_p dlD_M_sumWith_68 (i := 1) rfl
theorem d_M_sumWith_44 : decode (zb m_M_sumWith) 44 = .ok (.lload 9, 2) := zdal_p dlD_M_sumWith_68 (i := 2) rfl
theorem d_M_sumWith_46 : decode (zb m_M_sumWith) 46 = .ok (.ldiv, 1) := zdal_p dlD_M_sumWith_68 (i := 3) rfl
theorem d_M_sumWith_47 : decode (zb m_M_sumWith) 47 = .ok (.putfield 439, 3) := zdal_p dlD_M_sumWith_68 (i := 4) rfl
theorem d_M_sumWith_50 : decode (zb m_M_sumWith) 50 = .ok (.return_, 1) := zdal_p dlD_M_sumWith_68 (i := 5) rfl
theorem dlD_M_divisor_69 : zdal (zb m_M_divisor) [(0, (.lload_n 0, 1)), (1, (.lconst 0, 1)), (2, (.lcmp, 1)), (3, (.ifCond .ge 8, 3)), (6, (.lload_n 0, 1)), (7, (.lneg, 1)), (8, (.goto 4, 3)), (11, (.lload_n 0, 1)), (12, (.lstore 4, 2)), (14, (.lload_n 2, 1)), (15, (.lstore 6, 2)), (17, (.lload 6, 2)), (19, (.lconst 0, 1)), (20, (.lcmp, 1)), (21, (.ifCond .eq 21, 3)), (24, (.lload 4, 2)), (26, (.lload 6, 2)), (28, (.lrem, 1)), (29, (.lstore 8, 2)), (31, (.lload 6, 2)), (33, (.lstore 4, 2)), (35, (.lload 8, 2)), (37, (.lstore 6, 2)), (39, (.goto (-22), 3))] = true := zDs 0 (by decide +kernel)
theorem d_M_divisor_0 : decode (zb m_M_divisor) 0 = .ok (.lload_n 0, 1) := zdal_p dlD_M_divisor_69 (i := 0) rfl
theorem d_M_divisor_1 : decode (zb m_M_divisor) 1 = .ok (.lconst 0, 1) := zdal_p dlD_M_divisor_69 (i := 1) rfl
theorem d_M_divisor_2 : decode (zb m_M_divisor) 2 = .ok (.lcmp, 1) := zdal_p dlD_M_divisor_69 (i := 2) rfl
theorem d_M_divisor_3 : decode (zb m_M_divisor) 3 = .ok (.ifCond .ge 8, 3) := zdal_p dlD_M_divisor_69 (i := 3) rfl
theorem d_M_divisor_6 : decode (zb m_M_divisor) 6 = .ok (.lload_n 0, 1) := zdal_p dlD_M_divisor_69 (i := 4) rfl
theorem d_M_divisor_7 : decode (zb m_M_divisor) 7 = .ok (.lneg, 1) := zdal_p dlD_M_divisor_69 (i := 5) rfl
theorem d_M_divisor_8 : decode (zb m_M_divisor) 8 = .ok (.goto 4, 3) := zdal_p dlD_M_divisor_69 (i := 6) rfl
theorem d_M_divisor_11 : decode (zb m_M_divisor) 11 = .ok (.lload_n 0, 1) := zdal_p dlD_M_divisor_69 (i := 7) rfl
theorem d_M_divisor_12 : decode (zb m_M_divisor) 12 = .ok (.lstore 4, 2) := zdal_p dlD_M_divisor_69 (i := 8) rfl
theorem d_M_divisor_14 : decode (zb m_M_divisor) 14 = .ok (.lload_n 2, 1) := zdal_p dlD_M_divisor_69 (i := 9) rfl
theorem d_M_divisor_15 : decode (zb m_M_divisor) 15 = .ok (.lstore 6, 2) := zdal_p dlD_M_divisor_69 (i := 10) rfl
theorem d_M_divisor_17 : decode (zb m_M_divisor) 17 = .ok (.lload 6, 2) := zdal_p dlD_M_divisor_69 (i := 11) rfl
theorem d_M_divisor_19 : decode (zb m_M_divisor) 19 = .ok (.lconst 0, 1) := zdal_p dlD_M_divisor_69 (i := 12) rfl
theorem d_M_divisor_20 : decode (zb m_M_divisor) 20 = .ok (.lcmp, 1) := zdal_p dlD_M_divisor_69 (i := 13) rfl
theorem d_M_divisor_21 : decode (zb m_M_divisor) 21 = .ok (.ifCond .eq 21, 3) := zdal_p dlD_M_divisor_69 (i := 14) rfl
theorem d_M_divisor_24 : decode (zb m_M_divisor) 24 = .ok (.lload 4, 2) := zdal_p dlD_M_divisor_69 (i := 15) rfl
theorem d_M_divisor_26 : decode (zb m_M_divisor) 26 = .ok (.lload 6, 2) := zdal_p dlD_M_divisor_69 (i := 16) rfl
theorem d_M_divisor_28 : decode (zb m_M_divisor) 28 = .ok (.lrem, 1) := zdal_p dlD_M_divisor_69 (i := 17) rfl
theorem d_M_divisor_29 : decode (zb m_M_divisor) 29 = .ok (.lstore 8, 2) := zdal_p dlD_M_divisor_69 (i := 18) rfl
theorem d_M_divisor_31 : decode (zb m_M_divisor) 31 = .ok (.lload 6, 2) := zdal_p dlD_M_divisor_69 (i := 19) rfl
theorem d_M_divisor_33 : decode (zb m_M_divisor) 33 = .ok (.lstore 4, 2) := zdal_p dlD_M_divisor_69 (i := 20) rfl
theorem d_M_divisor_35 : decode (zb m_M_divisor) 35 = .ok (.lload 8, 2) := zdal_p dlD_M_divisor_69 (i := 21) rfl
theorem d_M_divisor_37 : decode (zb m_M_divisor) 37 = .ok (.lstore 6, 2) := zdal_p dlD_M_divisor_69 (i := 22) rfl
theorem d_M_divisor_39 : decode (zb m_M_divisor) 39 = .ok (.goto (-22), 3) := zdal_p dlD_M_divisor_69 (i := 23) rfl
theorem dlD_M_divisor_70 : zdal (zb m_M_divisor) [(42, (.lload 4, 2)), (44, (.lreturn, 1))] = true := zDs 42 (by decide +kernel)
theorem d_M_divisor_42 : decode (zb m_M_divisor) 42 = .ok (.lload 4, 2) := zdal_p dlD_M_divisor_70 (i := 0) rfl
theorem d_M_divisor_44 : decode (zb m_M_divisor) 44 = .ok (.lreturn, 1) := zdal_p dlD_M_divisor_70 (i := 1) rfl
theorem dlD_M_local_71 : zdal (zb m_M_local) [(0, (.iload_n 1, 1)), (1, (.invokestatic 426, 3)), (4, (.ifCond .eq 30, 3)), (7, (.aload_n 0, 1)), (8, (.iload_n 2, 1)), (9, (.invokevirtual 414, 3)), (12, (.ifCond .eq 22, 3)), (15, (.aload_n 0, 1)), (16, (.iload_n 3, 1)), (17, (.invokevirtual 414, 3)), (20, (.ifCond .eq 14, 3)), (23, (.iload 4, 2)), (25, (.i2l, 1)), (26, (.lconst 0, 1)), (27, (.lconst 1, 1)), (28, (.invokestatic 131, 3)), (31, (.ifCond .ne 7, 3)), (34, (.ldc_w 435, 3)), (37, (.ireturn, 1)), (38, (.aload_n 0, 1)), (39, (.iload_n 2, 1)), (40, (.iload_n 1, 1)), (41, (.invokevirtual 432, 3)), (44, (.istore 5, 2))] = true := zDs 0 (by decide +kernel)
theorem d_M_local_0 : decode (zb m_M_local) 0 = .ok (.iload_n 1, 1) := zdal_p dlD_M_local_71 (i := 0) rfl
theorem d_M_local_1 : decode (zb m_M_local) 1 = .ok (.invokestatic 426, 3) := zdal_p dlD_M_local_71 (i := 1) rfl
theorem d_M_local_4 : decode (zb m_M_local) 4 = .ok (.ifCond .eq 30, 3) := zdal_p dlD_M_local_71 (i := 2) rfl
theorem d_M_local_7 : decode (zb m_M_local) 7 = .ok (.aload_n 0, 1) := zdal_p dlD_M_local_71 (i := 3) rfl
theorem d_M_local_8 : decode (zb m_M_local) 8 = .ok (.iload_n 2, 1) := zdal_p dlD_M_local_71 (i := 4) rfl
theorem d_M_local_9 : decode (zb m_M_local) 9 = .ok (.invokevirtual 414, 3) := zdal_p dlD_M_local_71 (i := 5) rfl
theorem d_M_local_12 : decode (zb m_M_local) 12 = .ok (.ifCond .eq 22, 3) := zdal_p dlD_M_local_71 (i := 6) rfl
theorem d_M_local_15 : decode (zb m_M_local) 15 = .ok (.aload_n 0, 1) := zdal_p dlD_M_local_71 (i := 7) rfl
theorem d_M_local_16 : decode (zb m_M_local) 16 = .ok (.iload_n 3, 1) := zdal_p dlD_M_local_71 (i := 8) rfl
theorem d_M_local_17 : decode (zb m_M_local) 17 = .ok (.invokevirtual 414, 3) := zdal_p dlD_M_local_71 (i := 9) rfl
theorem d_M_local_20 : decode (zb m_M_local) 20 = .ok (.ifCond .eq 14, 3) := zdal_p dlD_M_local_71 (i := 10) rfl
theorem d_M_local_23 : decode (zb m_M_local) 23 = .ok (.iload 4, 2) := zdal_p dlD_M_local_71 (i := 11) rfl
theorem d_M_local_25 : decode (zb m_M_local) 25 = .ok (.i2l, 1) := zdal_p dlD_M_local_71 (i := 12) rfl
theorem d_M_local_26 : decode (zb m_M_local) 26 = .ok (.lconst 0, 1) := zdal_p dlD_M_local_71 (i := 13) rfl
theorem d_M_local_27 : decode (zb m_M_local) 27 = .ok (.lconst 1, 1) := zdal_p dlD_M_local_71 (i := 14) rfl
theorem d_M_local_28 : decode (zb m_M_local) 28 = .ok (.invokestatic 131, 3) := zdal_p dlD_M_local_71 (i := 15) rfl
theorem d_M_local_31 : decode (zb m_M_local) 31 = .ok (.ifCond .ne 7, 3) := zdal_p dlD_M_local_71 (i := 16) rfl
theorem d_M_local_34 : decode (zb m_M_local) 34 = .ok (.ldc_w 435, 3) := zdal_p dlD_M_local_71 (i := 17) rfl
theorem d_M_local_37 : decode (zb m_M_local) 37 = .ok (.ireturn, 1) := zdal_p dlD_M_local_71 (i := 18) rfl
theorem d_M_local_38 : decode (zb m_M_local) 38 = .ok (.aload_n 0, 1) := zdal_p dlD_M_local_71 (i := 19) rfl
theorem d_M_local_39 : decode (zb m_M_local) 39 = .ok (.iload_n 2, 1) := zdal_p dlD_M_local_71 (i := 20) rfl
theorem d_M_local_40 : decode (zb m_M_local) 40 = .ok (.iload_n 1, 1) := zdal_p dlD_M_local_71 (i := 21) rfl
theorem d_M_local_41 : decode (zb m_M_local) 41 = .ok (.invokevirtual 432, 3) := zdal_p dlD_M_local_71 (i := 22) rfl
theorem d_M_local_44 : decode (zb m_M_local) 44 = .ok (.istore 5, 2) := zdal_p dlD_M_local_71 (i := 23) rfl
theorem dlD_M_local_72 : zdal (zb m_M_local) [(46, (.lconst 0, 1)), (47, (.lstore 6, 2)), (49, (.lconst 1, 1)), (50, (.lstore 8, 2)), (52, (.iconst 0, 1)), (53, (.istore 10, 2)), (55, (.iload 10, 2)), (57, (.aload_n 0, 1)), (58, (.getfield 235, 3)), (61, (.if_icmp .ge 68, 3)), (64, (.iload 5, 2)), (66, (.iload 10, 2)), (68, (.invokestatic 213, 3)), (71, (.ifCond .ne 6, 3)), (74, (.goto 49, 3)), (77, (.aload_n 0, 1)), (78, (.iload 10, 2)), (80, (.invokevirtual 450, 3)), (83, (.aload_n 0, 1)), (84, (.lload 6, 2)), (86, (.putfield 436, 3)), (89, (.aload_n 0, 1)), (90, (.lload 8, 2)), (92, (.putfield 439, 3))] = true := zDs 46 (by decide +kernel)
theorem d_M_local_46 : decode (zb m_M_local) 46 = .ok (.lconst 0, 1) := zdal_p dlD_M_local_72 (i := 0) rfl
theorem d_M_local_47 : decode (zb m_M_local) 47 = .ok (.lstore 6, 2) := zdal_p dlD_M_local_72 (i := 1) rfl
theorem d_M_local_49 : decode (zb m_M_local) 49 = .ok (.lconst 1, 1) := zdal_p dlD_M_local_72 (i := 2) rfl
theorem d_M_local_50 : decode (zb m_M_local) 50 = .ok (.lstore 8, 2) := zdal_p dlD_M_local_72 (i := 3) rfl
theorem d_M_local_52 : decode (zb m_M_local) 52 = .ok (.iconst 0, 1) := zdal_p dlD_M_local_72 (i := 4) rfl
theorem d_M_local_53 : decode (zb m_M_local) 53 = .ok (.istore 10, 2) := zdal_p dlD_M_local_72 (i := 5) rfl
theorem d_M_local_55 : decode (zb m_M_local) 55 = .ok (.iload 10, 2) := zdal_p dlD_M_local_72 (i := 6) rfl
theorem d_M_local_57 : decode (zb m_M_local) 57 = .ok (.aload_n 0, 1) := zdal_p dlD_M_local_72 (i := 7) rfl
theorem d_M_local_58 : decode (zb m_M_local) 58 = .ok (.getfield 235, 3) := zdal_p dlD_M_local_72 (i := 8) rfl
theorem d_M_local_61 : decode (zb m_M_local) 61 = .ok (.if_icmp .ge 68, 3) := zdal_p dlD_M_local_72 (i := 9) rfl
theorem d_M_local_64 : decode (zb m_M_local) 64 = .ok (.iload 5, 2) := zdal_p dlD_M_local_72 (i := 10) rfl
theorem d_M_local_66 : decode (zb m_M_local) 66 = .ok (.iload 10, 2) := zdal_p dlD_M_local_72 (i := 11) rfl
theorem d_M_local_68 : decode (zb m_M_local) 68 = .ok (.invokestatic 213, 3) := zdal_p dlD_M_local_72 (i := 12) rfl
theorem d_M_local_71 : decode (zb m_M_local) 71 = .ok (.ifCond .ne 6, 3) := zdal_p dlD_M_local_72 (i := 13) rfl
theorem d_M_local_74 : decode (zb m_M_local) 74 = .ok (.goto 49, 3) := zdal_p dlD_M_local_72 (i := 14) rfl
theorem d_M_local_77 : decode (zb m_M_local) 77 = .ok (.aload_n 0, 1) := zdal_p dlD_M_local_72 (i := 15) rfl
theorem d_M_local_78 : decode (zb m_M_local) 78 = .ok (.iload 10, 2) := zdal_p dlD_M_local_72 (i := 16) rfl
theorem d_M_local_80 : decode (zb m_M_local) 80 = .ok (.invokevirtual 450, 3) := zdal_p dlD_M_local_72 (i := 17) rfl
theorem d_M_local_83 : decode (zb m_M_local) 83 = .ok (.aload_n 0, 1) := zdal_p dlD_M_local_72 (i := 18) rfl
theorem d_M_local_84 : decode (zb m_M_local) 84 = .ok (.lload 6, 2) := zdal_p dlD_M_local_72 (i := 19) rfl
theorem d_M_local_86 : decode (zb m_M_local) 86 = .ok (.putfield 436, 3) := zdal_p dlD_M_local_72 (i := 20) rfl
theorem d_M_local_89 : decode (zb m_M_local) 89 = .ok (.aload_n 0, 1) := zdal_p dlD_M_local_72 (i := 21) rfl
theorem d_M_local_90 : decode (zb m_M_local) 90 = .ok (.lload 8, 2) := zdal_p dlD_M_local_72 (i := 22) rfl
theorem d_M_local_92 : decode (zb m_M_local) 92 = .ok (.putfield 439, 3) := zdal_p dlD_M_local_72 (i := 23) rfl
theorem dlD_M_local_73 : zdal (zb m_M_local) [(95, (.aload_n 0, 1)), (96, (.aload_n 0, 1)), (97, (.getfield 93, 3)), (100, (.iload_n 3, 1)), (101, (.laload, 1)), (102, (.aload_n 0, 1)), (103, (.getfield 96, 3)), (106, (.iload_n 3, 1)), (107, (.laload, 1)), (108, (.invokevirtual 446, 3)), (111, (.aload_n 0, 1)), (112, (.getfield 436, 3)), (115, (.lstore 6, 2)), (117, (.aload_n 0, 1)), (118, (.getfield 439, 3)), (121, (.lstore 8, 2)), (123, (.iinc 10 1, 3)), (126, (.goto (-71), 3)), (129, (.iload 4, 2)), (131, (.ifCond .ne 8, 3)), (134, (.lload 6, 2)), (136, (.goto 5, 3)), (139, (.lload 8, 2)), (141, (.l2i, 1))] = true := zDs 95 (by decide +kernel)
theorem d_M_local_95 : decode (zb m_M_local) 95 = .ok (.aload_n 0, 1) := zdal_p dlD_M_local_73 (i := 0) rfl
theorem d_M_local_96 : decode (zb m_M_local) 96 = .ok (.aload_n 0, 1) := zdal_p dlD_M_local_73 (i := 1) rfl
theorem d_M_local_97 : decode (zb m_M_local) 97 = .ok (.getfield 93, 3) := zdal_p dlD_M_local_73 (i := 2) rfl
theorem d_M_local_100 : decode (zb m_M_local) 100 = .ok (.iload_n 3, 1) := zdal_p dlD_M_local_73 (i := 3) rfl
theorem d_M_local_101 : decode (zb m_M_local) 101 = .ok (.laload, 1) := zdal_p dlD_M_local_73 (i := 4) rfl
theorem d_M_local_102 : decode (zb m_M_local) 102 = .ok (.aload_n 0, 1) := zdal_p dlD_M_local_73 (i := 5) rfl
theorem d_M_local_103 : decode (zb m_M_local) 103 = .ok (.getfield 96, 3) := zdal_p dlD_M_local_73 (i := 6) rfl
theorem d_M_local_106 : decode (zb m_M_local) 106 = .ok (.iload_n 3, 1) := zdal_p dlD_M_local_73 (i := 7) rfl
theorem d_M_local_107 : decode (zb m_M_local) 107 = .ok (.laload, 1) := zdal_p dlD_M_local_73 (i := 8) rfl
theorem d_M_local_108 : decode (zb m_M_local) 108 = .ok (.invokevirtual 446, 3) := zdal_p dlD_M_local_73 (i := 9) rfl
theorem d_M_local_111 : decode (zb m_M_local) 111 = .ok (.aload_n 0, 1) := zdal_p dlD_M_local_73 (i := 10) rfl
theorem d_M_local_112 : decode (zb m_M_local) 112 = .ok (.getfield 436, 3) := zdal_p dlD_M_local_73 (i := 11) rfl
theorem d_M_local_115 : decode (zb m_M_local) 115 = .ok (.lstore 6, 2) := zdal_p dlD_M_local_73 (i := 12) rfl
theorem d_M_local_117 : decode (zb m_M_local) 117 = .ok (.aload_n 0, 1) := zdal_p dlD_M_local_73 (i := 13) rfl
theorem d_M_local_118 : decode (zb m_M_local) 118 = .ok (.getfield 439, 3) := zdal_p dlD_M_local_73 (i := 14) rfl
theorem d_M_local_121 : decode (zb m_M_local) 121 = .ok (.lstore 8, 2) := zdal_p dlD_M_local_73 (i := 15) rfl
theorem d_M_local_123 : decode (zb m_M_local) 123 = .ok (.iinc 10 1, 3) := zdal_p dlD_M_local_73 (i := 16) rfl
theorem d_M_local_126 : decode (zb m_M_local) 126 = .ok (.goto (-71), 3) := zdal_p dlD_M_local_73 (i := 17) rfl
theorem d_M_local_129 : decode (zb m_M_local) 129 = .ok (.iload 4, 2) := zdal_p dlD_M_local_73 (i := 18) rfl
theorem d_M_local_131 : decode (zb m_M_local) 131 = .ok (.ifCond .ne 8, 3) := zdal_p dlD_M_local_73 (i := 19) rfl
theorem d_M_local_134 : decode (zb m_M_local) 134 = .ok (.lload 6, 2) := zdal_p dlD_M_local_73 (i := 20) rfl
theorem d_M_local_136 : decode (zb m_M_local) 136 = .ok (.goto 5, 3) := zdal_p dlD_M_local_73 (i := 21) rfl
theorem d_M_local_139 : decode (zb m_M_local) 139 = .ok (.lload 8, 2) := zdal_p dlD_M_local_73 (i := 22) rfl
theorem d_M_local_141 : decode (zb m_M_local) 141 = .ok (.l2i, 1) := zdal_p dlD_M_local_73 (i := 23) rfl
theorem dlD_M_local_74 : zdal (zb m_M_local) [(142, (.ireturn, 1))] = true := zDs 142 (by decide +kernel)
theorem d_M_local_142 : decode (zb m_M_local) 142 = .ok (.ireturn, 1) := zdal_p dlD_M_local_74 (i := 0) rfl
theorem dlD_M_units_75 : zdal (zb m_M_units) [(0, (.aload_n 0, 1)), (1, (.invokevirtual 465, 3)), (4, (.aload_n 0, 1)), (5, (.getfield 459, 3)), (8, (.ireturn, 1))] = true := zDs 0 (by decide +kernel)
theorem d_M_units_0 : decode (zb m_M_units) 0 = .ok (.aload_n 0, 1) := zdal_p dlD_M_units_75 (i := 0) rfl
theorem d_M_units_1 : decode (zb m_M_units) 1 = .ok (.invokevirtual 465, 3) := zdal_p dlD_M_units_75 (i := 1) rfl
theorem d_M_units_4 : decode (zb m_M_units) 4 = .ok (.aload_n 0, 1) := zdal_p dlD_M_units_75 (i := 2) rfl
theorem d_M_units_5 : decode (zb m_M_units) 5 = .ok (.getfield 459, 3) := zdal_p dlD_M_units_75 (i := 3) rfl
theorem d_M_units_8 : decode (zb m_M_units) 8 = .ok (.ireturn, 1) := zdal_p dlD_M_units_75 (i := 4) rfl
theorem dlD_M_laysUnits_76 : zdal (zb m_M_laysUnits) [(0, (.aload_n 0, 1)), (1, (.getfield 394, 3)), (4, (.ifCond .eq 4, 3)), (7, (.return_, 1)), (8, (.aload_n 0, 1)), (9, (.iconst 1, 1)), (10, (.putfield 394, 3)), (13, (.aload_n 0, 1)), (14, (.iconst 1, 1)), (15, (.putfield 459, 3)), (18, (.aload_n 0, 1)), (19, (.getfield 103, 3)), (22, (.iconst 0, 1)), (23, (.iconst 0, 1)), (24, (.iastore, 1)), (25, (.aload_n 0, 1)), (26, (.getfield 235, 3)), (29, (.iconst 1, 1)), (30, (.isub, 1)), (31, (.istore_n 1, 1)), (32, (.iload_n 1, 1)), (33, (.ifCond .lt 182, 3)), (36, (.aload_n 0, 1)), (37, (.iload_n 1, 1))] = true := zDs 0 (by decide +kernel)
theorem d_M_laysUnits_0 : decode (zb m_M_laysUnits) 0 = .ok (.aload_n 0, 1) := zdal_p dlD_M_laysUnits_76 (i := 0) rfl
theorem d_M_laysUnits_1 : decode (zb m_M_laysUnits) 1 = .ok (.getfield 394, 3) := zdal_p dlD_M_laysUnits_76 (i := 1) rfl
theorem d_M_laysUnits_4 : decode (zb m_M_laysUnits) 4 = .ok (.ifCond .eq 4, 3) := zdal_p dlD_M_laysUnits_76 (i := 2) rfl
theorem d_M_laysUnits_7 : decode (zb m_M_laysUnits) 7 = .ok (.return_, 1) := zdal_p dlD_M_laysUnits_76 (i := 3) rfl
theorem d_M_laysUnits_8 : decode (zb m_M_laysUnits) 8 = .ok (.aload_n 0, 1) := zdal_p dlD_M_laysUnits_76 (i := 4) rfl
theorem d_M_laysUnits_9 : decode (zb m_M_laysUnits) 9 = .ok (.iconst 1, 1) := zdal_p dlD_M_laysUnits_76 (i := 5) rfl
theorem d_M_laysUnits_10 : decode (zb m_M_laysUnits) 10 = .ok (.putfield 394, 3) := zdal_p dlD_M_laysUnits_76 (i := 6) rfl
theorem d_M_laysUnits_13 : decode (zb m_M_laysUnits) 13 = .ok (.aload_n 0, 1) := zdal_p dlD_M_laysUnits_76 (i := 7) rfl
theorem d_M_laysUnits_14 : decode (zb m_M_laysUnits) 14 = .ok (.iconst 1, 1) := zdal_p dlD_M_laysUnits_76 (i := 8) rfl
theorem d_M_laysUnits_15 : decode (zb m_M_laysUnits) 15 = .ok (.putfield 459, 3) := zdal_p dlD_M_laysUnits_76 (i := 9) rfl
theorem d_M_laysUnits_18 : decode (zb m_M_laysUnits) 18 = .ok (.aload_n 0, 1) := zdal_p dlD_M_laysUnits_76 (i := 10) rfl
theorem d_M_laysUnits_19 : decode (zb m_M_laysUnits) 19 = .ok (.getfield 103, 3) := zdal_p dlD_M_laysUnits_76 (i := 11) rfl
theorem d_M_laysUnits_22 : decode (zb m_M_laysUnits) 22 = .ok (.iconst 0, 1) := zdal_p dlD_M_laysUnits_76 (i := 12) rfl
theorem d_M_laysUnits_23 : decode (zb m_M_laysUnits) 23 = .ok (.iconst 0, 1) := zdal_p dlD_M_laysUnits_76 (i := 13) rfl
theorem d_M_laysUnits_24 : decode (zb m_M_laysUnits) 24 = .ok (.iastore, 1) := zdal_p dlD_M_laysUnits_76 (i := 14) rfl
theorem d_M_laysUnits_25 : decode (zb m_M_laysUnits) 25 = .ok (.aload_n 0, 1) := zdal_p dlD_M_laysUnits_76 (i := 15) rfl
theorem d_M_laysUnits_26 : decode (zb m_M_laysUnits) 26 = .ok (.getfield 235, 3) := zdal_p dlD_M_laysUnits_76 (i := 16) rfl
theorem d_M_laysUnits_29 : decode (zb m_M_laysUnits) 29 = .ok (.iconst 1, 1) := zdal_p dlD_M_laysUnits_76 (i := 17) rfl
theorem d_M_laysUnits_30 : decode (zb m_M_laysUnits) 30 = .ok (.isub, 1) := zdal_p dlD_M_laysUnits_76 (i := 18) rfl
theorem d_M_laysUnits_31 : decode (zb m_M_laysUnits) 31 = .ok (.istore_n 1, 1) := zdal_p dlD_M_laysUnits_76 (i := 19) rfl
theorem d_M_laysUnits_32 : decode (zb m_M_laysUnits) 32 = .ok (.iload_n 1, 1) := zdal_p dlD_M_laysUnits_76 (i := 20) rfl
theorem d_M_laysUnits_33 : decode (zb m_M_laysUnits) 33 = .ok (.ifCond .lt 182, 3) := zdal_p dlD_M_laysUnits_76 (i := 21) rfl
theorem d_M_laysUnits_36 : decode (zb m_M_laysUnits) 36 = .ok (.aload_n 0, 1) := zdal_p dlD_M_laysUnits_76 (i := 22) rfl
theorem d_M_laysUnits_37 : decode (zb m_M_laysUnits) 37 = .ok (.iload_n 1, 1) := zdal_p dlD_M_laysUnits_76 (i := 23) rfl
theorem dlD_M_laysUnits_77 : zdal (zb m_M_laysUnits) [(38, (.invokevirtual 456, 3)), (41, (.iconst 1, 1)), (42, (.aload_n 0, 1)), (43, (.getfield 235, 3)), (46, (.iconst 1, 1)), (47, (.isub, 1)), (48, (.iload_n 1, 1)), (49, (.isub, 1)), (50, (.ishl, 1)), (51, (.istore_n 2, 1)), (52, (.iconst 0, 1)), (53, (.istore_n 3, 1)), (54, (.aload_n 0, 1)), (55, (.getfield 459, 3)), (58, (.istore 4, 2)), (60, (.iconst 0, 1)), (61, (.istore 5, 2)), (63, (.iload 5, 2)), (65, (.aload_n 0, 1)), (66, (.getfield 459, 3)), (69, (.if_icmp .ge 48, 3)), (72, (.aload_n 0, 1)), (73, (.aload_n 0, 1)), (74, (.getfield 103, 3))] = true := zDs 38 (by decide +kernel)
theorem d_M_laysUnits_38 : decode (zb m_M_laysUnits) 38 = .ok (.invokevirtual 456, 3) := zdal_p dlD_M_laysUnits_77 (i := 0) rfl
theorem d_M_laysUnits_41 : decode (zb m_M_laysUnits) 41 = .ok (.iconst 1, 1) := zdal_p dlD_M_laysUnits_77 (i := 1) rfl
theorem d_M_laysUnits_42 : decode (zb m_M_laysUnits) 42 = .ok (.aload_n 0, 1) := zdal_p dlD_M_laysUnits_77 (i := 2) rfl
theorem d_M_laysUnits_43 : decode (zb m_M_laysUnits) 43 = .ok (.getfield 235, 3) := zdal_p dlD_M_laysUnits_77 (i := 3) rfl
theorem d_M_laysUnits_46 : decode (zb m_M_laysUnits) 46 = .ok (.iconst 1, 1) := zdal_p dlD_M_laysUnits_77 (i := 4) rfl
theorem d_M_laysUnits_47 : decode (zb m_M_laysUnits) 47 = .ok (.isub, 1) := zdal_p dlD_M_laysUnits_77 (i := 5) rfl
theorem d_M_laysUnits_48 : decode (zb m_M_laysUnits) 48 = .ok (.iload_n 1, 1) := zdal_p dlD_M_laysUnits_77 (i := 6) rfl
theorem d_M_laysUnits_49 : decode (zb m_M_laysUnits) 49 = .ok (.isub, 1) := zdal_p dlD_M_laysUnits_77 (i := 7) rfl
theorem d_M_laysUnits_50 : decode (zb m_M_laysUnits) 50 = .ok (.ishl, 1) := zdal_p dlD_M_laysUnits_77 (i := 8) rfl
theorem d_M_laysUnits_51 : decode (zb m_M_laysUnits) 51 = .ok (.istore_n 2, 1) := zdal_p dlD_M_laysUnits_77 (i := 9) rfl
theorem d_M_laysUnits_52 : decode (zb m_M_laysUnits) 52 = .ok (.iconst 0, 1) := zdal_p dlD_M_laysUnits_77 (i := 10) rfl
theorem d_M_laysUnits_53 : decode (zb m_M_laysUnits) 53 = .ok (.istore_n 3, 1) := zdal_p dlD_M_laysUnits_77 (i := 11) rfl
theorem d_M_laysUnits_54 : decode (zb m_M_laysUnits) 54 = .ok (.aload_n 0, 1) := zdal_p dlD_M_laysUnits_77 (i := 12) rfl
theorem d_M_laysUnits_55 : decode (zb m_M_laysUnits) 55 = .ok (.getfield 459, 3) := zdal_p dlD_M_laysUnits_77 (i := 13) rfl
theorem d_M_laysUnits_58 : decode (zb m_M_laysUnits) 58 = .ok (.istore 4, 2) := zdal_p dlD_M_laysUnits_77 (i := 14) rfl
theorem d_M_laysUnits_60 : decode (zb m_M_laysUnits) 60 = .ok (.iconst 0, 1) := zdal_p dlD_M_laysUnits_77 (i := 15) rfl
theorem d_M_laysUnits_61 : decode (zb m_M_laysUnits) 61 = .ok (.istore 5, 2) := zdal_p dlD_M_laysUnits_77 (i := 16) rfl
theorem d_M_laysUnits_63 : decode (zb m_M_laysUnits) 63 = .ok (.iload 5, 2) := zdal_p dlD_M_laysUnits_77 (i := 17) rfl
theorem d_M_laysUnits_65 : decode (zb m_M_laysUnits) 65 = .ok (.aload_n 0, 1) := zdal_p dlD_M_laysUnits_77 (i := 18) rfl
theorem d_M_laysUnits_66 : decode (zb m_M_laysUnits) 66 = .ok (.getfield 459, 3) := zdal_p dlD_M_laysUnits_77 (i := 19) rfl
theorem d_M_laysUnits_69 : decode (zb m_M_laysUnits) 69 = .ok (.if_icmp .ge 48, 3) := zdal_p dlD_M_laysUnits_77 (i := 20) rfl
theorem d_M_laysUnits_72 : decode (zb m_M_laysUnits) 72 = .ok (.aload_n 0, 1) := zdal_p dlD_M_laysUnits_77 (i := 21) rfl
theorem d_M_laysUnits_73 : decode (zb m_M_laysUnits) 73 = .ok (.aload_n 0, 1) := zdal_p dlD_M_laysUnits_77 (i := 22) rfl
theorem d_M_laysUnits_74 : decode (zb m_M_laysUnits) 74 = .ok (.getfield 103, 3) := zdal_p dlD_M_laysUnits_77 (i := 23) rfl
theorem dlD_M_laysUnits_78 : zdal (zb m_M_laysUnits) [(77, (.iload 5, 2)), (79, (.iaload, 1)), (80, (.iload_n 2, 1)), (81, (.ior, 1)), (82, (.iload_n 1, 1)), (83, (.invokevirtual 462, 3)), (86, (.ifCond .ne 6, 3)), (89, (.goto 22, 3)), (92, (.aload_n 0, 1)), (93, (.getfield 103, 3)), (96, (.iload 4, 2)), (98, (.aload_n 0, 1)), (99, (.getfield 103, 3)), (102, (.iload 5, 2)), (104, (.iaload, 1)), (105, (.iload_n 2, 1)), (106, (.ior, 1)), (107, (.iastore, 1)), (108, (.iinc 4 1, 3)), (111, (.iinc 5 1, 3)), (114, (.goto (-51), 3)), (117, (.iconst 0, 1)), (118, (.istore 5, 2)), (120, (.iload 5, 2))] = true := zDs 77 (by decide +kernel)
theorem d_M_laysUnits_77 : decode (zb m_M_laysUnits) 77 = .ok (.iload 5, 2) := zdal_p dlD_M_laysUnits_78 (i := 0) rfl
theorem d_M_laysUnits_79 : decode (zb m_M_laysUnits) 79 = .ok (.iaload, 1) := zdal_p dlD_M_laysUnits_78 (i := 1) rfl
theorem d_M_laysUnits_80 : decode (zb m_M_laysUnits) 80 = .ok (.iload_n 2, 1) := zdal_p dlD_M_laysUnits_78 (i := 2) rfl
theorem d_M_laysUnits_81 : decode (zb m_M_laysUnits) 81 = .ok (.ior, 1) := zdal_p dlD_M_laysUnits_78 (i := 3) rfl
theorem d_M_laysUnits_82 : decode (zb m_M_laysUnits) 82 = .ok (.iload_n 1, 1) := zdal_p dlD_M_laysUnits_78 (i := 4) rfl
theorem d_M_laysUnits_83 : decode (zb m_M_laysUnits) 83 = .ok (.invokevirtual 462, 3) := zdal_p dlD_M_laysUnits_78 (i := 5) rfl
theorem d_M_laysUnits_86 : decode (zb m_M_laysUnits) 86 = .ok (.ifCond .ne 6, 3) := zdal_p dlD_M_laysUnits_78 (i := 6) rfl
theorem d_M_laysUnits_89 : decode (zb m_M_laysUnits) 89 = .ok (.goto 22, 3) := zdal_p dlD_M_laysUnits_78 (i := 7) rfl
theorem d_M_laysUnits_92 : decode (zb m_M_laysUnits) 92 = .ok (.aload_n 0, 1) := zdal_p dlD_M_laysUnits_78 (i := 8) rfl
theorem d_M_laysUnits_93 : decode (zb m_M_laysUnits) 93 = .ok (.getfield 103, 3) := zdal_p dlD_M_laysUnits_78 (i := 9) rfl
theorem d_M_laysUnits_96 : decode (zb m_M_laysUnits) 96 = .ok (.iload 4, 2) := zdal_p dlD_M_laysUnits_78 (i := 10) rfl
theorem d_M_laysUnits_98 : decode (zb m_M_laysUnits) 98 = .ok (.aload_n 0, 1) := zdal_p dlD_M_laysUnits_78 (i := 11) rfl
theorem d_M_laysUnits_99 : decode (zb m_M_laysUnits) 99 = .ok (.getfield 103, 3) := zdal_p dlD_M_laysUnits_78 (i := 12) rfl
theorem d_M_laysUnits_102 : decode (zb m_M_laysUnits) 102 = .ok (.iload 5, 2) := zdal_p dlD_M_laysUnits_78 (i := 13) rfl
theorem d_M_laysUnits_104 : decode (zb m_M_laysUnits) 104 = .ok (.iaload, 1) := zdal_p dlD_M_laysUnits_78 (i := 14) rfl
theorem d_M_laysUnits_105 : decode (zb m_M_laysUnits) 105 = .ok (.iload_n 2, 1) := zdal_p dlD_M_laysUnits_78 (i := 15) rfl
theorem d_M_laysUnits_106 : decode (zb m_M_laysUnits) 106 = .ok (.ior, 1) := zdal_p dlD_M_laysUnits_78 (i := 16) rfl
theorem d_M_laysUnits_107 : decode (zb m_M_laysUnits) 107 = .ok (.iastore, 1) := zdal_p dlD_M_laysUnits_78 (i := 17) rfl
theorem d_M_laysUnits_108 : decode (zb m_M_laysUnits) 108 = .ok (.iinc 4 1, 3) := zdal_p dlD_M_laysUnits_78 (i := 18) rfl
theorem d_M_laysUnits_111 : decode (zb m_M_laysUnits) 111 = .ok (.iinc 5 1, 3) := zdal_p dlD_M_laysUnits_78 (i := 19) rfl
theorem d_M_laysUnits_114 : decode (zb m_M_laysUnits) 114 = .ok (.goto (-51), 3) := zdal_p dlD_M_laysUnits_78 (i := 20) rfl
theorem d_M_laysUnits_117 : decode (zb m_M_laysUnits) 117 = .ok (.iconst 0, 1) := zdal_p dlD_M_laysUnits_78 (i := 21) rfl
theorem d_M_laysUnits_118 : decode (zb m_M_laysUnits) 118 = .ok (.istore 5, 2) := zdal_p dlD_M_laysUnits_78 (i := 22) rfl
theorem d_M_laysUnits_120 : decode (zb m_M_laysUnits) 120 = .ok (.iload 5, 2) := zdal_p dlD_M_laysUnits_78 (i := 23) rfl
theorem dlD_M_laysUnits_79 : zdal (zb m_M_laysUnits) [(122, (.aload_n 0, 1)), (123, (.getfield 459, 3)), (126, (.if_icmp .ge 43, 3)), (129, (.aload_n 0, 1)), (130, (.aload_n 0, 1)), (131, (.getfield 103, 3)), (134, (.iload 5, 2)), (136, (.iaload, 1)), (137, (.iload_n 1, 1)), (138, (.invokevirtual 462, 3)), (141, (.ifCond .ne 6, 3)), (144, (.goto 19, 3)), (147, (.aload_n 0, 1)), (148, (.getfield 103, 3)), (151, (.iload_n 3, 1)), (152, (.aload_n 0, 1)), (153, (.getfield 103, 3)), (156, (.iload 5, 2)), (158, (.iaload, 1)), (159, (.iastore, 1)), (160, (.iinc 3 1, 3)), (163, (.iinc 5 1, 3)), (166, (.goto (-46), 3)), (169, (.aload_n 0, 1))] = true := zDs 122 (by decide +kernel)
theorem d_M_laysUnits_122 : decode (zb m_M_laysUnits) 122 = .ok (.aload_n 0, 1) := zdal_p dlD_M_laysUnits_79 (i := 0) rfl
theorem d_M_laysUnits_123 : decode (zb m_M_laysUnits) 123 = .ok (.getfield 459, 3) := zdal_p dlD_M_laysUnits_79 (i := 1) rfl
theorem d_M_laysUnits_126 : decode (zb m_M_laysUnits) 126 = .ok (.if_icmp .ge 43, 3) := zdal_p dlD_M_laysUnits_79 (i := 2) rfl
theorem d_M_laysUnits_129 : decode (zb m_M_laysUnits) 129 = .ok (.aload_n 0, 1) := zdal_p dlD_M_laysUnits_79 (i := 3) rfl
theorem d_M_laysUnits_130 : decode (zb m_M_laysUnits) 130 = .ok (.aload_n 0, 1) := zdal_p dlD_M_laysUnits_79 (i := 4) rfl
theorem d_M_laysUnits_131 : decode (zb m_M_laysUnits) 131 = .ok (.getfield 103, 3) := zdal_p dlD_M_laysUnits_79 (i := 5) rfl
theorem d_M_laysUnits_134 : decode (zb m_M_laysUnits) 134 = .ok (.iload 5, 2) := zdal_p dlD_M_laysUnits_79 (i := 6) rfl
theorem d_M_laysUnits_136 : decode (zb m_M_laysUnits) 136 = .ok (.iaload, 1) := zdal_p dlD_M_laysUnits_79 (i := 7) rfl
theorem d_M_laysUnits_137 : decode (zb m_M_laysUnits) 137 = .ok (.iload_n 1, 1) := zdal_p dlD_M_laysUnits_79 (i := 8) rfl
theorem d_M_laysUnits_138 : decode (zb m_M_laysUnits) 138 = .ok (.invokevirtual 462, 3) := zdal_p dlD_M_laysUnits_79 (i := 9) rfl
theorem d_M_laysUnits_141 : decode (zb m_M_laysUnits) 141 = .ok (.ifCond .ne 6, 3) := zdal_p dlD_M_laysUnits_79 (i := 10) rfl
theorem d_M_laysUnits_144 : decode (zb m_M_laysUnits) 144 = .ok (.goto 19, 3) := zdal_p dlD_M_laysUnits_79 (i := 11) rfl
theorem d_M_laysUnits_147 : decode (zb m_M_laysUnits) 147 = .ok (.aload_n 0, 1) := zdal_p dlD_M_laysUnits_79 (i := 12) rfl
theorem d_M_laysUnits_148 : decode (zb m_M_laysUnits) 148 = .ok (.getfield 103, 3) := zdal_p dlD_M_laysUnits_79 (i := 13) rfl
theorem d_M_laysUnits_151 : decode (zb m_M_laysUnits) 151 = .ok (.iload_n 3, 1) := zdal_p dlD_M_laysUnits_79 (i := 14) rfl
theorem d_M_laysUnits_152 : decode (zb m_M_laysUnits) 152 = .ok (.aload_n 0, 1) := zdal_p dlD_M_laysUnits_79 (i := 15) rfl
theorem d_M_laysUnits_153 : decode (zb m_M_laysUnits) 153 = .ok (.getfield 103, 3) := zdal_p dlD_M_laysUnits_79 (i := 16) rfl
theorem d_M_laysUnits_156 : decode (zb m_M_laysUnits) 156 = .ok (.iload 5, 2) := zdal_p dlD_M_laysUnits_79 (i := 17) rfl
theorem d_M_laysUnits_158 : decode (zb m_M_laysUnits) 158 = .ok (.iaload, 1) := zdal_p dlD_M_laysUnits_79 (i := 18) rfl
theorem d_M_laysUnits_159 : decode (zb m_M_laysUnits) 159 = .ok (.iastore, 1) := zdal_p dlD_M_laysUnits_79 (i := 19) rfl
theorem d_M_laysUnits_160 : decode (zb m_M_laysUnits) 160 = .ok (.iinc 3 1, 3) := zdal_p dlD_M_laysUnits_79 (i := 20) rfl
theorem d_M_laysUnits_163 : decode (zb m_M_laysUnits) 163 = .ok (.iinc 5 1, 3) := zdal_p dlD_M_laysUnits_79 (i := 21) rfl
theorem d_M_laysUnits_166 : decode (zb m_M_laysUnits) 166 = .ok (.goto (-46), 3) := zdal_p dlD_M_laysUnits_79 (i := 22) rfl
theorem d_M_laysUnits_169 : decode (zb m_M_laysUnits) 169 = .ok (.aload_n 0, 1) := zdal_p dlD_M_laysUnits_79 (i := 23) rfl
theorem dlD_M_laysUnits_80 : zdal (zb m_M_laysUnits) [(170, (.getfield 459, 3)), (173, (.istore 5, 2)), (175, (.iload 5, 2)), (177, (.iload 4, 2)), (179, (.if_icmp .ge 25, 3)), (182, (.aload_n 0, 1)), (183, (.getfield 103, 3)), (186, (.iload_n 3, 1)), (187, (.aload_n 0, 1)), (188, (.getfield 103, 3)), (191, (.iload 5, 2)), (193, (.iaload, 1)), (194, (.iastore, 1)), (195, (.iinc 3 1, 3)), (198, (.iinc 5 1, 3)), (201, (.goto (-26), 3)), (204, (.aload_n 0, 1)), (205, (.iload_n 3, 1)), (206, (.putfield 459, 3)), (209, (.iinc 1 (-1), 3)), (212, (.goto (-180), 3)), (215, (.return_, 1))] = true := zDs 170 (by decide +kernel)
theorem d_M_laysUnits_170 : decode (zb m_M_laysUnits) 170 = .ok (.getfield 459, 3) := zdal_p dlD_M_laysUnits_80 (i := 0) rfl
theorem d_M_laysUnits_173 : decode (zb m_M_laysUnits) 173 = .ok (.istore 5, 2) := zdal_p dlD_M_laysUnits_80 (i := 1) rfl
theorem d_M_laysUnits_175 : decode (zb m_M_laysUnits) 175 = .ok (.iload 5, 2) := zdal_p dlD_M_laysUnits_80 (i := 2) rfl
theorem d_M_laysUnits_177 : decode (zb m_M_laysUnits) 177 = .ok (.iload 4, 2) := zdal_p dlD_M_laysUnits_80 (i := 3) rfl
theorem d_M_laysUnits_179 : decode (zb m_M_laysUnits) 179 = .ok (.if_icmp .ge 25, 3) := zdal_p dlD_M_laysUnits_80 (i := 4) rfl
theorem d_M_laysUnits_182 : decode (zb m_M_laysUnits) 182 = .ok (.aload_n 0, 1) := zdal_p dlD_M_laysUnits_80 (i := 5) rfl
theorem d_M_laysUnits_183 : decode (zb m_M_laysUnits) 183 = .ok (.getfield 103, 3) := zdal_p dlD_M_laysUnits_80 (i := 6) rfl
theorem d_M_laysUnits_186 : decode (zb m_M_laysUnits) 186 = .ok (.iload_n 3, 1) := zdal_p dlD_M_laysUnits_80 (i := 7) rfl
theorem d_M_laysUnits_187 : decode (zb m_M_laysUnits) 187 = .ok (.aload_n 0, 1) := zdal_p dlD_M_laysUnits_80 (i := 8) rfl
theorem d_M_laysUnits_188 : decode (zb m_M_laysUnits) 188 = .ok (.getfield 103, 3) := zdal_p dlD_M_laysUnits_80 (i := 9) rfl
theorem d_M_laysUnits_191 : decode (zb m_M_laysUnits) 191 = .ok (.iload 5, 2) := zdal_p dlD_M_laysUnits_80 (i := 10) rfl
theorem d_M_laysUnits_193 : decode (zb m_M_laysUnits) 193 = .ok (.iaload, 1) := zdal_p dlD_M_laysUnits_80 (i := 11) rfl
theorem d_M_laysUnits_194 : decode (zb m_M_laysUnits) 194 = .ok (.iastore, 1) := zdal_p dlD_M_laysUnits_80 (i := 12) rfl
theorem d_M_laysUnits_195 : decode (zb m_M_laysUnits) 195 = .ok (.iinc 3 1, 3) := zdal_p dlD_M_laysUnits_80 (i := 13) rfl
theorem d_M_laysUnits_198 : decode (zb m_M_laysUnits) 198 = .ok (.iinc 5 1, 3) := zdal_p dlD_M_laysUnits_80 (i := 14) rfl
theorem d_M_laysUnits_201 : decode (zb m_M_laysUnits) 201 = .ok (.goto (-26), 3) := zdal_p dlD_M_laysUnits_80 (i := 15) rfl
theorem d_M_laysUnits_204 : decode (zb m_M_laysUnits) 204 = .ok (.aload_n 0, 1) := zdal_p dlD_M_laysUnits_80 (i := 16) rfl
theorem d_M_laysUnits_205 : decode (zb m_M_laysUnits) 205 = .ok (.iload_n 3, 1) := zdal_p dlD_M_laysUnits_80 (i := 17) rfl
theorem d_M_laysUnits_206 : decode (zb m_M_laysUnits) 206 = .ok (.putfield 459, 3) := zdal_p dlD_M_laysUnits_80 (i := 18) rfl
theorem d_M_laysUnits_209 : decode (zb m_M_laysUnits) 209 = .ok (.iinc 1 (-1), 3) := zdal_p dlD_M_laysUnits_80 (i := 19) rfl
theorem d_M_laysUnits_212 : decode (zb m_M_laysUnits) 212 = .ok (.goto (-180), 3) := zdal_p dlD_M_laysUnits_80 (i := 20) rfl
theorem d_M_laysUnits_215 : decode (zb m_M_laysUnits) 215 = .ok (.return_, 1) := zdal_p dlD_M_laysUnits_80 (i := 21) rfl
theorem dlD_M_laysMade_81 : zdal (zb m_M_laysMade) [(0, (.aload_n 0, 1)), (1, (.getfield 44, 3)), (4, (.iload_n 1, 1)), (5, (.iaload, 1)), (6, (.istore_n 2, 1)), (7, (.aload_n 0, 1)), (8, (.iload_n 2, 1)), (9, (.invokevirtual 417, 3)), (12, (.istore_n 3, 1)), (13, (.aload_n 0, 1)), (14, (.iconst 0, 1)), (15, (.putfield 453, 3)), (18, (.iconst 0, 1)), (19, (.istore 4, 2)), (21, (.iload 4, 2)), (23, (.aload_n 0, 1)), (24, (.getfield 196, 3)), (27, (.if_icmp .ge 66, 3)), (30, (.iload_n 3, 1)), (31, (.iload 4, 2)), (33, (.invokestatic 213, 3)), (36, (.ifCond .eq 51, 3)), (39, (.aload_n 0, 1)), (40, (.iload_n 2, 1))] = true := zDs 0 (by decide +kernel)
theorem d_M_laysMade_0 : decode (zb m_M_laysMade) 0 = .ok (.aload_n 0, 1) := zdal_p dlD_M_laysMade_81 (i := 0) rfl
theorem d_M_laysMade_1 : decode (zb m_M_laysMade) 1 = .ok (.getfield 44, 3) := zdal_p dlD_M_laysMade_81 (i := 1) rfl
theorem d_M_laysMade_4 : decode (zb m_M_laysMade) 4 = .ok (.iload_n 1, 1) := zdal_p dlD_M_laysMade_81 (i := 2) rfl
theorem d_M_laysMade_5 : decode (zb m_M_laysMade) 5 = .ok (.iaload, 1) := zdal_p dlD_M_laysMade_81 (i := 3) rfl
theorem d_M_laysMade_6 : decode (zb m_M_laysMade) 6 = .ok (.istore_n 2, 1) := zdal_p dlD_M_laysMade_81 (i := 4) rfl
theorem d_M_laysMade_7 : decode (zb m_M_laysMade) 7 = .ok (.aload_n 0, 1) := zdal_p dlD_M_laysMade_81 (i := 5) rfl
theorem d_M_laysMade_8 : decode (zb m_M_laysMade) 8 = .ok (.iload_n 2, 1) := zdal_p dlD_M_laysMade_81 (i := 6) rfl
theorem d_M_laysMade_9 : decode (zb m_M_laysMade) 9 = .ok (.invokevirtual 417, 3) := zdal_p dlD_M_laysMade_81 (i := 7) rfl
theorem d_M_laysMade_12 : decode (zb m_M_laysMade) 12 = .ok (.istore_n 3, 1) := zdal_p dlD_M_laysMade_81 (i := 8) rfl
theorem d_M_laysMade_13 : decode (zb m_M_laysMade) 13 = .ok (.aload_n 0, 1) := zdal_p dlD_M_laysMade_81 (i := 9) rfl
theorem d_M_laysMade_14 : decode (zb m_M_laysMade) 14 = .ok (.iconst 0, 1) := zdal_p dlD_M_laysMade_81 (i := 10) rfl
theorem d_M_laysMade_15 : decode (zb m_M_laysMade) 15 = .ok (.putfield 453, 3) := zdal_p dlD_M_laysMade_81 (i := 11) rfl
theorem d_M_laysMade_18 : decode (zb m_M_laysMade) 18 = .ok (.iconst 0, 1) := zdal_p dlD_M_laysMade_81 (i := 12) rfl
theorem d_M_laysMade_19 : decode (zb m_M_laysMade) 19 = .ok (.istore 4, 2) := zdal_p dlD_M_laysMade_81 (i := 13) rfl
theorem d_M_laysMade_21 : decode (zb m_M_laysMade) 21 = .ok (.iload 4, 2) := zdal_p dlD_M_laysMade_81 (i := 14) rfl
theorem d_M_laysMade_23 : decode (zb m_M_laysMade) 23 = .ok (.aload_n 0, 1) := zdal_p dlD_M_laysMade_81 (i := 15) rfl
theorem d_M_laysMade_24 : decode (zb m_M_laysMade) 24 = .ok (.getfield 196, 3) := zdal_p dlD_M_laysMade_81 (i := 16) rfl
theorem d_M_laysMade_27 : decode (zb m_M_laysMade) 27 = .ok (.if_icmp .ge 66, 3) := zdal_p dlD_M_laysMade_81 (i := 17) rfl
theorem d_M_laysMade_30 : decode (zb m_M_laysMade) 30 = .ok (.iload_n 3, 1) := zdal_p dlD_M_laysMade_81 (i := 18) rfl
theorem d_M_laysMade_31 : decode (zb m_M_laysMade) 31 = .ok (.iload 4, 2) := zdal_p dlD_M_laysMade_81 (i := 19) rfl
theorem d_M_laysMade_33 : decode (zb m_M_laysMade) 33 = .ok (.invokestatic 213, 3) := zdal_p dlD_M_laysMade_81 (i := 20) rfl
theorem d_M_laysMade_36 : decode (zb m_M_laysMade) 36 = .ok (.ifCond .eq 51, 3) := zdal_p dlD_M_laysMade_81 (i := 21) rfl
theorem d_M_laysMade_39 : decode (zb m_M_laysMade) 39 = .ok (.aload_n 0, 1) := zdal_p dlD_M_laysMade_81 (i := 22) rfl
theorem d_M_laysMade_40 : decode (zb m_M_laysMade) 40 = .ok (.iload_n 2, 1) := zdal_p dlD_M_laysMade_81 (i := 23) rfl
theorem dlD_M_laysMade_82 : zdal (zb m_M_laysMade) [(41, (.iload 4, 2)), (43, (.invokevirtual 247, 3)), (46, (.iload 4, 2)), (48, (.if_icmp .eq 6, 3)), (51, (.goto 36, 3)), (54, (.aload_n 0, 1)), (55, (.getfield 99, 3)), (58, (.aload_n 0, 1)), (59, (.getfield 453, 3)), (62, (.aload_n 0, 1)), (63, (.aload_n 0, 1)), (64, (.iload_n 2, 1)), (65, (.iconst 1, 1)), (66, (.iload 4, 2)), (68, (.ishl, 1)), (69, (.ior, 1)), (70, (.invokevirtual 229, 3)), (73, (.invokevirtual 411, 3)), (76, (.iastore, 1)), (77, (.aload_n 0, 1)), (78, (.dup, 1)), (79, (.getfield 453, 3)), (82, (.iconst 1, 1)), (83, (.iadd, 1))] = true := zDs 41 (by decide +kernel)
theorem d_M_laysMade_41 : decode (zb m_M_laysMade) 41 = .ok (.iload 4, 2) := zdal_p dlD_M_laysMade_82 (i := 0) rfl
theorem d_M_laysMade_43 : decode (zb m_M_laysMade) 43 = .ok (.invokevirtual 247, 3) := zdal_p dlD_M_laysMade_82 (i := 1) rfl
theorem d_M_laysMade_46 : decode (zb m_M_laysMade) 46 = .ok (.iload 4, 2) := zdal_p dlD_M_laysMade_82 (i := 2) rfl
theorem d_M_laysMade_48 : decode (zb m_M_laysMade) 48 = .ok (.if_icmp .eq 6, 3) := zdal_p dlD_M_laysMade_82 (i := 3) rfl
theorem d_M_laysMade_51 : decode (zb m_M_laysMade) 51 = .ok (.goto 36, 3) := zdal_p dlD_M_laysMade_82 (i := 4) rfl
theorem d_M_laysMade_54 : decode (zb m_M_laysMade) 54 = .ok (.aload_n 0, 1) := zdal_p dlD_M_laysMade_82 (i := 5) rfl
theorem d_M_laysMade_55 : decode (zb m_M_laysMade) 55 = .ok (.getfield 99, 3) := zdal_p dlD_M_laysMade_82 (i := 6) rfl
theorem d_M_laysMade_58 : decode (zb m_M_laysMade) 58 = .ok (.aload_n 0, 1) := zdal_p dlD_M_laysMade_82 (i := 7) rfl
theorem d_M_laysMade_59 : decode (zb m_M_laysMade) 59 = .ok (.getfield 453, 3) := zdal_p dlD_M_laysMade_82 (i := 8) rfl
theorem d_M_laysMade_62 : decode (zb m_M_laysMade) 62 = .ok (.aload_n 0, 1) := zdal_p dlD_M_laysMade_82 (i := 9) rfl
theorem d_M_laysMade_63 : decode (zb m_M_laysMade) 63 = .ok (.aload_n 0, 1) := zdal_p dlD_M_laysMade_82 (i := 10) rfl
theorem d_M_laysMade_64 : decode (zb m_M_laysMade) 64 = .ok (.iload_n 2, 1) := zdal_p dlD_M_laysMade_82 (i := 11) rfl
theorem d_M_laysMade_65 : decode (zb m_M_laysMade) 65 = .ok (.iconst 1, 1) := zdal_p dlD_M_laysMade_82 (i := 12) rfl
theorem d_M_laysMade_66 : decode (zb m_M_laysMade) 66 = .ok (.iload 4, 2) := zdal_p dlD_M_laysMade_82 (i := 13) rfl
theorem d_M_laysMade_68 : decode (zb m_M_laysMade) 68 = .ok (.ishl, 1) := zdal_p dlD_M_laysMade_82 (i := 14) rfl
theorem d_M_laysMade_69 : decode (zb m_M_laysMade) 69 = .ok (.ior, 1) := zdal_p dlD_M_laysMade_82 (i := 15) rfl
theorem d_M_laysMade_70 : decode (zb m_M_laysMade) 70 = .ok (.invokevirtual 229, 3) := zdal_p dlD_M_laysMade_82 (i := 16) rfl
theorem d_M_laysMade_73 : decode (zb m_M_laysMade) 73 = .ok (.invokevirtual 411, 3) := zdal_p dlD_M_laysMade_82 (i := 17) rfl
theorem d_M_laysMade_76 : decode (zb m_M_laysMade) 76 = .ok (.iastore, 1) := zdal_p dlD_M_laysMade_82 (i := 18) rfl
theorem d_M_laysMade_77 : decode (zb m_M_laysMade) 77 = .ok (.aload_n 0, 1) := zdal_p dlD_M_laysMade_82 (i := 19) rfl
theorem d_M_laysMade_78 : decode (zb m_M_laysMade) 78 = .ok (.dup, 1) := zdal_p dlD_M_laysMade_82 (i := 20) rfl
theorem d_M_laysMade_79 : decode (zb m_M_laysMade) 79 = .ok (.getfield 453, 3) := zdal_p dlD_M_laysMade_82 (i := 21) rfl
theorem d_M_laysMade_82 : decode (zb m_M_laysMade) 82 = .ok (.iconst 1, 1) := zdal_p dlD_M_laysMade_82 (i := 22) rfl
theorem d_M_laysMade_83 : decode (zb m_M_laysMade) 83 = .ok (.iadd, 1) := zdal_p dlD_M_laysMade_82 (i := 23) rfl
theorem dlD_M_laysMade_83 : zdal (zb m_M_laysMade) [(84, (.putfield 453, 3)), (87, (.iinc 4 1, 3)), (90, (.goto (-69), 3)), (93, (.return_, 1))] = true := zDs 84 (by decide +kernel)
theorem d_M_laysMade_84 : decode (zb m_M_laysMade) 84 = .ok (.putfield 453, 3) := zdal_p dlD_M_laysMade_83 (i := 0) rfl
theorem d_M_laysMade_87 : decode (zb m_M_laysMade) 87 = .ok (.iinc 4 1, 3) := zdal_p dlD_M_laysMade_83 (i := 1) rfl
theorem d_M_laysMade_90 : decode (zb m_M_laysMade) 90 = .ok (.goto (-69), 3) := zdal_p dlD_M_laysMade_83 (i := 2) rfl
theorem d_M_laysMade_93 : decode (zb m_M_laysMade) 93 = .ok (.return_, 1) := zdal_p dlD_M_laysMade_83 (i := 3) rfl
theorem dlD_M_isUnitAt_84 : zdal (zb m_M_isUnitAt) [(0, (.iconst 0, 1)), (1, (.istore_n 3, 1)), (2, (.iconst 0, 1)), (3, (.istore 4, 2)), (5, (.iload 4, 2)), (7, (.aload_n 0, 1)), (8, (.getfield 453, 3)), (11, (.if_icmp .ge 38, 3)), (14, (.iload_n 3, 1)), (15, (.iload_n 1, 1)), (16, (.aload_n 0, 1)), (17, (.getfield 235, 3)), (20, (.iconst 1, 1)), (21, (.isub, 1)), (22, (.aload_n 0, 1)), (23, (.getfield 99, 3)), (26, (.iload 4, 2)), (28, (.iaload, 1)), (29, (.isub, 1)), (30, (.invokestatic 213, 3)), (33, (.ifCond .eq 7, 3)), (36, (.iconst (-1), 1)), (37, (.goto 4, 3)), (40, (.iconst 1, 1))] = true := zDs 0 (by decide +kernel)
theorem d_M_isUnitAt_0 : decode (zb m_M_isUnitAt) 0 = .ok (.iconst 0, 1) := zdal_p dlD_M_isUnitAt_84 (i := 0) rfl
theorem d_M_isUnitAt_1 : decode (zb m_M_isUnitAt) 1 = .ok (.istore_n 3, 1) := zdal_p dlD_M_isUnitAt_84 (i := 1) rfl
theorem d_M_isUnitAt_2 : decode (zb m_M_isUnitAt) 2 = .ok (.iconst 0, 1) := zdal_p dlD_M_isUnitAt_84 (i := 2) rfl
theorem d_M_isUnitAt_3 : decode (zb m_M_isUnitAt) 3 = .ok (.istore 4, 2) := zdal_p dlD_M_isUnitAt_84 (i := 3) rfl
theorem d_M_isUnitAt_5 : decode (zb m_M_isUnitAt) 5 = .ok (.iload 4, 2) := zdal_p dlD_M_isUnitAt_84 (i := 4) rfl
theorem d_M_isUnitAt_7 : decode (zb m_M_isUnitAt) 7 = .ok (.aload_n 0, 1) := zdal_p dlD_M_isUnitAt_84 (i := 5) rfl
theorem d_M_isUnitAt_8 : decode (zb m_M_isUnitAt) 8 = .ok (.getfield 453, 3) := zdal_p dlD_M_isUnitAt_84 (i := 6) rfl
theorem d_M_isUnitAt_11 : decode (zb m_M_isUnitAt) 11 = .ok (.if_icmp .ge 38, 3) := zdal_p dlD_M_isUnitAt_84 (i := 7) rfl
theorem d_M_isUnitAt_14 : decode (zb m_M_isUnitAt) 14 = .ok (.iload_n 3, 1) := zdal_p dlD_M_isUnitAt_84 (i := 8) rfl
theorem d_M_isUnitAt_15 : decode (zb m_M_isUnitAt) 15 = .ok (.iload_n 1, 1) := zdal_p dlD_M_isUnitAt_84 (i := 9) rfl
theorem d_M_isUnitAt_16 : decode (zb m_M_isUnitAt) 16 = .ok (.aload_n 0, 1) := zdal_p dlD_M_isUnitAt_84 (i := 10) rfl
theorem d_M_isUnitAt_17 : decode (zb m_M_isUnitAt) 17 = .ok (.getfield 235, 3) := zdal_p dlD_M_isUnitAt_84 (i := 11) rfl
theorem d_M_isUnitAt_20 : decode (zb m_M_isUnitAt) 20 = .ok (.iconst 1, 1) := zdal_p dlD_M_isUnitAt_84 (i := 12) rfl
theorem d_M_isUnitAt_21 : decode (zb m_M_isUnitAt) 21 = .ok (.isub, 1) := zdal_p dlD_M_isUnitAt_84 (i := 13) rfl
theorem d_M_isUnitAt_22 : decode (zb m_M_isUnitAt) 22 = .ok (.aload_n 0, 1) := zdal_p dlD_M_isUnitAt_84 (i := 14) rfl
theorem d_M_isUnitAt_23 : decode (zb m_M_isUnitAt) 23 = .ok (.getfield 99, 3) := zdal_p dlD_M_isUnitAt_84 (i := 15) rfl
theorem d_M_isUnitAt_26 : decode (zb m_M_isUnitAt) 26 = .ok (.iload 4, 2) := zdal_p dlD_M_isUnitAt_84 (i := 16) rfl
theorem d_M_isUnitAt_28 : decode (zb m_M_isUnitAt) 28 = .ok (.iaload, 1) := zdal_p dlD_M_isUnitAt_84 (i := 17) rfl
theorem d_M_isUnitAt_29 : decode (zb m_M_isUnitAt) 29 = .ok (.isub, 1) := zdal_p dlD_M_isUnitAt_84 (i := 18) rfl
theorem d_M_isUnitAt_30 : decode (zb m_M_isUnitAt) 30 = .ok (.invokestatic 213, 3) := zdal_p dlD_M_isUnitAt_84 (i := 19) rfl
theorem d_M_isUnitAt_33 : decode (zb m_M_isUnitAt) 33 = .ok (.ifCond .eq 7, 3) := zdal_p dlD_M_isUnitAt_84 (i := 20) rfl
theorem d_M_isUnitAt_36 : decode (zb m_M_isUnitAt) 36 = .ok (.iconst (-1), 1) := zdal_p dlD_M_isUnitAt_84 (i := 21) rfl
theorem d_M_isUnitAt_37 : decode (zb m_M_isUnitAt) 37 = .ok (.goto 4, 3) := zdal_p dlD_M_isUnitAt_84 (i := 22) rfl
theorem d_M_isUnitAt_40 : decode (zb m_M_isUnitAt) 40 = .ok (.iconst 1, 1) := zdal_p dlD_M_isUnitAt_84 (i := 23) rfl
theorem dlD_M_isUnitAt_85 : zdal (zb m_M_isUnitAt) [(41, (.iadd, 1)), (42, (.istore_n 3, 1)), (43, (.iinc 4 1, 3)), (46, (.goto (-41), 3)), (49, (.iload_n 3, 1)), (50, (.aload_n 0, 1)), (51, (.getfield 453, 3)), (54, (.irem, 1)), (55, (.ifCond .ne 7, 3)), (58, (.iconst 1, 1)), (59, (.goto 4, 3)), (62, (.iconst 0, 1)), (63, (.ireturn, 1))] = true := zDs 41 (by decide +kernel)
theorem d_M_isUnitAt_41 : decode (zb m_M_isUnitAt) 41 = .ok (.iadd, 1) := zdal_p dlD_M_isUnitAt_85 (i := 0) rfl
theorem d_M_isUnitAt_42 : decode (zb m_M_isUnitAt) 42 = .ok (.istore_n 3, 1) := zdal_p dlD_M_isUnitAt_85 (i := 1) rfl
theorem d_M_isUnitAt_43 : decode (zb m_M_isUnitAt) 43 = .ok (.iinc 4 1, 3) := zdal_p dlD_M_isUnitAt_85 (i := 2) rfl
theorem d_M_isUnitAt_46 : decode (zb m_M_isUnitAt) 46 = .ok (.goto (-41), 3) := zdal_p dlD_M_isUnitAt_85 (i := 3) rfl
theorem d_M_isUnitAt_49 : decode (zb m_M_isUnitAt) 49 = .ok (.iload_n 3, 1) := zdal_p dlD_M_isUnitAt_85 (i := 4) rfl
theorem d_M_isUnitAt_50 : decode (zb m_M_isUnitAt) 50 = .ok (.aload_n 0, 1) := zdal_p dlD_M_isUnitAt_85 (i := 5) rfl
theorem d_M_isUnitAt_51 : decode (zb m_M_isUnitAt) 51 = .ok (.getfield 453, 3) := zdal_p dlD_M_isUnitAt_85 (i := 6) rfl
theorem d_M_isUnitAt_54 : decode (zb m_M_isUnitAt) 54 = .ok (.irem, 1) := zdal_p dlD_M_isUnitAt_85 (i := 7) rfl
theorem d_M_isUnitAt_55 : decode (zb m_M_isUnitAt) 55 = .ok (.ifCond .ne 7, 3) := zdal_p dlD_M_isUnitAt_85 (i := 8) rfl
theorem d_M_isUnitAt_58 : decode (zb m_M_isUnitAt) 58 = .ok (.iconst 1, 1) := zdal_p dlD_M_isUnitAt_85 (i := 9) rfl
theorem d_M_isUnitAt_59 : decode (zb m_M_isUnitAt) 59 = .ok (.goto 4, 3) := zdal_p dlD_M_isUnitAt_85 (i := 10) rfl
theorem d_M_isUnitAt_62 : decode (zb m_M_isUnitAt) 62 = .ok (.iconst 0, 1) := zdal_p dlD_M_isUnitAt_85 (i := 11) rfl
theorem d_M_isUnitAt_63 : decode (zb m_M_isUnitAt) 63 = .ok (.ireturn, 1) := zdal_p dlD_M_isUnitAt_85 (i := 12) rfl
theorem dlD_M_unit_86 : zdal (zb m_M_unit) [(0, (.aload_n 0, 1)), (1, (.iload_n 2, 1)), (2, (.invokevirtual 414, 3)), (5, (.ifCond .ne 7, 3)), (8, (.ldc_w 435, 3)), (11, (.ireturn, 1)), (12, (.aload_n 0, 1)), (13, (.invokevirtual 465, 3)), (16, (.iload_n 1, 1)), (17, (.i2l, 1)), (18, (.lconst 0, 1)), (19, (.aload_n 0, 1)), (20, (.getfield 459, 3)), (23, (.iconst 1, 1)), (24, (.isub, 1)), (25, (.i2l, 1)), (26, (.invokestatic 131, 3)), (29, (.ifCond .ne 7, 3)), (32, (.ldc_w 435, 3)), (35, (.ireturn, 1)), (36, (.iconst 0, 1)), (37, (.istore_n 3, 1)), (38, (.iload_n 3, 1)), (39, (.aload_n 0, 1))] = true := zDs 0 (by decide +kernel)
theorem d_M_unit_0 : decode (zb m_M_unit) 0 = .ok (.aload_n 0, 1) := zdal_p dlD_M_unit_86 (i := 0) rfl
theorem d_M_unit_1 : decode (zb m_M_unit) 1 = .ok (.iload_n 2, 1) := zdal_p dlD_M_unit_86 (i := 1) rfl
theorem d_M_unit_2 : decode (zb m_M_unit) 2 = .ok (.invokevirtual 414, 3) := zdal_p dlD_M_unit_86 (i := 2) rfl
theorem d_M_unit_5 : decode (zb m_M_unit) 5 = .ok (.ifCond .ne 7, 3) := zdal_p dlD_M_unit_86 (i := 3) rfl
theorem d_M_unit_8 : decode (zb m_M_unit) 8 = .ok (.ldc_w 435, 3) := zdal_p dlD_M_unit_86 (i := 4) rfl
theorem d_M_unit_11 : decode (zb m_M_unit) 11 = .ok (.ireturn, 1) := zdal_p dlD_M_unit_86 (i := 5) rfl
theorem d_M_unit_12 : decode (zb m_M_unit) 12 = .ok (.aload_n 0, 1) := zdal_p dlD_M_unit_86 (i := 6) rfl
theorem d_M_unit_13 : decode (zb m_M_unit) 13 = .ok (.invokevirtual 465, 3) := zdal_p dlD_M_unit_86 (i := 7) rfl
theorem d_M_unit_16 : decode (zb m_M_unit) 16 = .ok (.iload_n 1, 1) := zdal_p dlD_M_unit_86 (i := 8) rfl
theorem d_M_unit_17 : decode (zb m_M_unit) 17 = .ok (.i2l, 1) := zdal_p dlD_M_unit_86 (i := 9) rfl
theorem d_M_unit_18 : decode (zb m_M_unit) 18 = .ok (.lconst 0, 1) := zdal_p dlD_M_unit_86 (i := 10) rfl
theorem d_M_unit_19 : decode (zb m_M_unit) 19 = .ok (.aload_n 0, 1) := zdal_p dlD_M_unit_86 (i := 11) rfl
theorem d_M_unit_20 : decode (zb m_M_unit) 20 = .ok (.getfield 459, 3) := zdal_p dlD_M_unit_86 (i := 12) rfl
theorem d_M_unit_23 : decode (zb m_M_unit) 23 = .ok (.iconst 1, 1) := zdal_p dlD_M_unit_86 (i := 13) rfl
theorem d_M_unit_24 : decode (zb m_M_unit) 24 = .ok (.isub, 1) := zdal_p dlD_M_unit_86 (i := 14) rfl
theorem d_M_unit_25 : decode (zb m_M_unit) 25 = .ok (.i2l, 1) := zdal_p dlD_M_unit_86 (i := 15) rfl
theorem d_M_unit_26 : decode (zb m_M_unit) 26 = .ok (.invokestatic 131, 3) := zdal_p dlD_M_unit_86 (i := 16) rfl
theorem d_M_unit_29 : decode (zb m_M_unit) 29 = .ok (.ifCond .ne 7, 3) := zdal_p dlD_M_unit_86 (i := 17) rfl
theorem d_M_unit_32 : decode (zb m_M_unit) 32 = .ok (.ldc_w 435, 3) := zdal_p dlD_M_unit_86 (i := 18) rfl
theorem d_M_unit_35 : decode (zb m_M_unit) 35 = .ok (.ireturn, 1) := zdal_p dlD_M_unit_86 (i := 19) rfl
theorem d_M_unit_36 : decode (zb m_M_unit) 36 = .ok (.iconst 0, 1) := zdal_p dlD_M_unit_86 (i := 20) rfl
theorem d_M_unit_37 : decode (zb m_M_unit) 37 = .ok (.istore_n 3, 1) := zdal_p dlD_M_unit_86 (i := 21) rfl
theorem d_M_unit_38 : decode (zb m_M_unit) 38 = .ok (.iload_n 3, 1) := zdal_p dlD_M_unit_86 (i := 22) rfl
theorem d_M_unit_39 : decode (zb m_M_unit) 39 = .ok (.aload_n 0, 1) := zdal_p dlD_M_unit_86 (i := 23) rfl
theorem dlD_M_unit_87 : zdal (zb m_M_unit) [(40, (.getfield 235, 3)), (43, (.if_icmp .ge 42, 3)), (46, (.aload_n 0, 1)), (47, (.getfield 60, 3)), (50, (.iload_n 3, 1)), (51, (.aload_n 0, 1)), (52, (.getfield 103, 3)), (55, (.iload_n 1, 1)), (56, (.iaload, 1)), (57, (.aload_n 0, 1)), (58, (.getfield 235, 3)), (61, (.iconst 1, 1)), (62, (.isub, 1)), (63, (.iload_n 3, 1)), (64, (.isub, 1)), (65, (.invokestatic 213, 3)), (68, (.ifCond .eq 9, 3)), (71, (.ldc2_w 468, 3)), (74, (.goto 4, 3)), (77, (.lconst 1, 1)), (78, (.lastore, 1)), (79, (.iinc 3 1, 3)), (82, (.goto (-44), 3)), (85, (.aload_n 0, 1))] = true := zDs 40 (by decide +kernel)
theorem d_M_unit_40 : decode (zb m_M_unit) 40 = .ok (.getfield 235, 3) := zdal_p dlD_M_unit_87 (i := 0) rfl
theorem d_M_unit_43 : decode (zb m_M_unit) 43 = .ok (.if_icmp .ge 42, 3) := zdal_p dlD_M_unit_87 (i := 1) rfl
theorem d_M_unit_46 : decode (zb m_M_unit) 46 = .ok (.aload_n 0, 1) := zdal_p dlD_M_unit_87 (i := 2) rfl
theorem d_M_unit_47 : decode (zb m_M_unit) 47 = .ok (.getfield 60, 3) := zdal_p dlD_M_unit_87 (i := 3) rfl
theorem d_M_unit_50 : decode (zb m_M_unit) 50 = .ok (.iload_n 3, 1) := zdal_p dlD_M_unit_87 (i := 4) rfl
theorem d_M_unit_51 : decode (zb m_M_unit) 51 = .ok (.aload_n 0, 1) := zdal_p dlD_M_unit_87 (i := 5) rfl
theorem d_M_unit_52 : decode (zb m_M_unit) 52 = .ok (.getfield 103, 3) := zdal_p dlD_M_unit_87 (i := 6) rfl
theorem d_M_unit_55 : decode (zb m_M_unit) 55 = .ok (.iload_n 1, 1) := zdal_p dlD_M_unit_87 (i := 7) rfl
theorem d_M_unit_56 : decode (zb m_M_unit) 56 = .ok (.iaload, 1) := zdal_p dlD_M_unit_87 (i := 8) rfl
theorem d_M_unit_57 : decode (zb m_M_unit) 57 = .ok (.aload_n 0, 1) := zdal_p dlD_M_unit_87 (i := 9) rfl
theorem d_M_unit_58 : decode (zb m_M_unit) 58 = .ok (.getfield 235, 3) := zdal_p dlD_M_unit_87 (i := 10) rfl
theorem d_M_unit_61 : decode (zb m_M_unit) 61 = .ok (.iconst 1, 1) := zdal_p dlD_M_unit_87 (i := 11) rfl
theorem d_M_unit_62 : decode (zb m_M_unit) 62 = .ok (.isub, 1) := zdal_p dlD_M_unit_87 (i := 12) rfl
theorem d_M_unit_63 : decode (zb m_M_unit) 63 = .ok (.iload_n 3, 1) := zdal_p dlD_M_unit_87 (i := 13) rfl
theorem d_M_unit_64 : decode (zb m_M_unit) 64 = .ok (.isub, 1) := zdal_p dlD_M_unit_87 (i := 14) rfl
theorem d_M_unit_65 : decode (zb m_M_unit) 65 = .ok (.invokestatic 213, 3) := zdal_p dlD_M_unit_87 (i := 15) rfl
theorem d_M_unit_68 : decode (zb m_M_unit) 68 = .ok (.ifCond .eq 9, 3) := zdal_p dlD_M_unit_87 (i := 16) rfl
theorem d_M_unit_71 : decode (zb m_M_unit) 71 = .ok (.ldc2_w 468, 3) := zdal_p dlD_M_unit_87 (i := 17) rfl
theorem d_M_unit_74 : decode (zb m_M_unit) 74 = .ok (.goto 4, 3) := zdal_p dlD_M_unit_87 (i := 18) rfl
theorem d_M_unit_77 : decode (zb m_M_unit) 77 = .ok (.lconst 1, 1) := zdal_p dlD_M_unit_87 (i := 19) rfl
theorem d_M_unit_78 : decode (zb m_M_unit) 78 = .ok (.lastore, 1) := zdal_p dlD_M_unit_87 (i := 20) rfl
theorem d_M_unit_79 : decode (zb m_M_unit) 79 = .ok (.iinc 3 1, 3) := zdal_p dlD_M_unit_87 (i := 21) rfl
theorem d_M_unit_82 : decode (zb m_M_unit) 82 = .ok (.goto (-44), 3) := zdal_p dlD_M_unit_87 (i := 22) rfl
theorem d_M_unit_85 : decode (zb m_M_unit) 85 = .ok (.aload_n 0, 1) := zdal_p dlD_M_unit_87 (i := 23) rfl
theorem dlD_M_unit_88 : zdal (zb m_M_unit) [(86, (.aload_n 0, 1)), (87, (.getfield 60, 3)), (90, (.aload_n 0, 1)), (91, (.getfield 87, 3)), (94, (.iconst 0, 1)), (95, (.invokevirtual 289, 3)), (98, (.aload_n 0, 1)), (99, (.getfield 87, 3)), (102, (.iload_n 2, 1)), (103, (.laload, 1)), (104, (.l2i, 1)), (105, (.ireturn, 1))] = true := zDs 86 (by decide +kernel)
theorem d_M_unit_86 : decode (zb m_M_unit) 86 = .ok (.aload_n 0, 1) := zdal_p dlD_M_unit_88 (i := 0) rfl
theorem d_M_unit_87 : decode (zb m_M_unit) 87 = .ok (.getfield 60, 3) := zdal_p dlD_M_unit_88 (i := 1) rfl
theorem d_M_unit_90 : decode (zb m_M_unit) 90 = .ok (.aload_n 0, 1) := zdal_p dlD_M_unit_88 (i := 2) rfl
theorem d_M_unit_91 : decode (zb m_M_unit) 91 = .ok (.getfield 87, 3) := zdal_p dlD_M_unit_88 (i := 3) rfl
theorem d_M_unit_94 : decode (zb m_M_unit) 94 = .ok (.iconst 0, 1) := zdal_p dlD_M_unit_88 (i := 4) rfl
theorem d_M_unit_95 : decode (zb m_M_unit) 95 = .ok (.invokevirtual 289, 3) := zdal_p dlD_M_unit_88 (i := 5) rfl
theorem d_M_unit_98 : decode (zb m_M_unit) 98 = .ok (.aload_n 0, 1) := zdal_p dlD_M_unit_88 (i := 6) rfl
theorem d_M_unit_99 : decode (zb m_M_unit) 99 = .ok (.getfield 87, 3) := zdal_p dlD_M_unit_88 (i := 7) rfl
theorem d_M_unit_102 : decode (zb m_M_unit) 102 = .ok (.iload_n 2, 1) := zdal_p dlD_M_unit_88 (i := 8) rfl
theorem d_M_unit_103 : decode (zb m_M_unit) 103 = .ok (.laload, 1) := zdal_p dlD_M_unit_88 (i := 9) rfl
theorem d_M_unit_104 : decode (zb m_M_unit) 104 = .ok (.l2i, 1) := zdal_p dlD_M_unit_88 (i := 10) rfl
theorem d_M_unit_105 : decode (zb m_M_unit) 105 = .ok (.ireturn, 1) := zdal_p dlD_M_unit_88 (i := 11) rfl
theorem dlD_M_undo_89 : zdal (zb m_M_undo) [(0, (.aload_n 0, 1)), (1, (.getfield 391, 3)), (4, (.ifCond .ne 5, 3)), (7, (.iconst (-1), 1)), (8, (.ireturn, 1)), (9, (.aload_n 0, 1)), (10, (.dup, 1)), (11, (.getfield 391, 3)), (14, (.iconst 1, 1)), (15, (.isub, 1)), (16, (.putfield 391, 3)), (19, (.iconst 0, 1)), (20, (.istore_n 1, 1)), (21, (.iload_n 1, 1)), (22, (.bipush 64, 2)), (24, (.if_icmp .ge 29, 3)), (27, (.aload_n 0, 1)), (28, (.getfield 66, 3)), (31, (.iload_n 1, 1)), (32, (.aload_n 0, 1)), (33, (.getfield 106, 3)), (36, (.bipush 64, 2)), (38, (.aload_n 0, 1)), (39, (.getfield 391, 3))] = true := zDs 0 (by decide +kernel)
theorem d_M_undo_0 : decode (zb m_M_undo) 0 = .ok (.aload_n 0, 1) := zdal_p dlD_M_undo_89 (i := 0) rfl
theorem d_M_undo_1 : decode (zb m_M_undo) 1 = .ok (.getfield 391, 3) := zdal_p dlD_M_undo_89 (i := 1) rfl
theorem d_M_undo_4 : decode (zb m_M_undo) 4 = .ok (.ifCond .ne 5, 3) := zdal_p dlD_M_undo_89 (i := 2) rfl
theorem d_M_undo_7 : decode (zb m_M_undo) 7 = .ok (.iconst (-1), 1) := zdal_p dlD_M_undo_89 (i := 3) rfl
theorem d_M_undo_8 : decode (zb m_M_undo) 8 = .ok (.ireturn, 1) := zdal_p dlD_M_undo_89 (i := 4) rfl
theorem d_M_undo_9 : decode (zb m_M_undo) 9 = .ok (.aload_n 0, 1) := zdal_p dlD_M_undo_89 (i := 5) rfl
theorem d_M_undo_10 : decode (zb m_M_undo) 10 = .ok (.dup, 1) := zdal_p dlD_M_undo_89 (i := 6) rfl
theorem d_M_undo_11 : decode (zb m_M_undo) 11 = .ok (.getfield 391, 3) := zdal_p dlD_M_undo_89 (i := 7) rfl
theorem d_M_undo_14 : decode (zb m_M_undo) 14 = .ok (.iconst 1, 1) := zdal_p dlD_M_undo_89 (i := 8) rfl
theorem d_M_undo_15 : decode (zb m_M_undo) 15 = .ok (.isub, 1) := zdal_p dlD_M_undo_89 (i := 9) rfl
theorem d_M_undo_16 : decode (zb m_M_undo) 16 = .ok (.putfield 391, 3) := zdal_p dlD_M_undo_89 (i := 10) rfl
theorem d_M_undo_19 : decode (zb m_M_undo) 19 = .ok (.iconst 0, 1) := zdal_p dlD_M_undo_89 (i := 11) rfl
theorem d_M_undo_20 : decode (zb m_M_undo) 20 = .ok (.istore_n 1, 1) := zdal_p dlD_M_undo_89 (i := 12) rfl
theorem d_M_undo_21 : decode (zb m_M_undo) 21 = .ok (.iload_n 1, 1) := zdal_p dlD_M_undo_89 (i := 13) rfl
theorem d_M_undo_22 : decode (zb m_M_undo) 22 = .ok (.bipush 64, 2) := zdal_p dlD_M_undo_89 (i := 14) rfl
theorem d_M_undo_24 : decode (zb m_M_undo) 24 = .ok (.if_icmp .ge 29, 3) := zdal_p dlD_M_undo_89 (i := 15) rfl
theorem d_M_undo_27 : decode (zb m_M_undo) 27 = .ok (.aload_n 0, 1) := zdal_p dlD_M_undo_89 (i := 16) rfl
theorem d_M_undo_28 : decode (zb m_M_undo) 28 = .ok (.getfield 66, 3) := zdal_p dlD_M_undo_89 (i := 17) rfl
theorem d_M_undo_31 : decode (zb m_M_undo) 31 = .ok (.iload_n 1, 1) := zdal_p dlD_M_undo_89 (i := 18) rfl
theorem d_M_undo_32 : decode (zb m_M_undo) 32 = .ok (.aload_n 0, 1) := zdal_p dlD_M_undo_89 (i := 19) rfl
theorem d_M_undo_33 : decode (zb m_M_undo) 33 = .ok (.getfield 106, 3) := zdal_p dlD_M_undo_89 (i := 20) rfl
theorem d_M_undo_36 : decode (zb m_M_undo) 36 = .ok (.bipush 64, 2) := zdal_p dlD_M_undo_89 (i := 21) rfl
theorem d_M_undo_38 : decode (zb m_M_undo) 38 = .ok (.aload_n 0, 1) := zdal_p dlD_M_undo_89 (i := 22) rfl
theorem d_M_undo_39 : decode (zb m_M_undo) 39 = .ok (.getfield 391, 3) := zdal_p dlD_M_undo_89 (i := 23) rfl
theorem dlD_M_undo_90 : zdal (zb m_M_undo) [(42, (.imul, 1)), (43, (.iload_n 1, 1)), (44, (.iadd, 1)), (45, (.laload, 1)), (46, (.lastore, 1)), (47, (.iinc 1 1, 3)), (50, (.goto (-29), 3)), (53, (.aload_n 0, 1)), (54, (.getfield 391, 3)), (57, (.ireturn, 1))] = true := zDs 42 (by decide +kernel)
theorem d_M_undo_42 : decode (zb m_M_undo) 42 = .ok (.imul, 1) := zdal_p dlD_M_undo_90 (i := 0) rfl
theorem d_M_undo_43 : decode (zb m_M_undo) 43 = .ok (.iload_n 1, 1) := zdal_p dlD_M_undo_90 (i := 1) rfl
theorem d_M_undo_44 : decode (zb m_M_undo) 44 = .ok (.iadd, 1) := zdal_p dlD_M_undo_90 (i := 2) rfl
theorem d_M_undo_45 : decode (zb m_M_undo) 45 = .ok (.laload, 1) := zdal_p dlD_M_undo_90 (i := 3) rfl
theorem d_M_undo_46 : decode (zb m_M_undo) 46 = .ok (.lastore, 1) := zdal_p dlD_M_undo_90 (i := 4) rfl
theorem d_M_undo_47 : decode (zb m_M_undo) 47 = .ok (.iinc 1 1, 3) := zdal_p dlD_M_undo_90 (i := 5) rfl
theorem d_M_undo_50 : decode (zb m_M_undo) 50 = .ok (.goto (-29), 3) := zdal_p dlD_M_undo_90 (i := 6) rfl
theorem d_M_undo_53 : decode (zb m_M_undo) 53 = .ok (.aload_n 0, 1) := zdal_p dlD_M_undo_90 (i := 7) rfl
theorem d_M_undo_54 : decode (zb m_M_undo) 54 = .ok (.getfield 391, 3) := zdal_p dlD_M_undo_90 (i := 8) rfl
theorem d_M_undo_57 : decode (zb m_M_undo) 57 = .ok (.ireturn, 1) := zdal_p dlD_M_undo_90 (i := 9) rfl
theorem dlD_M_named_91 : zdal (zb m_M_named) [(0, (.iload_n 1, 1)), (1, (.i2l, 1)), (2, (.lconst 0, 1)), (3, (.aload_n 0, 1)), (4, (.getfield 388, 3)), (7, (.iconst 1, 1)), (8, (.isub, 1)), (9, (.i2l, 1)), (10, (.invokestatic 131, 3)), (13, (.ifCond .eq 25, 3)), (16, (.aload_n 0, 1)), (17, (.iload_n 2, 1)), (18, (.invokevirtual 414, 3)), (21, (.ifCond .eq 17, 3)), (24, (.aload_n 0, 1)), (25, (.getfield 84, 3)), (28, (.bipush 64, 2)), (30, (.iload_n 1, 1)), (31, (.imul, 1)), (32, (.iload_n 2, 1)), (33, (.iadd, 1)), (34, (.laload, 1)), (35, (.goto 6, 3)), (38, (.ldc2_w 470, 3))] = true := zDs 0 (by decide +kernel)
theorem d_M_named_0 : decode (zb m_M_named) 0 = .ok (.iload_n 1, 1) := zdal_p dlD_M_named_91 (i := 0) rfl
theorem d_M_named_1 : decode (zb m_M_named) 1 = .ok (.i2l, 1) := zdal_p dlD_M_named_91 (i := 1) rfl
theorem d_M_named_2 : decode (zb m_M_named) 2 = .ok (.lconst 0, 1) := zdal_p dlD_M_named_91 (i := 2) rfl
theorem d_M_named_3 : decode (zb m_M_named) 3 = .ok (.aload_n 0, 1) := zdal_p dlD_M_named_91 (i := 3) rfl
theorem d_M_named_4 : decode (zb m_M_named) 4 = .ok (.getfield 388, 3) := zdal_p dlD_M_named_91 (i := 4) rfl
theorem d_M_named_7 : decode (zb m_M_named) 7 = .ok (.iconst 1, 1) := zdal_p dlD_M_named_91 (i := 5) rfl
theorem d_M_named_8 : decode (zb m_M_named) 8 = .ok (.isub, 1) := zdal_p dlD_M_named_91 (i := 6) rfl
theorem d_M_named_9 : decode (zb m_M_named) 9 = .ok (.i2l, 1) := zdal_p dlD_M_named_91 (i := 7) rfl
theorem d_M_named_10 : decode (zb m_M_named) 10 = .ok (.invokestatic 131, 3) := zdal_p dlD_M_named_91 (i := 8) rfl
theorem d_M_named_13 : decode (zb m_M_named) 13 = .ok (.ifCond .eq 25, 3) := zdal_p dlD_M_named_91 (i := 9) rfl
theorem d_M_named_16 : decode (zb m_M_named) 16 = .ok (.aload_n 0, 1) := zdal_p dlD_M_named_91 (i := 10) rfl
theorem d_M_named_17 : decode (zb m_M_named) 17 = .ok (.iload_n 2, 1) := zdal_p dlD_M_named_91 (i := 11) rfl
theorem d_M_named_18 : decode (zb m_M_named) 18 = .ok (.invokevirtual 414, 3) := zdal_p dlD_M_named_91 (i := 12) rfl
theorem d_M_named_21 : decode (zb m_M_named) 21 = .ok (.ifCond .eq 17, 3) := zdal_p dlD_M_named_91 (i := 13) rfl
theorem d_M_named_24 : decode (zb m_M_named) 24 = .ok (.aload_n 0, 1) := zdal_p dlD_M_named_91 (i := 14) rfl
theorem d_M_named_25 : decode (zb m_M_named) 25 = .ok (.getfield 84, 3) := zdal_p dlD_M_named_91 (i := 15) rfl
theorem d_M_named_28 : decode (zb m_M_named) 28 = .ok (.bipush 64, 2) := zdal_p dlD_M_named_91 (i := 16) rfl
theorem d_M_named_30 : decode (zb m_M_named) 30 = .ok (.iload_n 1, 1) := zdal_p dlD_M_named_91 (i := 17) rfl
theorem d_M_named_31 : decode (zb m_M_named) 31 = .ok (.imul, 1) := zdal_p dlD_M_named_91 (i := 18) rfl
theorem d_M_named_32 : decode (zb m_M_named) 32 = .ok (.iload_n 2, 1) := zdal_p dlD_M_named_91 (i := 19) rfl
theorem d_M_named_33 : decode (zb m_M_named) 33 = .ok (.iadd, 1) := zdal_p dlD_M_named_91 (i := 20) rfl
theorem d_M_named_34 : decode (zb m_M_named) 34 = .ok (.laload, 1) := zdal_p dlD_M_named_91 (i := 21) rfl
theorem d_M_named_35 : decode (zb m_M_named) 35 = .ok (.goto 6, 3) := zdal_p dlD_M_named_91 (i := 22) rfl
theorem d_M_named_38 : decode (zb m_M_named) 38 = .ok (.ldc2_w 470, 3) := zdal_p dlD_M_named_91 (i := 23) rfl
theorem dlD_M_named_92 : zdal (zb m_M_named) [(41, (.lreturn, 1))] = true := zDs 41 (by decide +kernel)
theorem d_M_named_41 : decode (zb m_M_named) 41 = .ok (.lreturn, 1) := zdal_p dlD_M_named_92 (i := 0) rfl
theorem dlD_M_has_93 : zdal (zb m_M_has) [(0, (.aload_n 0, 1)), (1, (.iload_n 1, 1)), (2, (.invokevirtual 414, 3)), (5, (.ifCond .eq 12, 3)), (8, (.aload_n 0, 1)), (9, (.getfield 66, 3)), (12, (.iload_n 1, 1)), (13, (.laload, 1)), (14, (.goto 6, 3)), (17, (.ldc2_w 470, 3)), (20, (.lreturn, 1))] = true := zDs 0 (by decide +kernel)
theorem d_M_has_0 : decode (zb m_M_has) 0 = .ok (.aload_n 0, 1) := zdal_p dlD_M_has_93 (i := 0) rfl
theorem d_M_has_1 : decode (zb m_M_has) 1 = .ok (.iload_n 1, 1) := zdal_p dlD_M_has_93 (i := 1) rfl
theorem d_M_has_2 : decode (zb m_M_has) 2 = .ok (.invokevirtual 414, 3) := zdal_p dlD_M_has_93 (i := 2) rfl
theorem d_M_has_5 : decode (zb m_M_has) 5 = .ok (.ifCond .eq 12, 3) := zdal_p dlD_M_has_93 (i := 3) rfl
theorem d_M_has_8 : decode (zb m_M_has) 8 = .ok (.aload_n 0, 1) := zdal_p dlD_M_has_93 (i := 4) rfl
theorem d_M_has_9 : decode (zb m_M_has) 9 = .ok (.getfield 66, 3) := zdal_p dlD_M_has_93 (i := 5) rfl
theorem d_M_has_12 : decode (zb m_M_has) 12 = .ok (.iload_n 1, 1) := zdal_p dlD_M_has_93 (i := 6) rfl
theorem d_M_has_13 : decode (zb m_M_has) 13 = .ok (.laload, 1) := zdal_p dlD_M_has_93 (i := 7) rfl
theorem d_M_has_14 : decode (zb m_M_has) 14 = .ok (.goto 6, 3) := zdal_p dlD_M_has_93 (i := 8) rfl
theorem d_M_has_17 : decode (zb m_M_has) 17 = .ok (.ldc2_w 470, 3) := zdal_p dlD_M_has_93 (i := 9) rfl
theorem d_M_has_20 : decode (zb m_M_has) 20 = .ok (.lreturn, 1) := zdal_p dlD_M_has_93 (i := 10) rfl
theorem dlD_M_marked_94 : zdal (zb m_M_marked) [(0, (.aload_n 0, 1)), (1, (.iload_n 1, 1)), (2, (.invokevirtual 414, 3)), (5, (.ifCond .eq 16, 3)), (8, (.aload_n 0, 1)), (9, (.aload_n 0, 1)), (10, (.getfield 66, 3)), (13, (.iconst 0, 1)), (14, (.iload_n 1, 1)), (15, (.invokevirtual 264, 3)), (18, (.goto 6, 3)), (21, (.ldc2_w 470, 3)), (24, (.lreturn, 1))] = true := zDs 0 (by decide +kernel)
theorem d_M_marked_0 : decode (zb m_M_marked) 0 = .ok (.aload_n 0, 1) := zdal_p dlD_M_marked_94 (i := 0) rfl
theorem d_M_marked_1 : decode (zb m_M_marked) 1 = .ok (.iload_n 1, 1) := zdal_p dlD_M_marked_94 (i := 1) rfl
theorem d_M_marked_2 : decode (zb m_M_marked) 2 = .ok (.invokevirtual 414, 3) := zdal_p dlD_M_marked_94 (i := 2) rfl
theorem d_M_marked_5 : decode (zb m_M_marked) 5 = .ok (.ifCond .eq 16, 3) := zdal_p dlD_M_marked_94 (i := 3) rfl
theorem d_M_marked_8 : decode (zb m_M_marked) 8 = .ok (.aload_n 0, 1) := zdal_p dlD_M_marked_94 (i := 4) rfl
theorem d_M_marked_9 : decode (zb m_M_marked) 9 = .ok (.aload_n 0, 1) := zdal_p dlD_M_marked_94 (i := 5) rfl
theorem d_M_marked_10 : decode (zb m_M_marked) 10 = .ok (.getfield 66, 3) := zdal_p dlD_M_marked_94 (i := 6) rfl
theorem d_M_marked_13 : decode (zb m_M_marked) 13 = .ok (.iconst 0, 1) := zdal_p dlD_M_marked_94 (i := 7) rfl
theorem d_M_marked_14 : decode (zb m_M_marked) 14 = .ok (.iload_n 1, 1) := zdal_p dlD_M_marked_94 (i := 8) rfl
theorem d_M_marked_15 : decode (zb m_M_marked) 15 = .ok (.invokevirtual 264, 3) := zdal_p dlD_M_marked_94 (i := 9) rfl
theorem d_M_marked_18 : decode (zb m_M_marked) 18 = .ok (.goto 6, 3) := zdal_p dlD_M_marked_94 (i := 10) rfl
theorem d_M_marked_21 : decode (zb m_M_marked) 21 = .ok (.ldc2_w 470, 3) := zdal_p dlD_M_marked_94 (i := 11) rfl
theorem d_M_marked_24 : decode (zb m_M_marked) 24 = .ok (.lreturn, 1) := zdal_p dlD_M_marked_94 (i := 12) rfl
theorem dlD_M_character_95 : zdal (zb m_M_character) [(0, (.aload_n 0, 1)), (1, (.iload_n 1, 1)), (2, (.invokevirtual 400, 3)), (5, (.ifCond .eq 26, 3)), (8, (.aload_n 0, 1)), (9, (.aload_n 0, 1)), (10, (.getfield 66, 3)), (13, (.iconst 0, 1)), (14, (.aload_n 0, 1)), (15, (.aload_n 0, 1)), (16, (.iconst 1, 1)), (17, (.iload_n 1, 1)), (18, (.ishl, 1)), (19, (.invokevirtual 229, 3)), (22, (.invokevirtual 411, 3)), (25, (.invokevirtual 264, 3)), (28, (.goto 6, 3)), (31, (.ldc2_w 470, 3)), (34, (.lreturn, 1))] = true := zDs 0 (by decide +kernel)
theorem d_M_character_0 : decode (zb m_M_character) 0 = .ok (.aload_n 0, 1) := zdal_p dlD_M_character_95 (i := 0) rfl
theorem d_M_character_1 : decode (zb m_M_character) 1 = .ok (.iload_n 1, 1) := zdal_p dlD_M_character_95 (i := 1) rfl
theorem d_M_character_2 : decode (zb m_M_character) 2 = .ok (.invokevirtual 400, 3) := zdal_p dlD_M_character_95 (i := 2) rfl
theorem d_M_character_5 : decode (zb m_M_character) 5 = .ok (.ifCond .eq 26, 3) := zdal_p dlD_M_character_95 (i := 3) rfl
theorem d_M_character_8 : decode (zb m_M_character) 8 = .ok (.aload_n 0, 1) := zdal_p dlD_M_character_95 (i := 4) rfl
theorem d_M_character_9 : decode (zb m_M_character) 9 = .ok (.aload_n 0, 1) := zdal_p dlD_M_character_95 (i := 5) rfl
theorem d_M_character_10 : decode (zb m_M_character) 10 = .ok (.getfield 66, 3) := zdal_p dlD_M_character_95 (i := 6) rfl
theorem d_M_character_13 : decode (zb m_M_character) 13 = .ok (.iconst 0, 1) := zdal_p dlD_M_character_95 (i := 7) rfl
theorem d_M_character_14 : decode (zb m_M_character) 14 = .ok (.aload_n 0, 1) := zdal_p dlD_M_character_95 (i := 8) rfl
theorem d_M_character_15 : decode (zb m_M_character) 15 = .ok (.aload_n 0, 1) := zdal_p dlD_M_character_95 (i := 9) rfl
theorem d_M_character_16 : decode (zb m_M_character) 16 = .ok (.iconst 1, 1) := zdal_p dlD_M_character_95 (i := 10) rfl
theorem d_M_character_17 : decode (zb m_M_character) 17 = .ok (.iload_n 1, 1) := zdal_p dlD_M_character_95 (i := 11) rfl
theorem d_M_character_18 : decode (zb m_M_character) 18 = .ok (.ishl, 1) := zdal_p dlD_M_character_95 (i := 12) rfl
theorem d_M_character_19 : decode (zb m_M_character) 19 = .ok (.invokevirtual 229, 3) := zdal_p dlD_M_character_95 (i := 13) rfl
theorem d_M_character_22 : decode (zb m_M_character) 22 = .ok (.invokevirtual 411, 3) := zdal_p dlD_M_character_95 (i := 14) rfl
theorem d_M_character_25 : decode (zb m_M_character) 25 = .ok (.invokevirtual 264, 3) := zdal_p dlD_M_character_95 (i := 15) rfl
theorem d_M_character_28 : decode (zb m_M_character) 28 = .ok (.goto 6, 3) := zdal_p dlD_M_character_95 (i := 16) rfl
theorem d_M_character_31 : decode (zb m_M_character) 31 = .ok (.ldc2_w 470, 3) := zdal_p dlD_M_character_95 (i := 17) rfl
theorem d_M_character_34 : decode (zb m_M_character) 34 = .ok (.lreturn, 1) := zdal_p dlD_M_character_95 (i := 18) rfl
theorem dlD_M_parts_96 : zdal (zb m_M_parts) [(0, (.iconst 0, 1)), (1, (.istore_n 1, 1)), (2, (.iconst 0, 1)), (3, (.istore_n 2, 1)), (4, (.iload_n 2, 1)), (5, (.aload_n 0, 1)), (6, (.getfield 235, 3)), (9, (.if_icmp .ge 31, 3)), (12, (.iload_n 1, 1)), (13, (.aload_n 0, 1)), (14, (.getfield 66, 3)), (17, (.iload_n 2, 1)), (18, (.laload, 1)), (19, (.lconst 0, 1)), (20, (.lcmp, 1)), (21, (.ifCond .eq 7, 3)), (24, (.iconst 1, 1)), (25, (.goto 4, 3)), (28, (.iconst 0, 1)), (29, (.invokestatic 256, 3)), (32, (.iadd, 1)), (33, (.istore_n 1, 1)), (34, (.iinc 2 1, 3)), (37, (.goto (-33), 3))] = true := zDs 0 (by decide +kernel)
theorem d_M_parts_0 : decode (zb m_M_parts) 0 = .ok (.iconst 0, 1) := zdal_p dlD_M_parts_96 (i := 0) rfl
theorem d_M_parts_1 : decode (zb m_M_parts) 1 = .ok (.istore_n 1, 1) := zdal_p dlD_M_parts_96 (i := 1) rfl
theorem d_M_parts_2 : decode (zb m_M_parts) 2 = .ok (.iconst 0, 1) := zdal_p dlD_M_parts_96 (i := 2) rfl
theorem d_M_parts_3 : decode (zb m_M_parts) 3 = .ok (.istore_n 2, 1) := zdal_p dlD_M_parts_96 (i := 3) rfl
theorem d_M_parts_4 : decode (zb m_M_parts) 4 = .ok (.iload_n 2, 1) := zdal_p dlD_M_parts_96 (i := 4) rfl
theorem d_M_parts_5 : decode (zb m_M_parts) 5 = .ok (.aload_n 0, 1) := zdal_p dlD_M_parts_96 (i := 5) rfl
theorem d_M_parts_6 : decode (zb m_M_parts) 6 = .ok (.getfield 235, 3) := zdal_p dlD_M_parts_96 (i := 6) rfl
theorem d_M_parts_9 : decode (zb m_M_parts) 9 = .ok (.if_icmp .ge 31, 3) := zdal_p dlD_M_parts_96 (i := 7) rfl
theorem d_M_parts_12 : decode (zb m_M_parts) 12 = .ok (.iload_n 1, 1) := zdal_p dlD_M_parts_96 (i := 8) rfl
theorem d_M_parts_13 : decode (zb m_M_parts) 13 = .ok (.aload_n 0, 1) := zdal_p dlD_M_parts_96 (i := 9) rfl
theorem d_M_parts_14 : decode (zb m_M_parts) 14 = .ok (.getfield 66, 3) := zdal_p dlD_M_parts_96 (i := 10) rfl
theorem d_M_parts_17 : decode (zb m_M_parts) 17 = .ok (.iload_n 2, 1) := zdal_p dlD_M_parts_96 (i := 11) rfl
theorem d_M_parts_18 : decode (zb m_M_parts) 18 = .ok (.laload, 1) := zdal_p dlD_M_parts_96 (i := 12) rfl
theorem d_M_parts_19 : decode (zb m_M_parts) 19 = .ok (.lconst 0, 1) := zdal_p dlD_M_parts_96 (i := 13) rfl
theorem d_M_parts_20 : decode (zb m_M_parts) 20 = .ok (.lcmp, 1) := zdal_p dlD_M_parts_96 (i := 14) rfl
theorem d_M_parts_21 : decode (zb m_M_parts) 21 = .ok (.ifCond .eq 7, 3) := zdal_p dlD_M_parts_96 (i := 15) rfl
theorem d_M_parts_24 : decode (zb m_M_parts) 24 = .ok (.iconst 1, 1) := zdal_p dlD_M_parts_96 (i := 16) rfl
theorem d_M_parts_25 : decode (zb m_M_parts) 25 = .ok (.goto 4, 3) := zdal_p dlD_M_parts_96 (i := 17) rfl
theorem d_M_parts_28 : decode (zb m_M_parts) 28 = .ok (.iconst 0, 1) := zdal_p dlD_M_parts_96 (i := 18) rfl
theorem d_M_parts_29 : decode (zb m_M_parts) 29 = .ok (.invokestatic 256, 3) := zdal_p dlD_M_parts_96 (i := 19) rfl
theorem d_M_parts_32 : decode (zb m_M_parts) 32 = .ok (.iadd, 1) := zdal_p dlD_M_parts_96 (i := 20) rfl
theorem d_M_parts_33 : decode (zb m_M_parts) 33 = .ok (.istore_n 1, 1) := zdal_p dlD_M_parts_96 (i := 21) rfl
theorem d_M_parts_34 : decode (zb m_M_parts) 34 = .ok (.iinc 2 1, 3) := zdal_p dlD_M_parts_96 (i := 22) rfl
theorem d_M_parts_37 : decode (zb m_M_parts) 37 = .ok (.goto (-33), 3) := zdal_p dlD_M_parts_96 (i := 23) rfl
theorem dlD_M_parts_97 : zdal (zb m_M_parts) [(40, (.iload_n 1, 1)), (41, (.ireturn, 1))] = true := zDs 40 (by decide +kernel)
theorem d_M_parts_40 : decode (zb m_M_parts) 40 = .ok (.iload_n 1, 1) := zdal_p dlD_M_parts_97 (i := 0) rfl
theorem d_M_parts_41 : decode (zb m_M_parts) 41 = .ok (.ireturn, 1) := zdal_p dlD_M_parts_97 (i := 1) rfl
theorem dlD_M_congruence_98 : zdal (zb m_M_congruence) [(0, (.aload_n 0, 1)), (1, (.iload_n 1, 1)), (2, (.invokevirtual 414, 3)), (5, (.ifCond .ne 7, 3)), (8, (.ldc2_w 470, 3)), (11, (.lreturn, 1)), (12, (.aload_n 0, 1)), (13, (.invokevirtual 472, 3)), (16, (.aload_n 0, 1)), (17, (.aload_n 0, 1)), (18, (.getfield 69, 3)), (21, (.iload_n 1, 1)), (22, (.invokevirtual 475, 3)), (25, (.aload_n 0, 1)), (26, (.getfield 453, 3)), (29, (.i2l, 1)), (30, (.ldiv, 1)), (31, (.lreturn, 1))] = true := zDs 0 (by decide +kernel)
theorem d_M_congruence_0 : decode (zb m_M_congruence) 0 = .ok (.aload_n 0, 1) := zdal_p dlD_M_congruence_98 (i := 0) rfl
theorem d_M_congruence_1 : decode (zb m_M_congruence) 1 = .ok (.iload_n 1, 1) := zdal_p dlD_M_congruence_98 (i := 1) rfl
theorem d_M_congruence_2 : decode (zb m_M_congruence) 2 = .ok (.invokevirtual 414, 3) := zdal_p dlD_M_congruence_98 (i := 2) rfl
theorem d_M_congruence_5 : decode (zb m_M_congruence) 5 = .ok (.ifCond .ne 7, 3) := zdal_p dlD_M_congruence_98 (i := 3) rfl
theorem d_M_congruence_8 : decode (zb m_M_congruence) 8 = .ok (.ldc2_w 470, 3) := zdal_p dlD_M_congruence_98 (i := 4) rfl
theorem d_M_congruence_11 : decode (zb m_M_congruence) 11 = .ok (.lreturn, 1) := zdal_p dlD_M_congruence_98 (i := 5) rfl
theorem d_M_congruence_12 : decode (zb m_M_congruence) 12 = .ok (.aload_n 0, 1) := zdal_p dlD_M_congruence_98 (i := 6) rfl
theorem d_M_congruence_13 : decode (zb m_M_congruence) 13 = .ok (.invokevirtual 472, 3) := zdal_p dlD_M_congruence_98 (i := 7) rfl
theorem d_M_congruence_16 : decode (zb m_M_congruence) 16 = .ok (.aload_n 0, 1) := zdal_p dlD_M_congruence_98 (i := 8) rfl
theorem d_M_congruence_17 : decode (zb m_M_congruence) 17 = .ok (.aload_n 0, 1) := zdal_p dlD_M_congruence_98 (i := 9) rfl
theorem d_M_congruence_18 : decode (zb m_M_congruence) 18 = .ok (.getfield 69, 3) := zdal_p dlD_M_congruence_98 (i := 10) rfl
theorem d_M_congruence_21 : decode (zb m_M_congruence) 21 = .ok (.iload_n 1, 1) := zdal_p dlD_M_congruence_98 (i := 11) rfl
theorem d_M_congruence_22 : decode (zb m_M_congruence) 22 = .ok (.invokevirtual 475, 3) := zdal_p dlD_M_congruence_98 (i := 12) rfl
theorem d_M_congruence_25 : decode (zb m_M_congruence) 25 = .ok (.aload_n 0, 1) := zdal_p dlD_M_congruence_98 (i := 13) rfl
theorem d_M_congruence_26 : decode (zb m_M_congruence) 26 = .ok (.getfield 453, 3) := zdal_p dlD_M_congruence_98 (i := 14) rfl
theorem d_M_congruence_29 : decode (zb m_M_congruence) 29 = .ok (.i2l, 1) := zdal_p dlD_M_congruence_98 (i := 15) rfl
theorem d_M_congruence_30 : decode (zb m_M_congruence) 30 = .ok (.ldiv, 1) := zdal_p dlD_M_congruence_98 (i := 16) rfl
theorem d_M_congruence_31 : decode (zb m_M_congruence) 31 = .ok (.lreturn, 1) := zdal_p dlD_M_congruence_98 (i := 17) rfl
theorem dlD_M_laysMarks_99 : zdal (zb m_M_laysMarks) [(0, (.iconst 0, 1)), (1, (.istore_n 1, 1)), (2, (.iload_n 1, 1)), (3, (.aload_n 0, 1)), (4, (.getfield 235, 3)), (7, (.if_icmp .ge 25, 3)), (10, (.aload_n 0, 1)), (11, (.getfield 69, 3)), (14, (.iload_n 1, 1)), (15, (.aload_n 0, 1)), (16, (.aload_n 0, 1)), (17, (.getfield 66, 3)), (20, (.iconst 0, 1)), (21, (.iload_n 1, 1)), (22, (.invokevirtual 264, 3)), (25, (.lastore, 1)), (26, (.iinc 1 1, 3)), (29, (.goto (-27), 3)), (32, (.return_, 1))] = true := zDs 0 (by decide +kernel)
theorem d_M_laysMarks_0 : decode (zb m_M_laysMarks) 0 = .ok (.iconst 0, 1) := zdal_p dlD_M_laysMarks_99 (i := 0) rfl
theorem d_M_laysMarks_1 : decode (zb m_M_laysMarks) 1 = .ok (.istore_n 1, 1) := zdal_p dlD_M_laysMarks_99 (i := 1) rfl
theorem d_M_laysMarks_2 : decode (zb m_M_laysMarks) 2 = .ok (.iload_n 1, 1) := zdal_p dlD_M_laysMarks_99 (i := 2) rfl
theorem d_M_laysMarks_3 : decode (zb m_M_laysMarks) 3 = .ok (.aload_n 0, 1) := zdal_p dlD_M_laysMarks_99 (i := 3) rfl
theorem d_M_laysMarks_4 : decode (zb m_M_laysMarks) 4 = .ok (.getfield 235, 3) := zdal_p dlD_M_laysMarks_99 (i := 4) rfl
theorem d_M_laysMarks_7 : decode (zb m_M_laysMarks) 7 = .ok (.if_icmp .ge 25, 3) := zdal_p dlD_M_laysMarks_99 (i := 5) rfl
theorem d_M_laysMarks_10 : decode (zb m_M_laysMarks) 10 = .ok (.aload_n 0, 1) := zdal_p dlD_M_laysMarks_99 (i := 6) rfl
theorem d_M_laysMarks_11 : decode (zb m_M_laysMarks) 11 = .ok (.getfield 69, 3) := zdal_p dlD_M_laysMarks_99 (i := 7) rfl
theorem d_M_laysMarks_14 : decode (zb m_M_laysMarks) 14 = .ok (.iload_n 1, 1) := zdal_p dlD_M_laysMarks_99 (i := 8) rfl
theorem d_M_laysMarks_15 : decode (zb m_M_laysMarks) 15 = .ok (.aload_n 0, 1) := zdal_p dlD_M_laysMarks_99 (i := 9) rfl
theorem d_M_laysMarks_16 : decode (zb m_M_laysMarks) 16 = .ok (.aload_n 0, 1) := zdal_p dlD_M_laysMarks_99 (i := 10) rfl
theorem d_M_laysMarks_17 : decode (zb m_M_laysMarks) 17 = .ok (.getfield 66, 3) := zdal_p dlD_M_laysMarks_99 (i := 11) rfl
theorem d_M_laysMarks_20 : decode (zb m_M_laysMarks) 20 = .ok (.iconst 0, 1) := zdal_p dlD_M_laysMarks_99 (i := 12) rfl
theorem d_M_laysMarks_21 : decode (zb m_M_laysMarks) 21 = .ok (.iload_n 1, 1) := zdal_p dlD_M_laysMarks_99 (i := 13) rfl
theorem d_M_laysMarks_22 : decode (zb m_M_laysMarks) 22 = .ok (.invokevirtual 264, 3) := zdal_p dlD_M_laysMarks_99 (i := 14) rfl
theorem d_M_laysMarks_25 : decode (zb m_M_laysMarks) 25 = .ok (.lastore, 1) := zdal_p dlD_M_laysMarks_99 (i := 15) rfl
theorem d_M_laysMarks_26 : decode (zb m_M_laysMarks) 26 = .ok (.iinc 1 1, 3) := zdal_p dlD_M_laysMarks_99 (i := 16) rfl
theorem d_M_laysMarks_29 : decode (zb m_M_laysMarks) 29 = .ok (.goto (-27), 3) := zdal_p dlD_M_laysMarks_99 (i := 17) rfl
theorem d_M_laysMarks_32 : decode (zb m_M_laysMarks) 32 = .ok (.return_, 1) := zdal_p dlD_M_laysMarks_99 (i := 18) rfl
theorem dlD_M_congruenceOf_100 : zdal (zb m_M_congruenceOf) [(0, (.aload_n 0, 1)), (1, (.iload_n 2, 1)), (2, (.invokevirtual 456, 3)), (5, (.lconst 0, 1)), (6, (.lstore_n 3, 1)), (7, (.iconst 0, 1)), (8, (.istore 5, 2)), (10, (.iload 5, 2)), (12, (.aload_n 0, 1)), (13, (.getfield 453, 3)), (16, (.if_icmp .ge 21, 3)), (19, (.lload_n 3, 1)), (20, (.aload_n 1, 1)), (21, (.aload_n 0, 1)), (22, (.getfield 99, 3)), (25, (.iload 5, 2)), (27, (.iaload, 1)), (28, (.laload, 1)), (29, (.ladd, 1)), (30, (.lstore_n 3, 1)), (31, (.iinc 5 1, 3)), (34, (.goto (-24), 3)), (37, (.lload_n 3, 1)), (38, (.lreturn, 1))] = true := zDs 0 (by decide +kernel)
theorem d_M_congruenceOf_0 : decode (zb m_M_congruenceOf) 0 = .ok (.aload_n 0, 1) := zdal_p dlD_M_congruenceOf_100 (i := 0) rfl
theorem d_M_congruenceOf_1 : decode (zb m_M_congruenceOf) 1 = .ok (.iload_n 2, 1) := zdal_p dlD_M_congruenceOf_100 (i := 1) rfl
theorem d_M_congruenceOf_2 : decode (zb m_M_congruenceOf) 2 = .ok (.invokevirtual 456, 3) := zdal_p dlD_M_congruenceOf_100 (i := 2) rfl
theorem d_M_congruenceOf_5 : decode (zb m_M_congruenceOf) 5 = .ok (.lconst 0, 1) := zdal_p dlD_M_congruenceOf_100 (i := 3) rfl
theorem d_M_congruenceOf_6 : decode (zb m_M_congruenceOf) 6 = .ok (.lstore_n 3, 1) := zdal_p dlD_M_congruenceOf_100 (i := 4) rfl
theorem d_M_congruenceOf_7 : decode (zb m_M_congruenceOf) 7 = .ok (.iconst 0, 1) := zdal_p dlD_M_congruenceOf_100 (i := 5) rfl
theorem d_M_congruenceOf_8 : decode (zb m_M_congruenceOf) 8 = .ok (.istore 5, 2) := zdal_p dlD_M_congruenceOf_100 (i := 6) rfl
theorem d_M_congruenceOf_10 : decode (zb m_M_congruenceOf) 10 = .ok (.iload 5, 2) := zdal_p dlD_M_congruenceOf_100 (i := 7) rfl
theorem d_M_congruenceOf_12 : decode (zb m_M_congruenceOf) 12 = .ok (.aload_n 0, 1) := zdal_p dlD_M_congruenceOf_100 (i := 8) rfl
theorem d_M_congruenceOf_13 : decode (zb m_M_congruenceOf) 13 = .ok (.getfield 453, 3) := zdal_p dlD_M_congruenceOf_100 (i := 9) rfl
theorem d_M_congruenceOf_16 : decode (zb m_M_congruenceOf) 16 = .ok (.if_icmp .ge 21, 3) := zdal_p dlD_M_congruenceOf_100 (i := 10) rfl
theorem d_M_congruenceOf_19 : decode (zb m_M_congruenceOf) 19 = .ok (.lload_n 3, 1) := zdal_p dlD_M_congruenceOf_100 (i := 11) rfl
theorem d_M_congruenceOf_20 : decode (zb m_M_congruenceOf) 20 = .ok (.aload_n 1, 1) := zdal_p dlD_M_congruenceOf_100 (i := 12) rfl
theorem d_M_congruenceOf_21 : decode (zb m_M_congruenceOf) 21 = .ok (.aload_n 0, 1) := zdal_p dlD_M_congruenceOf_100 (i := 13) rfl
theorem d_M_congruenceOf_22 : decode (zb m_M_congruenceOf) 22 = .ok (.getfield 99, 3) := zdal_p dlD_M_congruenceOf_100 (i := 14) rfl
theorem d_M_congruenceOf_25 : decode (zb m_M_congruenceOf) 25 = .ok (.iload 5, 2) := zdal_p dlD_M_congruenceOf_100 (i := 15) rfl
theorem d_M_congruenceOf_27 : decode (zb m_M_congruenceOf) 27 = .ok (.iaload, 1) := zdal_p dlD_M_congruenceOf_100 (i := 16) rfl
theorem d_M_congruenceOf_28 : decode (zb m_M_congruenceOf) 28 = .ok (.laload, 1) := zdal_p dlD_M_congruenceOf_100 (i := 17) rfl
theorem d_M_congruenceOf_29 : decode (zb m_M_congruenceOf) 29 = .ok (.ladd, 1) := zdal_p dlD_M_congruenceOf_100 (i := 18) rfl
theorem d_M_congruenceOf_30 : decode (zb m_M_congruenceOf) 30 = .ok (.lstore_n 3, 1) := zdal_p dlD_M_congruenceOf_100 (i := 19) rfl
theorem d_M_congruenceOf_31 : decode (zb m_M_congruenceOf) 31 = .ok (.iinc 5 1, 3) := zdal_p dlD_M_congruenceOf_100 (i := 20) rfl
theorem d_M_congruenceOf_34 : decode (zb m_M_congruenceOf) 34 = .ok (.goto (-24), 3) := zdal_p dlD_M_congruenceOf_100 (i := 21) rfl
theorem d_M_congruenceOf_37 : decode (zb m_M_congruenceOf) 37 = .ok (.lload_n 3, 1) := zdal_p dlD_M_congruenceOf_100 (i := 22) rfl
theorem d_M_congruenceOf_38 : decode (zb m_M_congruenceOf) 38 = .ok (.lreturn, 1) := zdal_p dlD_M_congruenceOf_100 (i := 23) rfl
theorem dlD_M_is_101 : zdal (zb m_M_is) [(0, (.iload_n 1, 1)), (1, (.i2l, 1)), (2, (.lconst 0, 1)), (3, (.ldc2_w 479, 3)), (6, (.invokestatic 131, 3)), (9, (.ifCond .ne 5, 3)), (12, (.iconst (-1), 1)), (13, (.ireturn, 1)), (14, (.aload_n 0, 1)), (15, (.invokevirtual 472, 3)), (18, (.iconst 1, 1)), (19, (.istore_n 2, 1)), (20, (.iconst 0, 1)), (21, (.istore_n 3, 1)), (22, (.iconst 0, 1)), (23, (.istore 4, 2)), (25, (.iload 4, 2)), (27, (.aload_n 0, 1)), (28, (.getfield 235, 3)), (31, (.if_icmp .ge 142, 3)), (34, (.aload_n 0, 1)), (35, (.getfield 69, 3)), (38, (.iload 4, 2)), (40, (.laload, 1))] = true := zDs 0 (by decide +kernel)
theorem d_M_is_0 : decode (zb m_M_is) 0 = .ok (.iload_n 1, 1) := zdal_p dlD_M_is_101 (i := 0) rfl
theorem d_M_is_1 : decode (zb m_M_is) 1 = .ok (.i2l, 1) := zdal_p dlD_M_is_101 (i := 1) rfl
theorem d_M_is_2 : decode (zb m_M_is) 2 = .ok (.lconst 0, 1) := zdal_p dlD_M_is_101 (i := 2) rfl
theorem d_M_is_3 : decode (zb m_M_is) 3 = .ok (.ldc2_w 479, 3) := zdal_p dlD_M_is_101 (i := 3) rfl
theorem d_M_is_6 : decode (zb m_M_is) 6 = .ok (.invokestatic 131, 3) := zdal_p dlD_M_is_101 (i := 4) rfl
theorem d_M_is_9 : decode (zb m_M_is) 9 = .ok (.ifCond .ne 5, 3) := zdal_p dlD_M_is_101 (i := 5) rfl
theorem d_M_is_12 : decode (zb m_M_is) 12 = .ok (.iconst (-1), 1) := zdal_p dlD_M_is_101 (i := 6) rfl
theorem d_M_is_13 : decode (zb m_M_is) 13 = .ok (.ireturn, 1) := zdal_p dlD_M_is_101 (i := 7) rfl
theorem d_M_is_14 : decode (zb m_M_is) 14 = .ok (.aload_n 0, 1) := zdal_p dlD_M_is_101 (i := 8) rfl
theorem d_M_is_15 : decode (zb m_M_is) 15 = .ok (.invokevirtual 472, 3) := zdal_p dlD_M_is_101 (i := 9) rfl
theorem d_M_is_18 : decode (zb m_M_is) 18 = .ok (.iconst 1, 1) := zdal_p dlD_M_is_101 (i := 10) rfl
theorem d_M_is_19 : decode (zb m_M_is) 19 = .ok (.istore_n 2, 1) := zdal_p dlD_M_is_101 (i := 11) rfl
theorem d_M_is_20 : decode (zb m_M_is) 20 = .ok (.iconst 0, 1) := zdal_p dlD_M_is_101 (i := 12) rfl
theorem d_M_is_21 : decode (zb m_M_is) 21 = .ok (.istore_n 3, 1) := zdal_p dlD_M_is_101 (i := 13) rfl
theorem d_M_is_22 : decode (zb m_M_is) 22 = .ok (.iconst 0, 1) := zdal_p dlD_M_is_101 (i := 14) rfl
theorem d_M_is_23 : decode (zb m_M_is) 23 = .ok (.istore 4, 2) := zdal_p dlD_M_is_101 (i := 15) rfl
theorem d_M_is_25 : decode (zb m_M_is) 25 = .ok (.iload 4, 2) := zdal_p dlD_M_is_101 (i := 16) rfl
theorem d_M_is_27 : decode (zb m_M_is) 27 = .ok (.aload_n 0, 1) := zdal_p dlD_M_is_101 (i := 17) rfl
theorem d_M_is_28 : decode (zb m_M_is) 28 = .ok (.getfield 235, 3) := zdal_p dlD_M_is_101 (i := 18) rfl
theorem d_M_is_31 : decode (zb m_M_is) 31 = .ok (.if_icmp .ge 142, 3) := zdal_p dlD_M_is_101 (i := 19) rfl
theorem d_M_is_34 : decode (zb m_M_is) 34 = .ok (.aload_n 0, 1) := zdal_p dlD_M_is_101 (i := 20) rfl
theorem d_M_is_35 : decode (zb m_M_is) 35 = .ok (.getfield 69, 3) := zdal_p dlD_M_is_101 (i := 21) rfl
theorem d_M_is_38 : decode (zb m_M_is) 38 = .ok (.iload 4, 2) := zdal_p dlD_M_is_101 (i := 22) rfl
theorem d_M_is_40 : decode (zb m_M_is) 40 = .ok (.laload, 1) := zdal_p dlD_M_is_101 (i := 23) rfl
theorem dlD_M_is_102 : zdal (zb m_M_is) [(41, (.lstore 5, 2)), (43, (.iload_n 1, 1)), (44, (.ifCond .ne 23, 3)), (47, (.aload_n 0, 1)), (48, (.getfield 66, 3)), (51, (.iload 4, 2)), (53, (.laload, 1)), (54, (.lconst 0, 1)), (55, (.lcmp, 1)), (56, (.ifCond .lt 7, 3)), (59, (.iconst 1, 1)), (60, (.goto 75, 3)), (63, (.iconst 0, 1)), (64, (.goto 71, 3)), (67, (.iload_n 1, 1)), (68, (.iconst 1, 1)), (69, (.if_icmp .ne 25, 3)), (72, (.lload 5, 2)), (74, (.lconst 0, 1)), (75, (.lcmp, 1)), (76, (.ifCond .eq 10, 3)), (79, (.lload 5, 2)), (81, (.lconst 1, 1)), (82, (.lcmp, 1))] = true := zDs 41 (by decide +kernel)
theorem d_M_is_41 : decode (zb m_M_is) 41 = .ok (.lstore 5, 2) := zdal_p dlD_M_is_102 (i := 0) rfl
theorem d_M_is_43 : decode (zb m_M_is) 43 = .ok (.iload_n 1, 1) := zdal_p dlD_M_is_102 (i := 1) rfl
theorem d_M_is_44 : decode (zb m_M_is) 44 = .ok (.ifCond .ne 23, 3) := zdal_p dlD_M_is_102 (i := 2) rfl
theorem d_M_is_47 : decode (zb m_M_is) 47 = .ok (.aload_n 0, 1) := zdal_p dlD_M_is_102 (i := 3) rfl
theorem d_M_is_48 : decode (zb m_M_is) 48 = .ok (.getfield 66, 3) := zdal_p dlD_M_is_102 (i := 4) rfl
theorem d_M_is_51 : decode (zb m_M_is) 51 = .ok (.iload 4, 2) := zdal_p dlD_M_is_102 (i := 5) rfl
theorem d_M_is_53 : decode (zb m_M_is) 53 = .ok (.laload, 1) := zdal_p dlD_M_is_102 (i := 6) rfl
theorem d_M_is_54 : decode (zb m_M_is) 54 = .ok (.lconst 0, 1) := zdal_p dlD_M_is_102 (i := 7) rfl
theorem d_M_is_55 : decode (zb m_M_is) 55 = .ok (.lcmp, 1) := zdal_p dlD_M_is_102 (i := 8) rfl
theorem d_M_is_56 : decode (zb m_M_is) 56 = .ok (.ifCond .lt 7, 3) := zdal_p dlD_M_is_102 (i := 9) rfl
theorem d_M_is_59 : decode (zb m_M_is) 59 = .ok (.iconst 1, 1) := zdal_p dlD_M_is_102 (i := 10) rfl
theorem d_M_is_60 : decode (zb m_M_is) 60 = .ok (.goto 75, 3) := zdal_p dlD_M_is_102 (i := 11) rfl
theorem d_M_is_63 : decode (zb m_M_is) 63 = .ok (.iconst 0, 1) := zdal_p dlD_M_is_102 (i := 12) rfl
theorem d_M_is_64 : decode (zb m_M_is) 64 = .ok (.goto 71, 3) := zdal_p dlD_M_is_102 (i := 13) rfl
theorem d_M_is_67 : decode (zb m_M_is) 67 = .ok (.iload_n 1, 1) := zdal_p dlD_M_is_102 (i := 14) rfl
theorem d_M_is_68 : decode (zb m_M_is) 68 = .ok (.iconst 1, 1) := zdal_p dlD_M_is_102 (i := 15) rfl
theorem d_M_is_69 : decode (zb m_M_is) 69 = .ok (.if_icmp .ne 25, 3) := zdal_p dlD_M_is_102 (i := 16) rfl
theorem d_M_is_72 : decode (zb m_M_is) 72 = .ok (.lload 5, 2) := zdal_p dlD_M_is_102 (i := 17) rfl
theorem d_M_is_74 : decode (zb m_M_is) 74 = .ok (.lconst 0, 1) := zdal_p dlD_M_is_102 (i := 18) rfl
theorem d_M_is_75 : decode (zb m_M_is) 75 = .ok (.lcmp, 1) := zdal_p dlD_M_is_102 (i := 19) rfl
theorem d_M_is_76 : decode (zb m_M_is) 76 = .ok (.ifCond .eq 10, 3) := zdal_p dlD_M_is_102 (i := 20) rfl
theorem d_M_is_79 : decode (zb m_M_is) 79 = .ok (.lload 5, 2) := zdal_p dlD_M_is_102 (i := 21) rfl
theorem d_M_is_81 : decode (zb m_M_is) 81 = .ok (.lconst 1, 1) := zdal_p dlD_M_is_102 (i := 22) rfl
theorem d_M_is_82 : decode (zb m_M_is) 82 = .ok (.lcmp, 1) := zdal_p dlD_M_is_102 (i := 23) rfl
theorem dlD_M_is_103 : zdal (zb m_M_is) [(83, (.ifCond .ne 7, 3)), (86, (.iconst 1, 1)), (87, (.goto 48, 3)), (90, (.iconst 0, 1)), (91, (.goto 44, 3)), (94, (.iload_n 1, 1)), (95, (.iconst 2, 1)), (96, (.if_icmp .ne 27, 3)), (99, (.lload 5, 2)), (101, (.lconst 1, 1)), (102, (.lcmp, 1)), (103, (.ifCond .eq 12, 3)), (106, (.lload 5, 2)), (108, (.ldc2_w 468, 3)), (111, (.lcmp, 1)), (112, (.ifCond .ne 7, 3)), (115, (.iconst 1, 1)), (116, (.goto 19, 3)), (119, (.iconst 0, 1)), (120, (.goto 15, 3)), (123, (.lload 5, 2)), (125, (.lconst 0, 1)), (126, (.lcmp, 1)), (127, (.ifCond .ne 7, 3))] = true := zDs 83 (by decide +kernel)
theorem d_M_is_83 : decode (zb m_M_is) 83 = .ok (.ifCond .ne 7, 3) := zdal_p dlD_M_is_103 (i := 0) rfl
theorem d_M_is_86 : decode (zb m_M_is) 86 = .ok (.iconst 1, 1) := zdal_p dlD_M_is_103 (i := 1) rfl
theorem d_M_is_87 : decode (zb m_M_is) 87 = .ok (.goto 48, 3) := zdal_p dlD_M_is_103 (i := 2) rfl
theorem d_M_is_90 : decode (zb m_M_is) 90 = .ok (.iconst 0, 1) := zdal_p dlD_M_is_103 (i := 3) rfl
theorem d_M_is_91 : decode (zb m_M_is) 91 = .ok (.goto 44, 3) := zdal_p dlD_M_is_103 (i := 4) rfl
theorem d_M_is_94 : decode (zb m_M_is) 94 = .ok (.iload_n 1, 1) := zdal_p dlD_M_is_103 (i := 5) rfl
theorem d_M_is_95 : decode (zb m_M_is) 95 = .ok (.iconst 2, 1) := zdal_p dlD_M_is_103 (i := 6) rfl
theorem d_M_is_96 : decode (zb m_M_is) 96 = .ok (.if_icmp .ne 27, 3) := zdal_p dlD_M_is_103 (i := 7) rfl
theorem d_M_is_99 : decode (zb m_M_is) 99 = .ok (.lload 5, 2) := zdal_p dlD_M_is_103 (i := 8) rfl
theorem d_M_is_101 : decode (zb m_M_is) 101 = .ok (.lconst 1, 1) := zdal_p dlD_M_is_103 (i := 9) rfl
theorem d_M_is_102 : decode (zb m_M_is) 102 = .ok (.lcmp, 1) := zdal_p dlD_M_is_103 (i := 10) rfl
theorem d_M_is_103 : decode (zb m_M_is) 103 = .ok (.ifCond .eq 12, 3) := zdal_p dlD_M_is_103 (i := 11) rfl
theorem d_M_is_106 : decode (zb m_M_is) 106 = .ok (.lload 5, 2) := zdal_p dlD_M_is_103 (i := 12) rfl
theorem d_M_is_108 : decode (zb m_M_is) 108 = .ok (.ldc2_w 468, 3) := zdal_p dlD_M_is_103 (i := 13) rfl
theorem d_M_is_111 : decode (zb m_M_is) 111 = .ok (.lcmp, 1) := zdal_p dlD_M_is_103 (i := 14) rfl
theorem d_M_is_112 : decode (zb m_M_is) 112 = .ok (.ifCond .ne 7, 3) := zdal_p dlD_M_is_103 (i := 15) rfl
theorem d_M_is_115 : decode (zb m_M_is) 115 = .ok (.iconst 1, 1) := zdal_p dlD_M_is_103 (i := 16) rfl
theorem d_M_is_116 : decode (zb m_M_is) 116 = .ok (.goto 19, 3) := zdal_p dlD_M_is_103 (i := 17) rfl
theorem d_M_is_119 : decode (zb m_M_is) 119 = .ok (.iconst 0, 1) := zdal_p dlD_M_is_103 (i := 18) rfl
theorem d_M_is_120 : decode (zb m_M_is) 120 = .ok (.goto 15, 3) := zdal_p dlD_M_is_103 (i := 19) rfl
theorem d_M_is_123 : decode (zb m_M_is) 123 = .ok (.lload 5, 2) := zdal_p dlD_M_is_103 (i := 20) rfl
theorem d_M_is_125 : decode (zb m_M_is) 125 = .ok (.lconst 0, 1) := zdal_p dlD_M_is_103 (i := 21) rfl
theorem d_M_is_126 : decode (zb m_M_is) 126 = .ok (.lcmp, 1) := zdal_p dlD_M_is_103 (i := 22) rfl
theorem d_M_is_127 : decode (zb m_M_is) 127 = .ok (.ifCond .ne 7, 3) := zdal_p dlD_M_is_103 (i := 23) rfl
theorem dlD_M_is_104 : zdal (zb m_M_is) [(130, (.iconst 1, 1)), (131, (.goto 4, 3)), (134, (.iconst 0, 1)), (135, (.istore 7, 2)), (137, (.iload_n 2, 1)), (138, (.ifCond .eq 12, 3)), (141, (.iload 7, 2)), (143, (.ifCond .eq 7, 3)), (146, (.iconst 1, 1)), (147, (.goto 4, 3)), (150, (.iconst 0, 1)), (151, (.istore_n 2, 1)), (152, (.iload_n 3, 1)), (153, (.ifCond .ne 8, 3)), (156, (.iload 7, 2)), (158, (.ifCond .eq 7, 3)), (161, (.iconst 1, 1)), (162, (.goto 4, 3)), (165, (.iconst 0, 1)), (166, (.istore_n 3, 1)), (167, (.iinc 4 1, 3)), (170, (.goto (-145), 3)), (173, (.iload_n 1, 1)), (174, (.iconst 3, 1))] = true := zDs 130 (by decide +kernel)
theorem d_M_is_130 : decode (zb m_M_is) 130 = .ok (.iconst 1, 1) := zdal_p dlD_M_is_104 (i := 0) rfl
theorem d_M_is_131 : decode (zb m_M_is) 131 = .ok (.goto 4, 3) := zdal_p dlD_M_is_104 (i := 1) rfl
theorem d_M_is_134 : decode (zb m_M_is) 134 = .ok (.iconst 0, 1) := zdal_p dlD_M_is_104 (i := 2) rfl
theorem d_M_is_135 : decode (zb m_M_is) 135 = .ok (.istore 7, 2) := zdal_p dlD_M_is_104 (i := 3) rfl
theorem d_M_is_137 : decode (zb m_M_is) 137 = .ok (.iload_n 2, 1) := zdal_p dlD_M_is_104 (i := 4) rfl
theorem d_M_is_138 : decode (zb m_M_is) 138 = .ok (.ifCond .eq 12, 3) := zdal_p dlD_M_is_104 (i := 5) rfl
theorem d_M_is_141 : decode (zb m_M_is) 141 = .ok (.iload 7, 2) := zdal_p dlD_M_is_104 (i := 6) rfl
theorem d_M_is_143 : decode (zb m_M_is) 143 = .ok (.ifCond .eq 7, 3) := zdal_p dlD_M_is_104 (i := 7) rfl
theorem d_M_is_146 : decode (zb m_M_is) 146 = .ok (.iconst 1, 1) := zdal_p dlD_M_is_104 (i := 8) rfl
theorem d_M_is_147 : decode (zb m_M_is) 147 = .ok (.goto 4, 3) := zdal_p dlD_M_is_104 (i := 9) rfl
theorem d_M_is_150 : decode (zb m_M_is) 150 = .ok (.iconst 0, 1) := zdal_p dlD_M_is_104 (i := 10) rfl
theorem d_M_is_151 : decode (zb m_M_is) 151 = .ok (.istore_n 2, 1) := zdal_p dlD_M_is_104 (i := 11) rfl
theorem d_M_is_152 : decode (zb m_M_is) 152 = .ok (.iload_n 3, 1) := zdal_p dlD_M_is_104 (i := 12) rfl
theorem d_M_is_153 : decode (zb m_M_is) 153 = .ok (.ifCond .ne 8, 3) := zdal_p dlD_M_is_104 (i := 13) rfl
theorem d_M_is_156 : decode (zb m_M_is) 156 = .ok (.iload 7, 2) := zdal_p dlD_M_is_104 (i := 14) rfl
theorem d_M_is_158 : decode (zb m_M_is) 158 = .ok (.ifCond .eq 7, 3) := zdal_p dlD_M_is_104 (i := 15) rfl
theorem d_M_is_161 : decode (zb m_M_is) 161 = .ok (.iconst 1, 1) := zdal_p dlD_M_is_104 (i := 16) rfl
theorem d_M_is_162 : decode (zb m_M_is) 162 = .ok (.goto 4, 3) := zdal_p dlD_M_is_104 (i := 17) rfl
theorem d_M_is_165 : decode (zb m_M_is) 165 = .ok (.iconst 0, 1) := zdal_p dlD_M_is_104 (i := 18) rfl
theorem d_M_is_166 : decode (zb m_M_is) 166 = .ok (.istore_n 3, 1) := zdal_p dlD_M_is_104 (i := 19) rfl
theorem d_M_is_167 : decode (zb m_M_is) 167 = .ok (.iinc 4 1, 3) := zdal_p dlD_M_is_104 (i := 20) rfl
theorem d_M_is_170 : decode (zb m_M_is) 170 = .ok (.goto (-145), 3) := zdal_p dlD_M_is_104 (i := 21) rfl
theorem d_M_is_173 : decode (zb m_M_is) 173 = .ok (.iload_n 1, 1) := zdal_p dlD_M_is_104 (i := 22) rfl
theorem d_M_is_174 : decode (zb m_M_is) 174 = .ok (.iconst 3, 1) := zdal_p dlD_M_is_104 (i := 23) rfl
theorem dlD_M_is_105 : zdal (zb m_M_is) [(175, (.if_icmp .ne 7, 3)), (178, (.iload_n 3, 1)), (179, (.goto 4, 3)), (182, (.iload_n 2, 1)), (183, (.invokestatic 256, 3)), (186, (.ireturn, 1))] = true := zDs 175 (by decide +kernel)
theorem d_M_is_175 : decode (zb m_M_is) 175 = .ok (.if_icmp .ne 7, 3) := zdal_p dlD_M_is_105 (i := 0) rfl
theorem d_M_is_178 : decode (zb m_M_is) 178 = .ok (.iload_n 3, 1) := zdal_p dlD_M_is_105 (i := 1) rfl
theorem d_M_is_179 : decode (zb m_M_is) 179 = .ok (.goto 4, 3) := zdal_p dlD_M_is_105 (i := 2) rfl
theorem d_M_is_182 : decode (zb m_M_is) 182 = .ok (.iload_n 2, 1) := zdal_p dlD_M_is_105 (i := 3) rfl
theorem d_M_is_183 : decode (zb m_M_is) 183 = .ok (.invokestatic 256, 3) := zdal_p dlD_M_is_105 (i := 4) rfl
theorem d_M_is_186 : decode (zb m_M_is) 186 = .ok (.ireturn, 1) := zdal_p dlD_M_is_105 (i := 5) rfl
theorem dlD_M_makes_106 : zdal (zb m_M_makes) [(0, (.aload_n 0, 1)), (1, (.invokevirtual 367, 3)), (4, (.aload_n 0, 1)), (5, (.invokevirtual 358, 3)), (8, (.aload_n 0, 1)), (9, (.invokevirtual 183, 3)), (12, (.ifCond .eq 15, 3)), (15, (.aload_n 0, 1)), (16, (.getfield 155, 3)), (19, (.ifCond .eq 8, 3)), (22, (.aload_n 0, 1)), (23, (.iconst 2, 1)), (24, (.invokevirtual 190, 3)), (27, (.aload_n 0, 1)), (28, (.invokevirtual 183, 3)), (31, (.ifCond .eq 17, 3)), (34, (.aload_n 0, 1)), (35, (.getfield 275, 3)), (38, (.ifCond .eq 10, 3)), (41, (.aload_n 0, 1)), (42, (.bipush 6, 2)), (44, (.iconst 0, 1)), (45, (.invokevirtual 168, 3)), (48, (.aload_n 0, 1))] = true := zDs 0 (by decide +kernel)
theorem d_M_makes_0 : decode (zb m_M_makes) 0 = .ok (.aload_n 0, 1) := zdal_p dlD_M_makes_106 (i := 0) rfl
theorem d_M_makes_1 : decode (zb m_M_makes) 1 = .ok (.invokevirtual 367, 3) := zdal_p dlD_M_makes_106 (i := 1) rfl
theorem d_M_makes_4 : decode (zb m_M_makes) 4 = .ok (.aload_n 0, 1) := zdal_p dlD_M_makes_106 (i := 2) rfl
theorem d_M_makes_5 : decode (zb m_M_makes) 5 = .ok (.invokevirtual 358, 3) := zdal_p dlD_M_makes_106 (i := 3) rfl
theorem d_M_makes_8 : decode (zb m_M_makes) 8 = .ok (.aload_n 0, 1) := zdal_p dlD_M_makes_106 (i := 4) rfl
theorem d_M_makes_9 : decode (zb m_M_makes) 9 = .ok (.invokevirtual 183, 3) := zdal_p dlD_M_makes_106 (i := 5) rfl
theorem d_M_makes_12 : decode (zb m_M_makes) 12 = .ok (.ifCond .eq 15, 3) := zdal_p dlD_M_makes_106 (i := 6) rfl
theorem d_M_makes_15 : decode (zb m_M_makes) 15 = .ok (.aload_n 0, 1) := zdal_p dlD_M_makes_106 (i := 7) rfl
theorem d_M_makes_16 : decode (zb m_M_makes) 16 = .ok (.getfield 155, 3) := zdal_p dlD_M_makes_106 (i := 8) rfl
theorem d_M_makes_19 : decode (zb m_M_makes) 19 = .ok (.ifCond .eq 8, 3) := zdal_p dlD_M_makes_106 (i := 9) rfl
theorem d_M_makes_22 : decode (zb m_M_makes) 22 = .ok (.aload_n 0, 1) := zdal_p dlD_M_makes_106 (i := 10) rfl
theorem d_M_makes_23 : decode (zb m_M_makes) 23 = .ok (.iconst 2, 1) := zdal_p dlD_M_makes_106 (i := 11) rfl
theorem d_M_makes_24 : decode (zb m_M_makes) 24 = .ok (.invokevirtual 190, 3) := zdal_p dlD_M_makes_106 (i := 12) rfl
theorem d_M_makes_27 : decode (zb m_M_makes) 27 = .ok (.aload_n 0, 1) := zdal_p dlD_M_makes_106 (i := 13) rfl
theorem d_M_makes_28 : decode (zb m_M_makes) 28 = .ok (.invokevirtual 183, 3) := zdal_p dlD_M_makes_106 (i := 14) rfl
theorem d_M_makes_31 : decode (zb m_M_makes) 31 = .ok (.ifCond .eq 17, 3) := zdal_p dlD_M_makes_106 (i := 15) rfl
theorem d_M_makes_34 : decode (zb m_M_makes) 34 = .ok (.aload_n 0, 1) := zdal_p dlD_M_makes_106 (i := 16) rfl
theorem d_M_makes_35 : decode (zb m_M_makes) 35 = .ok (.getfield 275, 3) := zdal_p dlD_M_makes_106 (i := 17) rfl
theorem d_M_makes_38 : decode (zb m_M_makes) 38 = .ok (.ifCond .eq 10, 3) := zdal_p dlD_M_makes_106 (i := 18) rfl
theorem d_M_makes_41 : decode (zb m_M_makes) 41 = .ok (.aload_n 0, 1) := zdal_p dlD_M_makes_106 (i := 19) rfl
theorem d_M_makes_42 : decode (zb m_M_makes) 42 = .ok (.bipush 6, 2) := zdal_p dlD_M_makes_106 (i := 20) rfl
theorem d_M_makes_44 : decode (zb m_M_makes) 44 = .ok (.iconst 0, 1) := zdal_p dlD_M_makes_106 (i := 21) rfl
theorem d_M_makes_45 : decode (zb m_M_makes) 45 = .ok (.invokevirtual 168, 3) := zdal_p dlD_M_makes_106 (i := 22) rfl
theorem d_M_makes_48 : decode (zb m_M_makes) 48 = .ok (.aload_n 0, 1) := zdal_p dlD_M_makes_106 (i := 23) rfl
theorem dlD_M_makes_107 : zdal (zb m_M_makes) [(49, (.invokevirtual 373, 3)), (52, (.aload_n 0, 1)), (53, (.getfield 172, 3)), (56, (.ifCond .le 5, 3)), (59, (.iconst (-1), 1)), (60, (.ireturn, 1)), (61, (.aload_n 0, 1)), (62, (.invokevirtual 481, 3)), (65, (.iconst 0, 1)), (66, (.istore_n 1, 1)), (67, (.iload_n 1, 1)), (68, (.aload_n 0, 1)), (69, (.getfield 235, 3)), (72, (.if_icmp .ge 21, 3)), (75, (.aload_n 0, 1)), (76, (.getfield 66, 3)), (79, (.iload_n 1, 1)), (80, (.aload_n 0, 1)), (81, (.getfield 56, 3)), (84, (.iload_n 1, 1)), (85, (.laload, 1)), (86, (.lastore, 1)), (87, (.iinc 1 1, 3)), (90, (.goto (-23), 3))] = true := zDs 49 (by decide +kernel)
theorem d_M_makes_49 : decode (zb m_M_makes) 49 = .ok (.invokevirtual 373, 3) := zdal_p dlD_M_makes_107 (i := 0) rfl
theorem d_M_makes_52 : decode (zb m_M_makes) 52 = .ok (.aload_n 0, 1) := zdal_p dlD_M_makes_107 (i := 1) rfl
theorem d_M_makes_53 : decode (zb m_M_makes) 53 = .ok (.getfield 172, 3) := zdal_p dlD_M_makes_107 (i := 2) rfl
theorem d_M_makes_56 : decode (zb m_M_makes) 56 = .ok (.ifCond .le 5, 3) := zdal_p dlD_M_makes_107 (i := 3) rfl
theorem d_M_makes_59 : decode (zb m_M_makes) 59 = .ok (.iconst (-1), 1) := zdal_p dlD_M_makes_107 (i := 4) rfl
theorem d_M_makes_60 : decode (zb m_M_makes) 60 = .ok (.ireturn, 1) := zdal_p dlD_M_makes_107 (i := 5) rfl
theorem d_M_makes_61 : decode (zb m_M_makes) 61 = .ok (.aload_n 0, 1) := zdal_p dlD_M_makes_107 (i := 6) rfl
theorem d_M_makes_62 : decode (zb m_M_makes) 62 = .ok (.invokevirtual 481, 3) := zdal_p dlD_M_makes_107 (i := 7) rfl
theorem d_M_makes_65 : decode (zb m_M_makes) 65 = .ok (.iconst 0, 1) := zdal_p dlD_M_makes_107 (i := 8) rfl
theorem d_M_makes_66 : decode (zb m_M_makes) 66 = .ok (.istore_n 1, 1) := zdal_p dlD_M_makes_107 (i := 9) rfl
theorem d_M_makes_67 : decode (zb m_M_makes) 67 = .ok (.iload_n 1, 1) := zdal_p dlD_M_makes_107 (i := 10) rfl
theorem d_M_makes_68 : decode (zb m_M_makes) 68 = .ok (.aload_n 0, 1) := zdal_p dlD_M_makes_107 (i := 11) rfl
theorem d_M_makes_69 : decode (zb m_M_makes) 69 = .ok (.getfield 235, 3) := zdal_p dlD_M_makes_107 (i := 12) rfl
theorem d_M_makes_72 : decode (zb m_M_makes) 72 = .ok (.if_icmp .ge 21, 3) := zdal_p dlD_M_makes_107 (i := 13) rfl
theorem d_M_makes_75 : decode (zb m_M_makes) 75 = .ok (.aload_n 0, 1) := zdal_p dlD_M_makes_107 (i := 14) rfl
theorem d_M_makes_76 : decode (zb m_M_makes) 76 = .ok (.getfield 66, 3) := zdal_p dlD_M_makes_107 (i := 15) rfl
theorem d_M_makes_79 : decode (zb m_M_makes) 79 = .ok (.iload_n 1, 1) := zdal_p dlD_M_makes_107 (i := 16) rfl
theorem d_M_makes_80 : decode (zb m_M_makes) 80 = .ok (.aload_n 0, 1) := zdal_p dlD_M_makes_107 (i := 17) rfl
theorem d_M_makes_81 : decode (zb m_M_makes) 81 = .ok (.getfield 56, 3) := zdal_p dlD_M_makes_107 (i := 18) rfl
theorem d_M_makes_84 : decode (zb m_M_makes) 84 = .ok (.iload_n 1, 1) := zdal_p dlD_M_makes_107 (i := 19) rfl
theorem d_M_makes_85 : decode (zb m_M_makes) 85 = .ok (.laload, 1) := zdal_p dlD_M_makes_107 (i := 20) rfl
theorem d_M_makes_86 : decode (zb m_M_makes) 86 = .ok (.lastore, 1) := zdal_p dlD_M_makes_107 (i := 21) rfl
theorem d_M_makes_87 : decode (zb m_M_makes) 87 = .ok (.iinc 1 1, 3) := zdal_p dlD_M_makes_107 (i := 22) rfl
theorem d_M_makes_90 : decode (zb m_M_makes) 90 = .ok (.goto (-23), 3) := zdal_p dlD_M_makes_107 (i := 23) rfl
theorem dlD_M_makes_108 : zdal (zb m_M_makes) [(93, (.aload_n 0, 1)), (94, (.invokevirtual 484, 3)), (97, (.ireturn, 1))] = true := zDs 93 (by decide +kernel)
theorem d_M_makes_93 : decode (zb m_M_makes) 93 = .ok (.aload_n 0, 1) := zdal_p dlD_M_makes_108 (i := 0) rfl
theorem d_M_makes_94 : decode (zb m_M_makes) 94 = .ok (.invokevirtual 484, 3) := zdal_p dlD_M_makes_108 (i := 1) rfl
theorem d_M_makes_97 : decode (zb m_M_makes) 97 = .ok (.ireturn, 1) := zdal_p dlD_M_makes_108 (i := 2) rfl
theorem dlD_M_act_109 : zdal (zb m_M_act) [(0, (.aload_n 0, 1)), (1, (.getfield 391, 3)), (4, (.bipush 12, 2)), (6, (.if_icmp .ne 44, 3)), (9, (.bipush 64, 2)), (11, (.istore_n 1, 1)), (12, (.iload_n 1, 1)), (13, (.sipush 768, 3)), (16, (.if_icmp .ge 24, 3)), (19, (.aload_n 0, 1)), (20, (.getfield 106, 3)), (23, (.iload_n 1, 1)), (24, (.bipush 64, 2)), (26, (.isub, 1)), (27, (.aload_n 0, 1)), (28, (.getfield 106, 3)), (31, (.iload_n 1, 1)), (32, (.laload, 1)), (33, (.lastore, 1)), (34, (.iinc 1 1, 3)), (37, (.goto (-25), 3)), (40, (.aload_n 0, 1)), (41, (.dup, 1)), (42, (.getfield 391, 3))] = true := zDs 0 (by decide +kernel)
theorem d_M_act_0 : decode (zb m_M_act) 0 = .ok (.aload_n 0, 1) := zdal_p dlD_M_act_109 (i := 0) rfl
theorem d_M_act_1 : decode (zb m_M_act) 1 = .ok (.getfield 391, 3) := zdal_p dlD_M_act_109 (i := 1) rfl
theorem d_M_act_4 : decode (zb m_M_act) 4 = .ok (.bipush 12, 2) := zdal_p dlD_M_act_109 (i := 2) rfl
theorem d_M_act_6 : decode (zb m_M_act) 6 = .ok (.if_icmp .ne 44, 3) := zdal_p dlD_M_act_109 (i := 3) rfl
theorem d_M_act_9 : decode (zb m_M_act) 9 = .ok (.bipush 64, 2) := zdal_p dlD_M_act_109 (i := 4) rfl
theorem d_M_act_11 : decode (zb m_M_act) 11 = .ok (.istore_n 1, 1) := zdal_p dlD_M_act_109 (i := 5) rfl
theorem d_M_act_12 : decode (zb m_M_act) 12 = .ok (.iload_n 1, 1) := zdal_p dlD_M_act_109 (i := 6) rfl
theorem d_M_act_13 : decode (zb m_M_act) 13 = .ok (.sipush 768, 3) := zdal_p dlD_M_act_109 (i := 7) rfl
theorem d_M_act_16 : decode (zb m_M_act) 16 = .ok (.if_icmp .ge 24, 3) := zdal_p dlD_M_act_109 (i := 8) rfl
theorem d_M_act_19 : decode (zb m_M_act) 19 = .ok (.aload_n 0, 1) := zdal_p dlD_M_act_109 (i := 9) rfl
theorem d_M_act_20 : decode (zb m_M_act) 20 = .ok (.getfield 106, 3) := zdal_p dlD_M_act_109 (i := 10) rfl
theorem d_M_act_23 : decode (zb m_M_act) 23 = .ok (.iload_n 1, 1) := zdal_p dlD_M_act_109 (i := 11) rfl
theorem d_M_act_24 : decode (zb m_M_act) 24 = .ok (.bipush 64, 2) := zdal_p dlD_M_act_109 (i := 12) rfl
theorem d_M_act_26 : decode (zb m_M_act) 26 = .ok (.isub, 1) := zdal_p dlD_M_act_109 (i := 13) rfl
theorem d_M_act_27 : decode (zb m_M_act) 27 = .ok (.aload_n 0, 1) := zdal_p dlD_M_act_109 (i := 14) rfl
theorem d_M_act_28 : decode (zb m_M_act) 28 = .ok (.getfield 106, 3) := zdal_p dlD_M_act_109 (i := 15) rfl
theorem d_M_act_31 : decode (zb m_M_act) 31 = .ok (.iload_n 1, 1) := zdal_p dlD_M_act_109 (i := 16) rfl
theorem d_M_act_32 : decode (zb m_M_act) 32 = .ok (.laload, 1) := zdal_p dlD_M_act_109 (i := 17) rfl
theorem d_M_act_33 : decode (zb m_M_act) 33 = .ok (.lastore, 1) := zdal_p dlD_M_act_109 (i := 18) rfl
theorem d_M_act_34 : decode (zb m_M_act) 34 = .ok (.iinc 1 1, 3) := zdal_p dlD_M_act_109 (i := 19) rfl
theorem d_M_act_37 : decode (zb m_M_act) 37 = .ok (.goto (-25), 3) := zdal_p dlD_M_act_109 (i := 20) rfl
theorem d_M_act_40 : decode (zb m_M_act) 40 = .ok (.aload_n 0, 1) := zdal_p dlD_M_act_109 (i := 21) rfl
theorem d_M_act_41 : decode (zb m_M_act) 41 = .ok (.dup, 1) := zdal_p dlD_M_act_109 (i := 22) rfl
theorem d_M_act_42 : decode (zb m_M_act) 42 = .ok (.getfield 391, 3) := zdal_p dlD_M_act_109 (i := 23) rfl
theorem dlD_M_act_110 : zdal (zb m_M_act) [(45, (.iconst 1, 1)), (46, (.isub, 1)), (47, (.putfield 391, 3)), (50, (.iconst 0, 1)), (51, (.istore_n 1, 1)), (52, (.iload_n 1, 1)), (53, (.bipush 64, 2)), (55, (.if_icmp .ge 29, 3)), (58, (.aload_n 0, 1)), (59, (.getfield 106, 3)), (62, (.bipush 64, 2)), (64, (.aload_n 0, 1)), (65, (.getfield 391, 3)), (68, (.imul, 1)), (69, (.iload_n 1, 1)), (70, (.iadd, 1)), (71, (.aload_n 0, 1)), (72, (.getfield 66, 3)), (75, (.iload_n 1, 1)), (76, (.laload, 1)), (77, (.lastore, 1)), (78, (.iinc 1 1, 3)), (81, (.goto (-29), 3)), (84, (.aload_n 0, 1))] = true := zDs 45 (by decide +kernel)
theorem d_M_act_45 : decode (zb m_M_act) 45 = .ok (.iconst 1, 1) := zdal_p dlD_M_act_110 (i := 0) rfl
theorem d_M_act_46 : decode (zb m_M_act) 46 = .ok (.isub, 1) := zdal_p dlD_M_act_110 (i := 1) rfl
theorem d_M_act_47 : decode (zb m_M_act) 47 = .ok (.putfield 391, 3) := zdal_p dlD_M_act_110 (i := 2) rfl
theorem d_M_act_50 : decode (zb m_M_act) 50 = .ok (.iconst 0, 1) := zdal_p dlD_M_act_110 (i := 3) rfl
theorem d_M_act_51 : decode (zb m_M_act) 51 = .ok (.istore_n 1, 1) := zdal_p dlD_M_act_110 (i := 4) rfl
theorem d_M_act_52 : decode (zb m_M_act) 52 = .ok (.iload_n 1, 1) := zdal_p dlD_M_act_110 (i := 5) rfl
theorem d_M_act_53 : decode (zb m_M_act) 53 = .ok (.bipush 64, 2) := zdal_p dlD_M_act_110 (i := 6) rfl
theorem d_M_act_55 : decode (zb m_M_act) 55 = .ok (.if_icmp .ge 29, 3) := zdal_p dlD_M_act_110 (i := 7) rfl
theorem d_M_act_58 : decode (zb m_M_act) 58 = .ok (.aload_n 0, 1) := zdal_p dlD_M_act_110 (i := 8) rfl
theorem d_M_act_59 : decode (zb m_M_act) 59 = .ok (.getfield 106, 3) := zdal_p dlD_M_act_110 (i := 9) rfl
theorem d_M_act_62 : decode (zb m_M_act) 62 = .ok (.bipush 64, 2) := zdal_p dlD_M_act_110 (i := 10) rfl
theorem d_M_act_64 : decode (zb m_M_act) 64 = .ok (.aload_n 0, 1) := zdal_p dlD_M_act_110 (i := 11) rfl
theorem d_M_act_65 : decode (zb m_M_act) 65 = .ok (.getfield 391, 3) := zdal_p dlD_M_act_110 (i := 12) rfl
theorem d_M_act_68 : decode (zb m_M_act) 68 = .ok (.imul, 1) := zdal_p dlD_M_act_110 (i := 13) rfl
theorem d_M_act_69 : decode (zb m_M_act) 69 = .ok (.iload_n 1, 1) := zdal_p dlD_M_act_110 (i := 14) rfl
theorem d_M_act_70 : decode (zb m_M_act) 70 = .ok (.iadd, 1) := zdal_p dlD_M_act_110 (i := 15) rfl
theorem d_M_act_71 : decode (zb m_M_act) 71 = .ok (.aload_n 0, 1) := zdal_p dlD_M_act_110 (i := 16) rfl
theorem d_M_act_72 : decode (zb m_M_act) 72 = .ok (.getfield 66, 3) := zdal_p dlD_M_act_110 (i := 17) rfl
theorem d_M_act_75 : decode (zb m_M_act) 75 = .ok (.iload_n 1, 1) := zdal_p dlD_M_act_110 (i := 18) rfl
theorem d_M_act_76 : decode (zb m_M_act) 76 = .ok (.laload, 1) := zdal_p dlD_M_act_110 (i := 19) rfl
theorem d_M_act_77 : decode (zb m_M_act) 77 = .ok (.lastore, 1) := zdal_p dlD_M_act_110 (i := 20) rfl
theorem d_M_act_78 : decode (zb m_M_act) 78 = .ok (.iinc 1 1, 3) := zdal_p dlD_M_act_110 (i := 21) rfl
theorem d_M_act_81 : decode (zb m_M_act) 81 = .ok (.goto (-29), 3) := zdal_p dlD_M_act_110 (i := 22) rfl
theorem d_M_act_84 : decode (zb m_M_act) 84 = .ok (.aload_n 0, 1) := zdal_p dlD_M_act_110 (i := 23) rfl
theorem dlD_M_act_111 : zdal (zb m_M_act) [(85, (.dup, 1)), (86, (.getfield 391, 3)), (89, (.iconst 1, 1)), (90, (.iadd, 1)), (91, (.putfield 391, 3)), (94, (.return_, 1))] = true := zDs 85 (by decide +kernel)
theorem d_M_act_85 : decode (zb m_M_act) 85 = .ok (.dup, 1) := zdal_p dlD_M_act_111 (i := 0) rfl
theorem d_M_act_86 : decode (zb m_M_act) 86 = .ok (.getfield 391, 3) := zdal_p dlD_M_act_111 (i := 1) rfl
theorem d_M_act_89 : decode (zb m_M_act) 89 = .ok (.iconst 1, 1) := zdal_p dlD_M_act_111 (i := 2) rfl
theorem d_M_act_90 : decode (zb m_M_act) 90 = .ok (.iadd, 1) := zdal_p dlD_M_act_111 (i := 3) rfl
theorem d_M_act_91 : decode (zb m_M_act) 91 = .ok (.putfield 391, 3) := zdal_p dlD_M_act_111 (i := 4) rfl
theorem d_M_act_94 : decode (zb m_M_act) 94 = .ok (.return_, 1) := zdal_p dlD_M_act_111 (i := 5) rfl
theorem dlD_M_take_112 : zdal (zb m_M_take) [(0, (.iload_n 1, 1)), (1, (.i2l, 1)), (2, (.lconst 0, 1)), (3, (.ldc2_w 493, 3)), (6, (.invokestatic 131, 3)), (9, (.ifCond .eq 19, 3)), (12, (.iload_n 1, 1)), (13, (.ifCond .le 17, 3)), (16, (.iload_n 2, 1)), (17, (.i2l, 1)), (18, (.lconst 0, 1)), (19, (.ldc2_w 495, 3)), (22, (.invokestatic 131, 3)), (25, (.ifCond .ne 5, 3)), (28, (.iconst (-1), 1)), (29, (.ireturn, 1)), (30, (.iconst 0, 1)), (31, (.istore_n 3, 1)), (32, (.iload_n 3, 1)), (33, (.aload_n 0, 1)), (34, (.getfield 235, 3)), (37, (.if_icmp .ge 31, 3)), (40, (.aload_n 0, 1)), (41, (.aload_n 0, 1))] = true := zDs 0 (by decide +kernel)
theorem d_M_take_0 : decode (zb m_M_take) 0 = .ok (.iload_n 1, 1) := zdal_p dlD_M_take_112 (i := 0) rfl
theorem d_M_take_1 : decode (zb m_M_take) 1 = .ok (.i2l, 1) := zdal_p dlD_M_take_112 (i := 1) rfl
theorem d_M_take_2 : decode (zb m_M_take) 2 = .ok (.lconst 0, 1) := zdal_p dlD_M_take_112 (i := 2) rfl
theorem d_M_take_3 : decode (zb m_M_take) 3 = .ok (.ldc2_w 493, 3) := zdal_p dlD_M_take_112 (i := 3) rfl
theorem d_M_take_6 : decode (zb m_M_take) 6 = .ok (.invokestatic 131, 3) := zdal_p dlD_M_take_112 (i := 4) rfl
theorem d_M_take_9 : decode (zb m_M_take) 9 = .ok (.ifCond .eq 19, 3) := zdal_p dlD_M_take_112 (i := 5) rfl
theorem d_M_take_12 : decode (zb m_M_take) 12 = .ok (.iload_n 1, 1) := zdal_p dlD_M_take_112 (i := 6) rfl
theorem d_M_take_13 : decode (zb m_M_take) 13 = .ok (.ifCond .le 17, 3) := zdal_p dlD_M_take_112 (i := 7) rfl
theorem d_M_take_16 : decode (zb m_M_take) 16 = .ok (.iload_n 2, 1) := zdal_p dlD_M_take_112 (i := 8) rfl
theorem d_M_take_17 : decode (zb m_M_take) 17 = .ok (.i2l, 1) := zdal_p dlD_M_take_112 (i := 9) rfl
theorem d_M_take_18 : decode (zb m_M_take) 18 = .ok (.lconst 0, 1) := zdal_p dlD_M_take_112 (i := 10) rfl
theorem d_M_take_19 : decode (zb m_M_take) 19 = .ok (.ldc2_w 495, 3) := zdal_p dlD_M_take_112 (i := 11) rfl
theorem d_M_take_22 : decode (zb m_M_take) 22 = .ok (.invokestatic 131, 3) := zdal_p dlD_M_take_112 (i := 12) rfl
theorem d_M_take_25 : decode (zb m_M_take) 25 = .ok (.ifCond .ne 5, 3) := zdal_p dlD_M_take_112 (i := 13) rfl
theorem d_M_take_28 : decode (zb m_M_take) 28 = .ok (.iconst (-1), 1) := zdal_p dlD_M_take_112 (i := 14) rfl
theorem d_M_take_29 : decode (zb m_M_take) 29 = .ok (.ireturn, 1) := zdal_p dlD_M_take_112 (i := 15) rfl
theorem d_M_take_30 : decode (zb m_M_take) 30 = .ok (.iconst 0, 1) := zdal_p dlD_M_take_112 (i := 16) rfl
theorem d_M_take_31 : decode (zb m_M_take) 31 = .ok (.istore_n 3, 1) := zdal_p dlD_M_take_112 (i := 17) rfl
theorem d_M_take_32 : decode (zb m_M_take) 32 = .ok (.iload_n 3, 1) := zdal_p dlD_M_take_112 (i := 18) rfl
theorem d_M_take_33 : decode (zb m_M_take) 33 = .ok (.aload_n 0, 1) := zdal_p dlD_M_take_112 (i := 19) rfl
theorem d_M_take_34 : decode (zb m_M_take) 34 = .ok (.getfield 235, 3) := zdal_p dlD_M_take_112 (i := 20) rfl
theorem d_M_take_37 : decode (zb m_M_take) 37 = .ok (.if_icmp .ge 31, 3) := zdal_p dlD_M_take_112 (i := 21) rfl
theorem d_M_take_40 : decode (zb m_M_take) 40 = .ok (.aload_n 0, 1) := zdal_p dlD_M_take_112 (i := 22) rfl
theorem d_M_take_41 : decode (zb m_M_take) 41 = .ok (.aload_n 0, 1) := zdal_p dlD_M_take_112 (i := 23) rfl
theorem dlD_M_take_113 : zdal (zb m_M_take) [(42, (.getfield 44, 3)), (45, (.iload_n 3, 1)), (46, (.iaload, 1)), (47, (.invokevirtual 497, 3)), (50, (.aload_n 0, 1)), (51, (.getfield 60, 3)), (54, (.iload_n 3, 1)), (55, (.aload_n 0, 1)), (56, (.iload_n 1, 1)), (57, (.iload_n 2, 1)), (58, (.invokevirtual 500, 3)), (61, (.lastore, 1)), (62, (.iinc 3 1, 3)), (65, (.goto (-33), 3)), (68, (.aload_n 0, 1)), (69, (.invokevirtual 481, 3)), (72, (.aload_n 0, 1)), (73, (.aload_n 0, 1)), (74, (.getfield 60, 3)), (77, (.aload_n 0, 1)), (78, (.getfield 66, 3)), (81, (.iconst 0, 1)), (82, (.invokevirtual 289, 3)), (85, (.aload_n 0, 1))] = true := zDs 42 (by decide +kernel)
theorem d_M_take_42 : decode (zb m_M_take) 42 = .ok (.getfield 44, 3) := zdal_p dlD_M_take_113 (i := 0) rfl
theorem d_M_take_45 : decode (zb m_M_take) 45 = .ok (.iload_n 3, 1) := zdal_p dlD_M_take_113 (i := 1) rfl
theorem d_M_take_46 : decode (zb m_M_take) 46 = .ok (.iaload, 1) := zdal_p dlD_M_take_113 (i := 2) rfl
theorem d_M_take_47 : decode (zb m_M_take) 47 = .ok (.invokevirtual 497, 3) := zdal_p dlD_M_take_113 (i := 3) rfl
theorem d_M_take_50 : decode (zb m_M_take) 50 = .ok (.aload_n 0, 1) := zdal_p dlD_M_take_113 (i := 4) rfl
theorem d_M_take_51 : decode (zb m_M_take) 51 = .ok (.getfield 60, 3) := zdal_p dlD_M_take_113 (i := 5) rfl
theorem d_M_take_54 : decode (zb m_M_take) 54 = .ok (.iload_n 3, 1) := zdal_p dlD_M_take_113 (i := 6) rfl
theorem d_M_take_55 : decode (zb m_M_take) 55 = .ok (.aload_n 0, 1) := zdal_p dlD_M_take_113 (i := 7) rfl
theorem d_M_take_56 : decode (zb m_M_take) 56 = .ok (.iload_n 1, 1) := zdal_p dlD_M_take_113 (i := 8) rfl
theorem d_M_take_57 : decode (zb m_M_take) 57 = .ok (.iload_n 2, 1) := zdal_p dlD_M_take_113 (i := 9) rfl
theorem d_M_take_58 : decode (zb m_M_take) 58 = .ok (.invokevirtual 500, 3) := zdal_p dlD_M_take_113 (i := 10) rfl
theorem d_M_take_61 : decode (zb m_M_take) 61 = .ok (.lastore, 1) := zdal_p dlD_M_take_113 (i := 11) rfl
theorem d_M_take_62 : decode (zb m_M_take) 62 = .ok (.iinc 3 1, 3) := zdal_p dlD_M_take_113 (i := 12) rfl
theorem d_M_take_65 : decode (zb m_M_take) 65 = .ok (.goto (-33), 3) := zdal_p dlD_M_take_113 (i := 13) rfl
theorem d_M_take_68 : decode (zb m_M_take) 68 = .ok (.aload_n 0, 1) := zdal_p dlD_M_take_113 (i := 14) rfl
theorem d_M_take_69 : decode (zb m_M_take) 69 = .ok (.invokevirtual 481, 3) := zdal_p dlD_M_take_113 (i := 15) rfl
theorem d_M_take_72 : decode (zb m_M_take) 72 = .ok (.aload_n 0, 1) := zdal_p dlD_M_take_113 (i := 16) rfl
theorem d_M_take_73 : decode (zb m_M_take) 73 = .ok (.aload_n 0, 1) := zdal_p dlD_M_take_113 (i := 17) rfl
theorem d_M_take_74 : decode (zb m_M_take) 74 = .ok (.getfield 60, 3) := zdal_p dlD_M_take_113 (i := 18) rfl
theorem d_M_take_77 : decode (zb m_M_take) 77 = .ok (.aload_n 0, 1) := zdal_p dlD_M_take_113 (i := 19) rfl
theorem d_M_take_78 : decode (zb m_M_take) 78 = .ok (.getfield 66, 3) := zdal_p dlD_M_take_113 (i := 20) rfl
theorem d_M_take_81 : decode (zb m_M_take) 81 = .ok (.iconst 0, 1) := zdal_p dlD_M_take_113 (i := 21) rfl
theorem d_M_take_82 : decode (zb m_M_take) 82 = .ok (.invokevirtual 289, 3) := zdal_p dlD_M_take_113 (i := 22) rfl
theorem d_M_take_85 : decode (zb m_M_take) 85 = .ok (.aload_n 0, 1) := zdal_p dlD_M_take_113 (i := 23) rfl
theorem dlD_M_take_114 : zdal (zb m_M_take) [(86, (.getfield 60, 3)), (89, (.iconst 0, 1)), (90, (.laload, 1)), (91, (.l2i, 1)), (92, (.ireturn, 1))] = true := zDs 86 (by decide +kernel)
theorem d_M_take_86 : decode (zb m_M_take) 86 = .ok (.getfield 60, 3) := zdal_p dlD_M_take_114 (i := 0) rfl
theorem d_M_take_89 : decode (zb m_M_take) 89 = .ok (.iconst 0, 1) := zdal_p dlD_M_take_114 (i := 1) rfl
theorem d_M_take_90 : decode (zb m_M_take) 90 = .ok (.laload, 1) := zdal_p dlD_M_take_114 (i := 2) rfl
theorem d_M_take_91 : decode (zb m_M_take) 91 = .ok (.l2i, 1) := zdal_p dlD_M_take_114 (i := 3) rfl
theorem d_M_take_92 : decode (zb m_M_take) 92 = .ok (.ireturn, 1) := zdal_p dlD_M_take_114 (i := 4) rfl
theorem dlD_M_laysParts_115 : zdal (zb m_M_laysParts) [(0, (.aload_n 0, 1)), (1, (.iconst 0, 1)), (2, (.putfield 487, 3)), (5, (.iconst 0, 1)), (6, (.istore_n 2, 1)), (7, (.iconst 0, 1)), (8, (.istore_n 3, 1)), (9, (.iload_n 3, 1)), (10, (.aload_n 0, 1)), (11, (.getfield 382, 3)), (14, (.if_icmp .ge 98, 3)), (17, (.iload_n 2, 1)), (18, (.iload_n 3, 1)), (19, (.invokestatic 213, 3)), (22, (.ifCond .eq 6, 3)), (25, (.goto 81, 3)), (28, (.iconst 0, 1)), (29, (.istore 4, 2)), (31, (.iconst 0, 1)), (32, (.istore 5, 2)), (34, (.iload 5, 2)), (36, (.aload_n 0, 1)), (37, (.getfield 196, 3)), (40, (.if_icmp .ge 37, 3))] = true := zDs 0 (by decide +kernel)
theorem d_M_laysParts_0 : decode (zb m_M_laysParts) 0 = .ok (.aload_n 0, 1) := zdal_p dlD_M_laysParts_115 (i := 0) rfl
theorem d_M_laysParts_1 : decode (zb m_M_laysParts) 1 = .ok (.iconst 0, 1) := zdal_p dlD_M_laysParts_115 (i := 1) rfl
theorem d_M_laysParts_2 : decode (zb m_M_laysParts) 2 = .ok (.putfield 487, 3) := zdal_p dlD_M_laysParts_115 (i := 2) rfl
theorem d_M_laysParts_5 : decode (zb m_M_laysParts) 5 = .ok (.iconst 0, 1) := zdal_p dlD_M_laysParts_115 (i := 3) rfl
theorem d_M_laysParts_6 : decode (zb m_M_laysParts) 6 = .ok (.istore_n 2, 1) := zdal_p dlD_M_laysParts_115 (i := 4) rfl
theorem d_M_laysParts_7 : decode (zb m_M_laysParts) 7 = .ok (.iconst 0, 1) := zdal_p dlD_M_laysParts_115 (i := 5) rfl
theorem d_M_laysParts_8 : decode (zb m_M_laysParts) 8 = .ok (.istore_n 3, 1) := zdal_p dlD_M_laysParts_115 (i := 6) rfl
theorem d_M_laysParts_9 : decode (zb m_M_laysParts) 9 = .ok (.iload_n 3, 1) := zdal_p dlD_M_laysParts_115 (i := 7) rfl
theorem d_M_laysParts_10 : decode (zb m_M_laysParts) 10 = .ok (.aload_n 0, 1) := zdal_p dlD_M_laysParts_115 (i := 8) rfl
theorem d_M_laysParts_11 : decode (zb m_M_laysParts) 11 = .ok (.getfield 382, 3) := zdal_p dlD_M_laysParts_115 (i := 9) rfl
theorem d_M_laysParts_14 : decode (zb m_M_laysParts) 14 = .ok (.if_icmp .ge 98, 3) := zdal_p dlD_M_laysParts_115 (i := 10) rfl
theorem d_M_laysParts_17 : decode (zb m_M_laysParts) 17 = .ok (.iload_n 2, 1) := zdal_p dlD_M_laysParts_115 (i := 11) rfl
theorem d_M_laysParts_18 : decode (zb m_M_laysParts) 18 = .ok (.iload_n 3, 1) := zdal_p dlD_M_laysParts_115 (i := 12) rfl
theorem d_M_laysParts_19 : decode (zb m_M_laysParts) 19 = .ok (.invokestatic 213, 3) := zdal_p dlD_M_laysParts_115 (i := 13) rfl
theorem d_M_laysParts_22 : decode (zb m_M_laysParts) 22 = .ok (.ifCond .eq 6, 3) := zdal_p dlD_M_laysParts_115 (i := 14) rfl
theorem d_M_laysParts_25 : decode (zb m_M_laysParts) 25 = .ok (.goto 81, 3) := zdal_p dlD_M_laysParts_115 (i := 15) rfl
theorem d_M_laysParts_28 : decode (zb m_M_laysParts) 28 = .ok (.iconst 0, 1) := zdal_p dlD_M_laysParts_115 (i := 16) rfl
theorem d_M_laysParts_29 : decode (zb m_M_laysParts) 29 = .ok (.istore 4, 2) := zdal_p dlD_M_laysParts_115 (i := 17) rfl
theorem d_M_laysParts_31 : decode (zb m_M_laysParts) 31 = .ok (.iconst 0, 1) := zdal_p dlD_M_laysParts_115 (i := 18) rfl
theorem d_M_laysParts_32 : decode (zb m_M_laysParts) 32 = .ok (.istore 5, 2) := zdal_p dlD_M_laysParts_115 (i := 19) rfl
theorem d_M_laysParts_34 : decode (zb m_M_laysParts) 34 = .ok (.iload 5, 2) := zdal_p dlD_M_laysParts_115 (i := 20) rfl
theorem d_M_laysParts_36 : decode (zb m_M_laysParts) 36 = .ok (.aload_n 0, 1) := zdal_p dlD_M_laysParts_115 (i := 21) rfl
theorem d_M_laysParts_37 : decode (zb m_M_laysParts) 37 = .ok (.getfield 196, 3) := zdal_p dlD_M_laysParts_115 (i := 22) rfl
theorem d_M_laysParts_40 : decode (zb m_M_laysParts) 40 = .ok (.if_icmp .ge 37, 3) := zdal_p dlD_M_laysParts_115 (i := 23) rfl
theorem dlD_M_laysParts_116 : zdal (zb m_M_laysParts) [(43, (.iload_n 1, 1)), (44, (.iload 5, 2)), (46, (.invokestatic 213, 3)), (49, (.ifCond .eq 22, 3)), (52, (.iload 4, 2)), (54, (.iconst 1, 1)), (55, (.aload_n 0, 1)), (56, (.getfield 26, 3)), (59, (.bipush 6, 2)), (61, (.iload 5, 2)), (63, (.imul, 1)), (64, (.iload_n 3, 1)), (65, (.iadd, 1)), (66, (.iaload, 1)), (67, (.ishl, 1)), (68, (.ior, 1)), (69, (.istore 4, 2)), (71, (.iinc 5 1, 3)), (74, (.goto (-40), 3)), (77, (.aload_n 0, 1)), (78, (.getfield 109, 3)), (81, (.aload_n 0, 1)), (82, (.getfield 487, 3)), (85, (.iload 4, 2))] = true := zDs 43 (by decide +kernel)
theorem d_M_laysParts_43 : decode (zb m_M_laysParts) 43 = .ok (.iload_n 1, 1) := zdal_p dlD_M_laysParts_116 (i := 0) rfl
theorem d_M_laysParts_44 : decode (zb m_M_laysParts) 44 = .ok (.iload 5, 2) := zdal_p dlD_M_laysParts_116 (i := 1) rfl
theorem d_M_laysParts_46 : decode (zb m_M_laysParts) 46 = .ok (.invokestatic 213, 3) := zdal_p dlD_M_laysParts_116 (i := 2) rfl
theorem d_M_laysParts_49 : decode (zb m_M_laysParts) 49 = .ok (.ifCond .eq 22, 3) := zdal_p dlD_M_laysParts_116 (i := 3) rfl
theorem d_M_laysParts_52 : decode (zb m_M_laysParts) 52 = .ok (.iload 4, 2) := zdal_p dlD_M_laysParts_116 (i := 4) rfl
theorem d_M_laysParts_54 : decode (zb m_M_laysParts) 54 = .ok (.iconst 1, 1) := zdal_p dlD_M_laysParts_116 (i := 5) rfl
theorem d_M_laysParts_55 : decode (zb m_M_laysParts) 55 = .ok (.aload_n 0, 1) := zdal_p dlD_M_laysParts_116 (i := 6) rfl
theorem d_M_laysParts_56 : decode (zb m_M_laysParts) 56 = .ok (.getfield 26, 3) := zdal_p dlD_M_laysParts_116 (i := 7) rfl
theorem d_M_laysParts_59 : decode (zb m_M_laysParts) 59 = .ok (.bipush 6, 2) := zdal_p dlD_M_laysParts_116 (i := 8) rfl
theorem d_M_laysParts_61 : decode (zb m_M_laysParts) 61 = .ok (.iload 5, 2) := zdal_p dlD_M_laysParts_116 (i := 9) rfl
theorem d_M_laysParts_63 : decode (zb m_M_laysParts) 63 = .ok (.imul, 1) := zdal_p dlD_M_laysParts_116 (i := 10) rfl
theorem d_M_laysParts_64 : decode (zb m_M_laysParts) 64 = .ok (.iload_n 3, 1) := zdal_p dlD_M_laysParts_116 (i := 11) rfl
theorem d_M_laysParts_65 : decode (zb m_M_laysParts) 65 = .ok (.iadd, 1) := zdal_p dlD_M_laysParts_116 (i := 12) rfl
theorem d_M_laysParts_66 : decode (zb m_M_laysParts) 66 = .ok (.iaload, 1) := zdal_p dlD_M_laysParts_116 (i := 13) rfl
theorem d_M_laysParts_67 : decode (zb m_M_laysParts) 67 = .ok (.ishl, 1) := zdal_p dlD_M_laysParts_116 (i := 14) rfl
theorem d_M_laysParts_68 : decode (zb m_M_laysParts) 68 = .ok (.ior, 1) := zdal_p dlD_M_laysParts_116 (i := 15) rfl
theorem d_M_laysParts_69 : decode (zb m_M_laysParts) 69 = .ok (.istore 4, 2) := zdal_p dlD_M_laysParts_116 (i := 16) rfl
theorem d_M_laysParts_71 : decode (zb m_M_laysParts) 71 = .ok (.iinc 5 1, 3) := zdal_p dlD_M_laysParts_116 (i := 17) rfl
theorem d_M_laysParts_74 : decode (zb m_M_laysParts) 74 = .ok (.goto (-40), 3) := zdal_p dlD_M_laysParts_116 (i := 18) rfl
theorem d_M_laysParts_77 : decode (zb m_M_laysParts) 77 = .ok (.aload_n 0, 1) := zdal_p dlD_M_laysParts_116 (i := 19) rfl
theorem d_M_laysParts_78 : decode (zb m_M_laysParts) 78 = .ok (.getfield 109, 3) := zdal_p dlD_M_laysParts_116 (i := 20) rfl
theorem d_M_laysParts_81 : decode (zb m_M_laysParts) 81 = .ok (.aload_n 0, 1) := zdal_p dlD_M_laysParts_116 (i := 21) rfl
theorem d_M_laysParts_82 : decode (zb m_M_laysParts) 82 = .ok (.getfield 487, 3) := zdal_p dlD_M_laysParts_116 (i := 22) rfl
theorem d_M_laysParts_85 : decode (zb m_M_laysParts) 85 = .ok (.iload 4, 2) := zdal_p dlD_M_laysParts_116 (i := 23) rfl
theorem dlD_M_laysParts_117 : zdal (zb m_M_laysParts) [(87, (.invokestatic 253, 3)), (90, (.iastore, 1)), (91, (.aload_n 0, 1)), (92, (.dup, 1)), (93, (.getfield 487, 3)), (96, (.iconst 1, 1)), (97, (.iadd, 1)), (98, (.putfield 487, 3)), (101, (.iload_n 2, 1)), (102, (.iload 4, 2)), (104, (.ior, 1)), (105, (.istore_n 2, 1)), (106, (.iinc 3 1, 3)), (109, (.goto (-100), 3)), (112, (.return_, 1))] = true := zDs 87 (by decide +kernel)
theorem d_M_laysParts_87 : decode (zb m_M_laysParts) 87 = .ok (.invokestatic 253, 3) := zdal_p dlD_M_laysParts_117 (i := 0) rfl
theorem d_M_laysParts_90 : decode (zb m_M_laysParts) 90 = .ok (.iastore, 1) := zdal_p dlD_M_laysParts_117 (i := 1) rfl
theorem d_M_laysParts_91 : decode (zb m_M_laysParts) 91 = .ok (.aload_n 0, 1) := zdal_p dlD_M_laysParts_117 (i := 2) rfl
theorem d_M_laysParts_92 : decode (zb m_M_laysParts) 92 = .ok (.dup, 1) := zdal_p dlD_M_laysParts_117 (i := 3) rfl
theorem d_M_laysParts_93 : decode (zb m_M_laysParts) 93 = .ok (.getfield 487, 3) := zdal_p dlD_M_laysParts_117 (i := 4) rfl
theorem d_M_laysParts_96 : decode (zb m_M_laysParts) 96 = .ok (.iconst 1, 1) := zdal_p dlD_M_laysParts_117 (i := 5) rfl
theorem d_M_laysParts_97 : decode (zb m_M_laysParts) 97 = .ok (.iadd, 1) := zdal_p dlD_M_laysParts_117 (i := 6) rfl
theorem d_M_laysParts_98 : decode (zb m_M_laysParts) 98 = .ok (.putfield 487, 3) := zdal_p dlD_M_laysParts_117 (i := 7) rfl
theorem d_M_laysParts_101 : decode (zb m_M_laysParts) 101 = .ok (.iload_n 2, 1) := zdal_p dlD_M_laysParts_117 (i := 8) rfl
theorem d_M_laysParts_102 : decode (zb m_M_laysParts) 102 = .ok (.iload 4, 2) := zdal_p dlD_M_laysParts_117 (i := 9) rfl
theorem d_M_laysParts_104 : decode (zb m_M_laysParts) 104 = .ok (.ior, 1) := zdal_p dlD_M_laysParts_117 (i := 10) rfl
theorem d_M_laysParts_105 : decode (zb m_M_laysParts) 105 = .ok (.istore_n 2, 1) := zdal_p dlD_M_laysParts_117 (i := 11) rfl
theorem d_M_laysParts_106 : decode (zb m_M_laysParts) 106 = .ok (.iinc 3 1, 3) := zdal_p dlD_M_laysParts_117 (i := 12) rfl
theorem d_M_laysParts_109 : decode (zb m_M_laysParts) 109 = .ok (.goto (-100), 3) := zdal_p dlD_M_laysParts_117 (i := 13) rfl
theorem d_M_laysParts_112 : decode (zb m_M_laysParts) 112 = .ok (.return_, 1) := zdal_p dlD_M_laysParts_117 (i := 14) rfl
theorem dlD_M_fixedBy_118 : zdal (zb m_M_fixedBy) [(0, (.iload_n 1, 1)), (1, (.iconst 2, 1)), (2, (.if_icmp .ne 7, 3)), (5, (.lconst 1, 1)), (6, (.goto 4, 3)), (9, (.lconst 0, 1)), (10, (.lstore_n 3, 1)), (11, (.iconst 0, 1)), (12, (.istore 5, 2)), (14, (.iload 5, 2)), (16, (.aload_n 0, 1)), (17, (.getfield 487, 3)), (20, (.if_icmp .ge 46, 3)), (23, (.iload_n 1, 1)), (24, (.ifCond .ne 26, 3)), (27, (.lload_n 3, 1)), (28, (.aload_n 0, 1)), (29, (.getfield 109, 3)), (32, (.iload 5, 2)), (34, (.iaload, 1)), (35, (.iconst 1, 1)), (36, (.if_icmp .ne 7, 3)), (39, (.iconst 1, 1)), (40, (.goto 4, 3))] = true := zDs 0 (by decide +kernel)
theorem d_M_fixedBy_0 : decode (zb m_M_fixedBy) 0 = .ok (.iload_n 1, 1) := zdal_p dlD_M_fixedBy_118 (i := 0) rfl
theorem d_M_fixedBy_1 : decode (zb m_M_fixedBy) 1 = .ok (.iconst 2, 1) := zdal_p dlD_M_fixedBy_118 (i := 1) rfl
theorem d_M_fixedBy_2 : decode (zb m_M_fixedBy) 2 = .ok (.if_icmp .ne 7, 3) := zdal_p dlD_M_fixedBy_118 (i := 2) rfl
theorem d_M_fixedBy_5 : decode (zb m_M_fixedBy) 5 = .ok (.lconst 1, 1) := zdal_p dlD_M_fixedBy_118 (i := 3) rfl
theorem d_M_fixedBy_6 : decode (zb m_M_fixedBy) 6 = .ok (.goto 4, 3) := zdal_p dlD_M_fixedBy_118 (i := 4) rfl
theorem d_M_fixedBy_9 : decode (zb m_M_fixedBy) 9 = .ok (.lconst 0, 1) := zdal_p dlD_M_fixedBy_118 (i := 5) rfl
theorem d_M_fixedBy_10 : decode (zb m_M_fixedBy) 10 = .ok (.lstore_n 3, 1) := zdal_p dlD_M_fixedBy_118 (i := 6) rfl
theorem d_M_fixedBy_11 : decode (zb m_M_fixedBy) 11 = .ok (.iconst 0, 1) := zdal_p dlD_M_fixedBy_118 (i := 7) rfl
theorem d_M_fixedBy_12 : decode (zb m_M_fixedBy) 12 = .ok (.istore 5, 2) := zdal_p dlD_M_fixedBy_118 (i := 8) rfl
theorem d_M_fixedBy_14 : decode (zb m_M_fixedBy) 14 = .ok (.iload 5, 2) := zdal_p dlD_M_fixedBy_118 (i := 9) rfl
theorem d_M_fixedBy_16 : decode (zb m_M_fixedBy) 16 = .ok (.aload_n 0, 1) := zdal_p dlD_M_fixedBy_118 (i := 10) rfl
theorem d_M_fixedBy_17 : decode (zb m_M_fixedBy) 17 = .ok (.getfield 487, 3) := zdal_p dlD_M_fixedBy_118 (i := 11) rfl
theorem d_M_fixedBy_20 : decode (zb m_M_fixedBy) 20 = .ok (.if_icmp .ge 46, 3) := zdal_p dlD_M_fixedBy_118 (i := 12) rfl
theorem d_M_fixedBy_23 : decode (zb m_M_fixedBy) 23 = .ok (.iload_n 1, 1) := zdal_p dlD_M_fixedBy_118 (i := 13) rfl
theorem d_M_fixedBy_24 : decode (zb m_M_fixedBy) 24 = .ok (.ifCond .ne 26, 3) := zdal_p dlD_M_fixedBy_118 (i := 14) rfl
theorem d_M_fixedBy_27 : decode (zb m_M_fixedBy) 27 = .ok (.lload_n 3, 1) := zdal_p dlD_M_fixedBy_118 (i := 15) rfl
theorem d_M_fixedBy_28 : decode (zb m_M_fixedBy) 28 = .ok (.aload_n 0, 1) := zdal_p dlD_M_fixedBy_118 (i := 16) rfl
theorem d_M_fixedBy_29 : decode (zb m_M_fixedBy) 29 = .ok (.getfield 109, 3) := zdal_p dlD_M_fixedBy_118 (i := 17) rfl
theorem d_M_fixedBy_32 : decode (zb m_M_fixedBy) 32 = .ok (.iload 5, 2) := zdal_p dlD_M_fixedBy_118 (i := 18) rfl
theorem d_M_fixedBy_34 : decode (zb m_M_fixedBy) 34 = .ok (.iaload, 1) := zdal_p dlD_M_fixedBy_118 (i := 19) rfl
theorem d_M_fixedBy_35 : decode (zb m_M_fixedBy) 35 = .ok (.iconst 1, 1) := zdal_p dlD_M_fixedBy_118 (i := 20) rfl
theorem d_M_fixedBy_36 : decode (zb m_M_fixedBy) 36 = .ok (.if_icmp .ne 7, 3) := zdal_p dlD_M_fixedBy_118 (i := 21) rfl
theorem d_M_fixedBy_39 : decode (zb m_M_fixedBy) 39 = .ok (.iconst 1, 1) := zdal_p dlD_M_fixedBy_118 (i := 22) rfl
theorem d_M_fixedBy_40 : decode (zb m_M_fixedBy) 40 = .ok (.goto 4, 3) := zdal_p dlD_M_fixedBy_118 (i := 23) rfl
theorem dlD_M_fixedBy_119 : zdal (zb m_M_fixedBy) [(43, (.iconst 0, 1)), (44, (.invokestatic 256, 3)), (47, (.i2l, 1)), (48, (.ladd, 1)), (49, (.lstore_n 3, 1)), (50, (.iload_n 1, 1)), (51, (.iconst 2, 1)), (52, (.if_icmp .ne 8, 3)), (55, (.lload_n 3, 1)), (56, (.iload_n 2, 1)), (57, (.i2l, 1)), (58, (.lmul, 1)), (59, (.lstore_n 3, 1)), (60, (.iinc 5 1, 3)), (63, (.goto (-49), 3)), (66, (.iload_n 1, 1)), (67, (.iconst 1, 1)), (68, (.if_icmp .ne 12, 3)), (71, (.aload_n 0, 1)), (72, (.iload_n 2, 1)), (73, (.invokevirtual 490, 3)), (76, (.i2l, 1)), (77, (.goto 4, 3)), (80, (.lload_n 3, 1))] = true := zDs 43 (by decide +kernel)
theorem d_M_fixedBy_43 : decode (zb m_M_fixedBy) 43 = .ok (.iconst 0, 1) := zdal_p dlD_M_fixedBy_119 (i := 0) rfl
theorem d_M_fixedBy_44 : decode (zb m_M_fixedBy) 44 = .ok (.invokestatic 256, 3) := zdal_p dlD_M_fixedBy_119 (i := 1) rfl
theorem d_M_fixedBy_47 : decode (zb m_M_fixedBy) 47 = .ok (.i2l, 1) := zdal_p dlD_M_fixedBy_119 (i := 2) rfl
theorem d_M_fixedBy_48 : decode (zb m_M_fixedBy) 48 = .ok (.ladd, 1) := zdal_p dlD_M_fixedBy_119 (i := 3) rfl
theorem d_M_fixedBy_49 : decode (zb m_M_fixedBy) 49 = .ok (.lstore_n 3, 1) := zdal_p dlD_M_fixedBy_119 (i := 4) rfl
theorem d_M_fixedBy_50 : decode (zb m_M_fixedBy) 50 = .ok (.iload_n 1, 1) := zdal_p dlD_M_fixedBy_119 (i := 5) rfl
theorem d_M_fixedBy_51 : decode (zb m_M_fixedBy) 51 = .ok (.iconst 2, 1) := zdal_p dlD_M_fixedBy_119 (i := 6) rfl
theorem d_M_fixedBy_52 : decode (zb m_M_fixedBy) 52 = .ok (.if_icmp .ne 8, 3) := zdal_p dlD_M_fixedBy_119 (i := 7) rfl
theorem d_M_fixedBy_55 : decode (zb m_M_fixedBy) 55 = .ok (.lload_n 3, 1) := zdal_p dlD_M_fixedBy_119 (i := 8) rfl
theorem d_M_fixedBy_56 : decode (zb m_M_fixedBy) 56 = .ok (.iload_n 2, 1) := zdal_p dlD_M_fixedBy_119 (i := 9) rfl
theorem d_M_fixedBy_57 : decode (zb m_M_fixedBy) 57 = .ok (.i2l, 1) := zdal_p dlD_M_fixedBy_119 (i := 10) rfl
theorem d_M_fixedBy_58 : decode (zb m_M_fixedBy) 58 = .ok (.lmul, 1) := zdal_p dlD_M_fixedBy_119 (i := 11) rfl
theorem d_M_fixedBy_59 : decode (zb m_M_fixedBy) 59 = .ok (.lstore_n 3, 1) := zdal_p dlD_M_fixedBy_119 (i := 12) rfl
theorem d_M_fixedBy_60 : decode (zb m_M_fixedBy) 60 = .ok (.iinc 5 1, 3) := zdal_p dlD_M_fixedBy_119 (i := 13) rfl
theorem d_M_fixedBy_63 : decode (zb m_M_fixedBy) 63 = .ok (.goto (-49), 3) := zdal_p dlD_M_fixedBy_119 (i := 14) rfl
theorem d_M_fixedBy_66 : decode (zb m_M_fixedBy) 66 = .ok (.iload_n 1, 1) := zdal_p dlD_M_fixedBy_119 (i := 15) rfl
theorem d_M_fixedBy_67 : decode (zb m_M_fixedBy) 67 = .ok (.iconst 1, 1) := zdal_p dlD_M_fixedBy_119 (i := 16) rfl
theorem d_M_fixedBy_68 : decode (zb m_M_fixedBy) 68 = .ok (.if_icmp .ne 12, 3) := zdal_p dlD_M_fixedBy_119 (i := 17) rfl
theorem d_M_fixedBy_71 : decode (zb m_M_fixedBy) 71 = .ok (.aload_n 0, 1) := zdal_p dlD_M_fixedBy_119 (i := 18) rfl
theorem d_M_fixedBy_72 : decode (zb m_M_fixedBy) 72 = .ok (.iload_n 2, 1) := zdal_p dlD_M_fixedBy_119 (i := 19) rfl
theorem d_M_fixedBy_73 : decode (zb m_M_fixedBy) 73 = .ok (.invokevirtual 490, 3) := zdal_p dlD_M_fixedBy_119 (i := 20) rfl
theorem d_M_fixedBy_76 : decode (zb m_M_fixedBy) 76 = .ok (.i2l, 1) := zdal_p dlD_M_fixedBy_119 (i := 21) rfl
theorem d_M_fixedBy_77 : decode (zb m_M_fixedBy) 77 = .ok (.goto 4, 3) := zdal_p dlD_M_fixedBy_119 (i := 22) rfl
theorem d_M_fixedBy_80 : decode (zb m_M_fixedBy) 80 = .ok (.lload_n 3, 1) := zdal_p dlD_M_fixedBy_119 (i := 23) rfl
theorem dlD_M_fixedBy_120 : zdal (zb m_M_fixedBy) [(81, (.lreturn, 1))] = true := zDs 81 (by decide +kernel)
theorem d_M_fixedBy_81 : decode (zb m_M_fixedBy) 81 = .ok (.lreturn, 1) := zdal_p dlD_M_fixedBy_120 (i := 0) rfl
theorem dlD_M_setsOf_121 : zdal (zb m_M_setsOf) [(0, (.iconst 0, 1)), (1, (.istore_n 2, 1)), (2, (.iload_n 2, 1)), (3, (.bipush 7, 2)), (5, (.if_icmp .ge 27, 3)), (8, (.aload_n 0, 1)), (9, (.getfield 112, 3)), (12, (.iload_n 2, 1)), (13, (.iload_n 2, 1)), (14, (.ifCond .ne 7, 3)), (17, (.iconst 1, 1)), (18, (.goto 4, 3)), (21, (.iconst 0, 1)), (22, (.invokestatic 256, 3)), (25, (.iastore, 1)), (26, (.iinc 2 1, 3)), (29, (.goto (-27), 3)), (32, (.iconst 0, 1)), (33, (.istore_n 2, 1)), (34, (.iload_n 2, 1)), (35, (.aload_n 0, 1)), (36, (.getfield 487, 3)), (39, (.if_icmp .ge 50, 3)), (42, (.bipush 6, 2))] = true := zDs 0 (by decide +kernel)
theorem d_M_setsOf_0 : decode (zb m_M_setsOf) 0 = .ok (.iconst 0, 1) := zdal_p dlD_M_setsOf_121 (i := 0) rfl
theorem d_M_setsOf_1 : decode (zb m_M_setsOf) 1 = .ok (.istore_n 2, 1) := zdal_p dlD_M_setsOf_121 (i := 1) rfl
theorem d_M_setsOf_2 : decode (zb m_M_setsOf) 2 = .ok (.iload_n 2, 1) := zdal_p dlD_M_setsOf_121 (i := 2) rfl
theorem d_M_setsOf_3 : decode (zb m_M_setsOf) 3 = .ok (.bipush 7, 2) := zdal_p dlD_M_setsOf_121 (i := 3) rfl
theorem d_M_setsOf_5 : decode (zb m_M_setsOf) 5 = .ok (.if_icmp .ge 27, 3) := zdal_p dlD_M_setsOf_121 (i := 4) rfl
theorem d_M_setsOf_8 : decode (zb m_M_setsOf) 8 = .ok (.aload_n 0, 1) := zdal_p dlD_M_setsOf_121 (i := 5) rfl
theorem d_M_setsOf_9 : decode (zb m_M_setsOf) 9 = .ok (.getfield 112, 3) := zdal_p dlD_M_setsOf_121 (i := 6) rfl
theorem d_M_setsOf_12 : decode (zb m_M_setsOf) 12 = .ok (.iload_n 2, 1) := zdal_p dlD_M_setsOf_121 (i := 7) rfl
theorem d_M_setsOf_13 : decode (zb m_M_setsOf) 13 = .ok (.iload_n 2, 1) := zdal_p dlD_M_setsOf_121 (i := 8) rfl
theorem d_M_setsOf_14 : decode (zb m_M_setsOf) 14 = .ok (.ifCond .ne 7, 3) := zdal_p dlD_M_setsOf_121 (i := 9) rfl
theorem d_M_setsOf_17 : decode (zb m_M_setsOf) 17 = .ok (.iconst 1, 1) := zdal_p dlD_M_setsOf_121 (i := 10) rfl
theorem d_M_setsOf_18 : decode (zb m_M_setsOf) 18 = .ok (.goto 4, 3) := zdal_p dlD_M_setsOf_121 (i := 11) rfl
theorem d_M_setsOf_21 : decode (zb m_M_setsOf) 21 = .ok (.iconst 0, 1) := zdal_p dlD_M_setsOf_121 (i := 12) rfl
theorem d_M_setsOf_22 : decode (zb m_M_setsOf) 22 = .ok (.invokestatic 256, 3) := zdal_p dlD_M_setsOf_121 (i := 13) rfl
theorem d_M_setsOf_25 : decode (zb m_M_setsOf) 25 = .ok (.iastore, 1) := zdal_p dlD_M_setsOf_121 (i := 14) rfl
theorem d_M_setsOf_26 : decode (zb m_M_setsOf) 26 = .ok (.iinc 2 1, 3) := zdal_p dlD_M_setsOf_121 (i := 15) rfl
theorem d_M_setsOf_29 : decode (zb m_M_setsOf) 29 = .ok (.goto (-27), 3) := zdal_p dlD_M_setsOf_121 (i := 16) rfl
theorem d_M_setsOf_32 : decode (zb m_M_setsOf) 32 = .ok (.iconst 0, 1) := zdal_p dlD_M_setsOf_121 (i := 17) rfl
theorem d_M_setsOf_33 : decode (zb m_M_setsOf) 33 = .ok (.istore_n 2, 1) := zdal_p dlD_M_setsOf_121 (i := 18) rfl
theorem d_M_setsOf_34 : decode (zb m_M_setsOf) 34 = .ok (.iload_n 2, 1) := zdal_p dlD_M_setsOf_121 (i := 19) rfl
theorem d_M_setsOf_35 : decode (zb m_M_setsOf) 35 = .ok (.aload_n 0, 1) := zdal_p dlD_M_setsOf_121 (i := 20) rfl
theorem d_M_setsOf_36 : decode (zb m_M_setsOf) 36 = .ok (.getfield 487, 3) := zdal_p dlD_M_setsOf_121 (i := 21) rfl
theorem d_M_setsOf_39 : decode (zb m_M_setsOf) 39 = .ok (.if_icmp .ge 50, 3) := zdal_p dlD_M_setsOf_121 (i := 22) rfl
theorem d_M_setsOf_42 : decode (zb m_M_setsOf) 42 = .ok (.bipush 6, 2) := zdal_p dlD_M_setsOf_121 (i := 23) rfl
theorem dlD_M_setsOf_122 : zdal (zb m_M_setsOf) [(44, (.istore_n 3, 1)), (45, (.iload_n 3, 1)), (46, (.aload_n 0, 1)), (47, (.getfield 109, 3)), (50, (.iload_n 2, 1)), (51, (.iaload, 1)), (52, (.if_icmp .lt 31, 3)), (55, (.aload_n 0, 1)), (56, (.getfield 112, 3)), (59, (.iload_n 3, 1)), (60, (.dup2, 1)), (61, (.iaload, 1)), (62, (.aload_n 0, 1)), (63, (.getfield 112, 3)), (66, (.iload_n 3, 1)), (67, (.aload_n 0, 1)), (68, (.getfield 109, 3)), (71, (.iload_n 2, 1)), (72, (.iaload, 1)), (73, (.isub, 1)), (74, (.iaload, 1)), (75, (.iadd, 1)), (76, (.iastore, 1)), (77, (.iinc 3 (-1), 3))] = true := zDs 44 (by decide +kernel)
theorem d_M_setsOf_44 : decode (zb m_M_setsOf) 44 = .ok (.istore_n 3, 1) := zdal_p dlD_M_setsOf_122 (i := 0) rfl
theorem d_M_setsOf_45 : decode (zb m_M_setsOf) 45 = .ok (.iload_n 3, 1) := zdal_p dlD_M_setsOf_122 (i := 1) rfl
theorem d_M_setsOf_46 : decode (zb m_M_setsOf) 46 = .ok (.aload_n 0, 1) := zdal_p dlD_M_setsOf_122 (i := 2) rfl
theorem d_M_setsOf_47 : decode (zb m_M_setsOf) 47 = .ok (.getfield 109, 3) := zdal_p dlD_M_setsOf_122 (i := 3) rfl
theorem d_M_setsOf_50 : decode (zb m_M_setsOf) 50 = .ok (.iload_n 2, 1) := zdal_p dlD_M_setsOf_122 (i := 4) rfl
theorem d_M_setsOf_51 : decode (zb m_M_setsOf) 51 = .ok (.iaload, 1) := zdal_p dlD_M_setsOf_122 (i := 5) rfl
theorem d_M_setsOf_52 : decode (zb m_M_setsOf) 52 = .ok (.if_icmp .lt 31, 3) := zdal_p dlD_M_setsOf_122 (i := 6) rfl
theorem d_M_setsOf_55 : decode (zb m_M_setsOf) 55 = .ok (.aload_n 0, 1) := zdal_p dlD_M_setsOf_122 (i := 7) rfl
theorem d_M_setsOf_56 : decode (zb m_M_setsOf) 56 = .ok (.getfield 112, 3) := zdal_p dlD_M_setsOf_122 (i := 8) rfl
theorem d_M_setsOf_59 : decode (zb m_M_setsOf) 59 = .ok (.iload_n 3, 1) := zdal_p dlD_M_setsOf_122 (i := 9) rfl
theorem d_M_setsOf_60 : decode (zb m_M_setsOf) 60 = .ok (.dup2, 1) := zdal_p dlD_M_setsOf_122 (i := 10) rfl
theorem d_M_setsOf_61 : decode (zb m_M_setsOf) 61 = .ok (.iaload, 1) := zdal_p dlD_M_setsOf_122 (i := 11) rfl
theorem d_M_setsOf_62 : decode (zb m_M_setsOf) 62 = .ok (.aload_n 0, 1) := zdal_p dlD_M_setsOf_122 (i := 12) rfl
theorem d_M_setsOf_63 : decode (zb m_M_setsOf) 63 = .ok (.getfield 112, 3) := zdal_p dlD_M_setsOf_122 (i := 13) rfl
theorem d_M_setsOf_66 : decode (zb m_M_setsOf) 66 = .ok (.iload_n 3, 1) := zdal_p dlD_M_setsOf_122 (i := 14) rfl
theorem d_M_setsOf_67 : decode (zb m_M_setsOf) 67 = .ok (.aload_n 0, 1) := zdal_p dlD_M_setsOf_122 (i := 15) rfl
theorem d_M_setsOf_68 : decode (zb m_M_setsOf) 68 = .ok (.getfield 109, 3) := zdal_p dlD_M_setsOf_122 (i := 16) rfl
theorem d_M_setsOf_71 : decode (zb m_M_setsOf) 71 = .ok (.iload_n 2, 1) := zdal_p dlD_M_setsOf_122 (i := 17) rfl
theorem d_M_setsOf_72 : decode (zb m_M_setsOf) 72 = .ok (.iaload, 1) := zdal_p dlD_M_setsOf_122 (i := 18) rfl
theorem d_M_setsOf_73 : decode (zb m_M_setsOf) 73 = .ok (.isub, 1) := zdal_p dlD_M_setsOf_122 (i := 19) rfl
theorem d_M_setsOf_74 : decode (zb m_M_setsOf) 74 = .ok (.iaload, 1) := zdal_p dlD_M_setsOf_122 (i := 20) rfl
theorem d_M_setsOf_75 : decode (zb m_M_setsOf) 75 = .ok (.iadd, 1) := zdal_p dlD_M_setsOf_122 (i := 21) rfl
theorem d_M_setsOf_76 : decode (zb m_M_setsOf) 76 = .ok (.iastore, 1) := zdal_p dlD_M_setsOf_122 (i := 22) rfl
theorem d_M_setsOf_77 : decode (zb m_M_setsOf) 77 = .ok (.iinc 3 (-1), 3) := zdal_p dlD_M_setsOf_122 (i := 23) rfl
theorem dlD_M_setsOf_123 : zdal (zb m_M_setsOf) [(80, (.goto (-35), 3)), (83, (.iinc 2 1, 3)), (86, (.goto (-52), 3)), (89, (.aload_n 0, 1)), (90, (.getfield 112, 3)), (93, (.iload_n 1, 1)), (94, (.iaload, 1)), (95, (.ireturn, 1))] = true := zDs 80 (by decide +kernel)
theorem d_M_setsOf_80 : decode (zb m_M_setsOf) 80 = .ok (.goto (-35), 3) := zdal_p dlD_M_setsOf_123 (i := 0) rfl
theorem d_M_setsOf_83 : decode (zb m_M_setsOf) 83 = .ok (.iinc 2 1, 3) := zdal_p dlD_M_setsOf_123 (i := 1) rfl
theorem d_M_setsOf_86 : decode (zb m_M_setsOf) 86 = .ok (.goto (-52), 3) := zdal_p dlD_M_setsOf_123 (i := 2) rfl
theorem d_M_setsOf_89 : decode (zb m_M_setsOf) 89 = .ok (.aload_n 0, 1) := zdal_p dlD_M_setsOf_123 (i := 3) rfl
theorem d_M_setsOf_90 : decode (zb m_M_setsOf) 90 = .ok (.getfield 112, 3) := zdal_p dlD_M_setsOf_123 (i := 4) rfl
theorem d_M_setsOf_93 : decode (zb m_M_setsOf) 93 = .ok (.iload_n 1, 1) := zdal_p dlD_M_setsOf_123 (i := 5) rfl
theorem d_M_setsOf_94 : decode (zb m_M_setsOf) 94 = .ok (.iaload, 1) := zdal_p dlD_M_setsOf_123 (i := 6) rfl
theorem d_M_setsOf_95 : decode (zb m_M_setsOf) 95 = .ok (.ireturn, 1) := zdal_p dlD_M_setsOf_123 (i := 7) rfl
theorem dlD_M_marks_124 : zdal (zb m_M_marks) [(0, (.aload_n 0, 1)), (1, (.getfield 124, 3)), (4, (.istore_n 1, 1)), (5, (.aload_n 0, 1)), (6, (.iconst 0, 1)), (7, (.putfield 124, 3)), (10, (.aload_n 0, 1)), (11, (.iload_n 1, 1)), (12, (.invokevirtual 520, 3)), (15, (.ifCond .ne 6, 3)), (18, (.bipush (-2), 2)), (20, (.ireturn, 1)), (21, (.iconst 0, 1)), (22, (.istore_n 2, 1)), (23, (.iload_n 2, 1)), (24, (.aload_n 0, 1)), (25, (.getfield 235, 3)), (28, (.if_icmp .ge 35, 3)), (31, (.aload_n 0, 1)), (32, (.aload_n 0, 1)), (33, (.getfield 69, 3)), (36, (.iload_n 2, 1)), (37, (.invokevirtual 475, 3)), (40, (.lstore_n 3, 1))] = true := zDs 0 (by decide +kernel)
theorem d_M_marks_0 : decode (zb m_M_marks) 0 = .ok (.aload_n 0, 1) := zdal_p dlD_M_marks_124 (i := 0) rfl
theorem d_M_marks_1 : decode (zb m_M_marks) 1 = .ok (.getfield 124, 3) := zdal_p dlD_M_marks_124 (i := 1) rfl
theorem d_M_marks_4 : decode (zb m_M_marks) 4 = .ok (.istore_n 1, 1) := zdal_p dlD_M_marks_124 (i := 2) rfl
theorem d_M_marks_5 : decode (zb m_M_marks) 5 = .ok (.aload_n 0, 1) := zdal_p dlD_M_marks_124 (i := 3) rfl
theorem d_M_marks_6 : decode (zb m_M_marks) 6 = .ok (.iconst 0, 1) := zdal_p dlD_M_marks_124 (i := 4) rfl
theorem d_M_marks_7 : decode (zb m_M_marks) 7 = .ok (.putfield 124, 3) := zdal_p dlD_M_marks_124 (i := 5) rfl
theorem d_M_marks_10 : decode (zb m_M_marks) 10 = .ok (.aload_n 0, 1) := zdal_p dlD_M_marks_124 (i := 6) rfl
theorem d_M_marks_11 : decode (zb m_M_marks) 11 = .ok (.iload_n 1, 1) := zdal_p dlD_M_marks_124 (i := 7) rfl
theorem d_M_marks_12 : decode (zb m_M_marks) 12 = .ok (.invokevirtual 520, 3) := zdal_p dlD_M_marks_124 (i := 8) rfl
theorem d_M_marks_15 : decode (zb m_M_marks) 15 = .ok (.ifCond .ne 6, 3) := zdal_p dlD_M_marks_124 (i := 9) rfl
theorem d_M_marks_18 : decode (zb m_M_marks) 18 = .ok (.bipush (-2), 2) := zdal_p dlD_M_marks_124 (i := 10) rfl
theorem d_M_marks_20 : decode (zb m_M_marks) 20 = .ok (.ireturn, 1) := zdal_p dlD_M_marks_124 (i := 11) rfl
theorem d_M_marks_21 : decode (zb m_M_marks) 21 = .ok (.iconst 0, 1) := zdal_p dlD_M_marks_124 (i := 12) rfl
theorem d_M_marks_22 : decode (zb m_M_marks) 22 = .ok (.istore_n 2, 1) := zdal_p dlD_M_marks_124 (i := 13) rfl
theorem d_M_marks_23 : decode (zb m_M_marks) 23 = .ok (.iload_n 2, 1) := zdal_p dlD_M_marks_124 (i := 14) rfl
theorem d_M_marks_24 : decode (zb m_M_marks) 24 = .ok (.aload_n 0, 1) := zdal_p dlD_M_marks_124 (i := 15) rfl
theorem d_M_marks_25 : decode (zb m_M_marks) 25 = .ok (.getfield 235, 3) := zdal_p dlD_M_marks_124 (i := 16) rfl
theorem d_M_marks_28 : decode (zb m_M_marks) 28 = .ok (.if_icmp .ge 35, 3) := zdal_p dlD_M_marks_124 (i := 17) rfl
theorem d_M_marks_31 : decode (zb m_M_marks) 31 = .ok (.aload_n 0, 1) := zdal_p dlD_M_marks_124 (i := 18) rfl
theorem d_M_marks_32 : decode (zb m_M_marks) 32 = .ok (.aload_n 0, 1) := zdal_p dlD_M_marks_124 (i := 19) rfl
theorem d_M_marks_33 : decode (zb m_M_marks) 33 = .ok (.getfield 69, 3) := zdal_p dlD_M_marks_124 (i := 20) rfl
theorem d_M_marks_36 : decode (zb m_M_marks) 36 = .ok (.iload_n 2, 1) := zdal_p dlD_M_marks_124 (i := 21) rfl
theorem d_M_marks_37 : decode (zb m_M_marks) 37 = .ok (.invokevirtual 475, 3) := zdal_p dlD_M_marks_124 (i := 22) rfl
theorem d_M_marks_40 : decode (zb m_M_marks) 40 = .ok (.lstore_n 3, 1) := zdal_p dlD_M_marks_124 (i := 23) rfl
theorem dlD_M_marks_125 : zdal (zb m_M_marks) [(41, (.lload_n 3, 1)), (42, (.aload_n 0, 1)), (43, (.getfield 453, 3)), (46, (.i2l, 1)), (47, (.lrem, 1)), (48, (.lconst 0, 1)), (49, (.lcmp, 1)), (50, (.ifCond .eq 7, 3)), (53, (.iload_n 2, 1)), (54, (.iconst 1, 1)), (55, (.iadd, 1)), (56, (.ireturn, 1)), (57, (.iinc 2 1, 3)), (60, (.goto (-37), 3)), (63, (.aload_n 0, 1)), (64, (.invokevirtual 481, 3)), (67, (.aload_n 0, 1)), (68, (.aload_n 0, 1)), (69, (.getfield 69, 3)), (72, (.aload_n 0, 1)), (73, (.getfield 66, 3)), (76, (.iconst 0, 1)), (77, (.invokevirtual 289, 3)), (80, (.iconst 0, 1))] = true := zDs 41 (by decide +kernel)
theorem d_M_marks_41 : decode (zb m_M_marks) 41 = .ok (.lload_n 3, 1) := zdal_p dlD_M_marks_125 (i := 0) rfl
theorem d_M_marks_42 : decode (zb m_M_marks) 42 = .ok (.aload_n 0, 1) := zdal_p dlD_M_marks_125 (i := 1) rfl
theorem d_M_marks_43 : decode (zb m_M_marks) 43 = .ok (.getfield 453, 3) := zdal_p dlD_M_marks_125 (i := 2) rfl
theorem d_M_marks_46 : decode (zb m_M_marks) 46 = .ok (.i2l, 1) := zdal_p dlD_M_marks_125 (i := 3) rfl
theorem d_M_marks_47 : decode (zb m_M_marks) 47 = .ok (.lrem, 1) := zdal_p dlD_M_marks_125 (i := 4) rfl
theorem d_M_marks_48 : decode (zb m_M_marks) 48 = .ok (.lconst 0, 1) := zdal_p dlD_M_marks_125 (i := 5) rfl
theorem d_M_marks_49 : decode (zb m_M_marks) 49 = .ok (.lcmp, 1) := zdal_p dlD_M_marks_125 (i := 6) rfl
theorem d_M_marks_50 : decode (zb m_M_marks) 50 = .ok (.ifCond .eq 7, 3) := zdal_p dlD_M_marks_125 (i := 7) rfl
theorem d_M_marks_53 : decode (zb m_M_marks) 53 = .ok (.iload_n 2, 1) := zdal_p dlD_M_marks_125 (i := 8) rfl
theorem d_M_marks_54 : decode (zb m_M_marks) 54 = .ok (.iconst 1, 1) := zdal_p dlD_M_marks_125 (i := 9) rfl
theorem d_M_marks_55 : decode (zb m_M_marks) 55 = .ok (.iadd, 1) := zdal_p dlD_M_marks_125 (i := 10) rfl
theorem d_M_marks_56 : decode (zb m_M_marks) 56 = .ok (.ireturn, 1) := zdal_p dlD_M_marks_125 (i := 11) rfl
theorem d_M_marks_57 : decode (zb m_M_marks) 57 = .ok (.iinc 2 1, 3) := zdal_p dlD_M_marks_125 (i := 12) rfl
theorem d_M_marks_60 : decode (zb m_M_marks) 60 = .ok (.goto (-37), 3) := zdal_p dlD_M_marks_125 (i := 13) rfl
theorem d_M_marks_63 : decode (zb m_M_marks) 63 = .ok (.aload_n 0, 1) := zdal_p dlD_M_marks_125 (i := 14) rfl
theorem d_M_marks_64 : decode (zb m_M_marks) 64 = .ok (.invokevirtual 481, 3) := zdal_p dlD_M_marks_125 (i := 15) rfl
theorem d_M_marks_67 : decode (zb m_M_marks) 67 = .ok (.aload_n 0, 1) := zdal_p dlD_M_marks_125 (i := 16) rfl
theorem d_M_marks_68 : decode (zb m_M_marks) 68 = .ok (.aload_n 0, 1) := zdal_p dlD_M_marks_125 (i := 17) rfl
theorem d_M_marks_69 : decode (zb m_M_marks) 69 = .ok (.getfield 69, 3) := zdal_p dlD_M_marks_125 (i := 18) rfl
theorem d_M_marks_72 : decode (zb m_M_marks) 72 = .ok (.aload_n 0, 1) := zdal_p dlD_M_marks_125 (i := 19) rfl
theorem d_M_marks_73 : decode (zb m_M_marks) 73 = .ok (.getfield 66, 3) := zdal_p dlD_M_marks_125 (i := 20) rfl
theorem d_M_marks_76 : decode (zb m_M_marks) 76 = .ok (.iconst 0, 1) := zdal_p dlD_M_marks_125 (i := 21) rfl
theorem d_M_marks_77 : decode (zb m_M_marks) 77 = .ok (.invokevirtual 289, 3) := zdal_p dlD_M_marks_125 (i := 22) rfl
theorem d_M_marks_80 : decode (zb m_M_marks) 80 = .ok (.iconst 0, 1) := zdal_p dlD_M_marks_125 (i := 23) rfl
theorem dlD_M_marks_126 : zdal (zb m_M_marks) [(81, (.ireturn, 1))] = true := zDs 81 (by decide +kernel)
theorem d_M_marks_81 : decode (zb m_M_marks) 81 = .ok (.ireturn, 1) := zdal_p dlD_M_marks_126 (i := 0) rfl
theorem dlD_M_readsMarks_127 : zdal (zb m_M_readsMarks) [(0, (.aload_n 0, 1)), (1, (.iconst 0, 1)), (2, (.putfield 504, 3)), (5, (.aload_n 0, 1)), (6, (.iconst 0, 1)), (7, (.putfield 511, 3)), (10, (.aload_n 0, 1)), (11, (.iload_n 1, 1)), (12, (.invokevirtual 514, 3)), (15, (.ifCond .eq 16, 3)), (18, (.aload_n 0, 1)), (19, (.dup, 1)), (20, (.getfield 504, 3)), (23, (.iconst 1, 1)), (24, (.iadd, 1)), (25, (.putfield 504, 3)), (28, (.goto (-18), 3)), (31, (.aload_n 0, 1)), (32, (.getfield 504, 3)), (35, (.iload_n 1, 1)), (36, (.if_icmp .ge 52, 3)), (39, (.aload_n 0, 1)), (40, (.iload_n 1, 1)), (41, (.invokevirtual 517, 3))] = true := zDs 0 (by decide +kernel)
theorem d_M_readsMarks_0 : decode (zb m_M_readsMarks) 0 = .ok (.aload_n 0, 1) := zdal_p dlD_M_readsMarks_127 (i := 0) rfl
theorem d_M_readsMarks_1 : decode (zb m_M_readsMarks) 1 = .ok (.iconst 0, 1) := zdal_p dlD_M_readsMarks_127 (i := 1) rfl
theorem d_M_readsMarks_2 : decode (zb m_M_readsMarks) 2 = .ok (.putfield 504, 3) := zdal_p dlD_M_readsMarks_127 (i := 2) rfl
theorem d_M_readsMarks_5 : decode (zb m_M_readsMarks) 5 = .ok (.aload_n 0, 1) := zdal_p dlD_M_readsMarks_127 (i := 3) rfl
theorem d_M_readsMarks_6 : decode (zb m_M_readsMarks) 6 = .ok (.iconst 0, 1) := zdal_p dlD_M_readsMarks_127 (i := 4) rfl
theorem d_M_readsMarks_7 : decode (zb m_M_readsMarks) 7 = .ok (.putfield 511, 3) := zdal_p dlD_M_readsMarks_127 (i := 5) rfl
theorem d_M_readsMarks_10 : decode (zb m_M_readsMarks) 10 = .ok (.aload_n 0, 1) := zdal_p dlD_M_readsMarks_127 (i := 6) rfl
theorem d_M_readsMarks_11 : decode (zb m_M_readsMarks) 11 = .ok (.iload_n 1, 1) := zdal_p dlD_M_readsMarks_127 (i := 7) rfl
theorem d_M_readsMarks_12 : decode (zb m_M_readsMarks) 12 = .ok (.invokevirtual 514, 3) := zdal_p dlD_M_readsMarks_127 (i := 8) rfl
theorem d_M_readsMarks_15 : decode (zb m_M_readsMarks) 15 = .ok (.ifCond .eq 16, 3) := zdal_p dlD_M_readsMarks_127 (i := 9) rfl
theorem d_M_readsMarks_18 : decode (zb m_M_readsMarks) 18 = .ok (.aload_n 0, 1) := zdal_p dlD_M_readsMarks_127 (i := 10) rfl
theorem d_M_readsMarks_19 : decode (zb m_M_readsMarks) 19 = .ok (.dup, 1) := zdal_p dlD_M_readsMarks_127 (i := 11) rfl
theorem d_M_readsMarks_20 : decode (zb m_M_readsMarks) 20 = .ok (.getfield 504, 3) := zdal_p dlD_M_readsMarks_127 (i := 12) rfl
theorem d_M_readsMarks_23 : decode (zb m_M_readsMarks) 23 = .ok (.iconst 1, 1) := zdal_p dlD_M_readsMarks_127 (i := 13) rfl
theorem d_M_readsMarks_24 : decode (zb m_M_readsMarks) 24 = .ok (.iadd, 1) := zdal_p dlD_M_readsMarks_127 (i := 14) rfl
theorem d_M_readsMarks_25 : decode (zb m_M_readsMarks) 25 = .ok (.putfield 504, 3) := zdal_p dlD_M_readsMarks_127 (i := 15) rfl
theorem d_M_readsMarks_28 : decode (zb m_M_readsMarks) 28 = .ok (.goto (-18), 3) := zdal_p dlD_M_readsMarks_127 (i := 16) rfl
theorem d_M_readsMarks_31 : decode (zb m_M_readsMarks) 31 = .ok (.aload_n 0, 1) := zdal_p dlD_M_readsMarks_127 (i := 17) rfl
theorem d_M_readsMarks_32 : decode (zb m_M_readsMarks) 32 = .ok (.getfield 504, 3) := zdal_p dlD_M_readsMarks_127 (i := 18) rfl
theorem d_M_readsMarks_35 : decode (zb m_M_readsMarks) 35 = .ok (.iload_n 1, 1) := zdal_p dlD_M_readsMarks_127 (i := 19) rfl
theorem d_M_readsMarks_36 : decode (zb m_M_readsMarks) 36 = .ok (.if_icmp .ge 52, 3) := zdal_p dlD_M_readsMarks_127 (i := 20) rfl
theorem d_M_readsMarks_39 : decode (zb m_M_readsMarks) 39 = .ok (.aload_n 0, 1) := zdal_p dlD_M_readsMarks_127 (i := 21) rfl
theorem d_M_readsMarks_40 : decode (zb m_M_readsMarks) 40 = .ok (.iload_n 1, 1) := zdal_p dlD_M_readsMarks_127 (i := 22) rfl
theorem d_M_readsMarks_41 : decode (zb m_M_readsMarks) 41 = .ok (.invokevirtual 517, 3) := zdal_p dlD_M_readsMarks_127 (i := 23) rfl
theorem dlD_M_readsMarks_128 : zdal (zb m_M_readsMarks) [(44, (.ifCond .ne 5, 3)), (47, (.iconst 0, 1)), (48, (.ireturn, 1)), (49, (.aload_n 0, 1)), (50, (.getfield 504, 3)), (53, (.iload_n 1, 1)), (54, (.if_icmp .ge 13, 3)), (57, (.aload_n 0, 1)), (58, (.iload_n 1, 1)), (59, (.invokevirtual 514, 3)), (62, (.ifCond .ne 5, 3)), (65, (.iconst 0, 1)), (66, (.ireturn, 1)), (67, (.aload_n 0, 1)), (68, (.iload_n 1, 1)), (69, (.invokevirtual 514, 3)), (72, (.ifCond .eq (-41), 3)), (75, (.aload_n 0, 1)), (76, (.dup, 1)), (77, (.getfield 504, 3)), (80, (.iconst 1, 1)), (81, (.iadd, 1)), (82, (.putfield 504, 3)), (85, (.goto (-18), 3))] = true := zDs 44 (by decide +kernel)
theorem d_M_readsMarks_44 : decode (zb m_M_readsMarks) 44 = .ok (.ifCond .ne 5, 3) := zdal_p dlD_M_readsMarks_128 (i := 0) rfl
theorem d_M_readsMarks_47 : decode (zb m_M_readsMarks) 47 = .ok (.iconst 0, 1) := zdal_p dlD_M_readsMarks_128 (i := 1) rfl
theorem d_M_readsMarks_48 : decode (zb m_M_readsMarks) 48 = .ok (.ireturn, 1) := zdal_p dlD_M_readsMarks_128 (i := 2) rfl
theorem d_M_readsMarks_49 : decode (zb m_M_readsMarks) 49 = .ok (.aload_n 0, 1) := zdal_p dlD_M_readsMarks_128 (i := 3) rfl
theorem d_M_readsMarks_50 : decode (zb m_M_readsMarks) 50 = .ok (.getfield 504, 3) := zdal_p dlD_M_readsMarks_128 (i := 4) rfl
theorem d_M_readsMarks_53 : decode (zb m_M_readsMarks) 53 = .ok (.iload_n 1, 1) := zdal_p dlD_M_readsMarks_128 (i := 5) rfl
theorem d_M_readsMarks_54 : decode (zb m_M_readsMarks) 54 = .ok (.if_icmp .ge 13, 3) := zdal_p dlD_M_readsMarks_128 (i := 6) rfl
theorem d_M_readsMarks_57 : decode (zb m_M_readsMarks) 57 = .ok (.aload_n 0, 1) := zdal_p dlD_M_readsMarks_128 (i := 7) rfl
theorem d_M_readsMarks_58 : decode (zb m_M_readsMarks) 58 = .ok (.iload_n 1, 1) := zdal_p dlD_M_readsMarks_128 (i := 8) rfl
theorem d_M_readsMarks_59 : decode (zb m_M_readsMarks) 59 = .ok (.invokevirtual 514, 3) := zdal_p dlD_M_readsMarks_128 (i := 9) rfl
theorem d_M_readsMarks_62 : decode (zb m_M_readsMarks) 62 = .ok (.ifCond .ne 5, 3) := zdal_p dlD_M_readsMarks_128 (i := 10) rfl
theorem d_M_readsMarks_65 : decode (zb m_M_readsMarks) 65 = .ok (.iconst 0, 1) := zdal_p dlD_M_readsMarks_128 (i := 11) rfl
theorem d_M_readsMarks_66 : decode (zb m_M_readsMarks) 66 = .ok (.ireturn, 1) := zdal_p dlD_M_readsMarks_128 (i := 12) rfl
theorem d_M_readsMarks_67 : decode (zb m_M_readsMarks) 67 = .ok (.aload_n 0, 1) := zdal_p dlD_M_readsMarks_128 (i := 13) rfl
theorem d_M_readsMarks_68 : decode (zb m_M_readsMarks) 68 = .ok (.iload_n 1, 1) := zdal_p dlD_M_readsMarks_128 (i := 14) rfl
theorem d_M_readsMarks_69 : decode (zb m_M_readsMarks) 69 = .ok (.invokevirtual 514, 3) := zdal_p dlD_M_readsMarks_128 (i := 15) rfl
theorem d_M_readsMarks_72 : decode (zb m_M_readsMarks) 72 = .ok (.ifCond .eq (-41), 3) := zdal_p dlD_M_readsMarks_128 (i := 16) rfl
theorem d_M_readsMarks_75 : decode (zb m_M_readsMarks) 75 = .ok (.aload_n 0, 1) := zdal_p dlD_M_readsMarks_128 (i := 17) rfl
theorem d_M_readsMarks_76 : decode (zb m_M_readsMarks) 76 = .ok (.dup, 1) := zdal_p dlD_M_readsMarks_128 (i := 18) rfl
theorem d_M_readsMarks_77 : decode (zb m_M_readsMarks) 77 = .ok (.getfield 504, 3) := zdal_p dlD_M_readsMarks_128 (i := 19) rfl
theorem d_M_readsMarks_80 : decode (zb m_M_readsMarks) 80 = .ok (.iconst 1, 1) := zdal_p dlD_M_readsMarks_128 (i := 20) rfl
theorem d_M_readsMarks_81 : decode (zb m_M_readsMarks) 81 = .ok (.iadd, 1) := zdal_p dlD_M_readsMarks_128 (i := 21) rfl
theorem d_M_readsMarks_82 : decode (zb m_M_readsMarks) 82 = .ok (.putfield 504, 3) := zdal_p dlD_M_readsMarks_128 (i := 22) rfl
theorem d_M_readsMarks_85 : decode (zb m_M_readsMarks) 85 = .ok (.goto (-18), 3) := zdal_p dlD_M_readsMarks_128 (i := 23) rfl
theorem dlD_M_readsMarks_129 : zdal (zb m_M_readsMarks) [(88, (.aload_n 0, 1)), (89, (.getfield 511, 3)), (92, (.aload_n 0, 1)), (93, (.getfield 235, 3)), (96, (.if_icmp .ne 7, 3)), (99, (.iconst 1, 1)), (100, (.goto 4, 3)), (103, (.iconst 0, 1)), (104, (.ireturn, 1))] = true := zDs 88 (by decide +kernel)
theorem d_M_readsMarks_88 : decode (zb m_M_readsMarks) 88 = .ok (.aload_n 0, 1) := zdal_p dlD_M_readsMarks_129 (i := 0) rfl
theorem d_M_readsMarks_89 : decode (zb m_M_readsMarks) 89 = .ok (.getfield 511, 3) := zdal_p dlD_M_readsMarks_129 (i := 1) rfl
theorem d_M_readsMarks_92 : decode (zb m_M_readsMarks) 92 = .ok (.aload_n 0, 1) := zdal_p dlD_M_readsMarks_129 (i := 2) rfl
theorem d_M_readsMarks_93 : decode (zb m_M_readsMarks) 93 = .ok (.getfield 235, 3) := zdal_p dlD_M_readsMarks_129 (i := 3) rfl
theorem d_M_readsMarks_96 : decode (zb m_M_readsMarks) 96 = .ok (.if_icmp .ne 7, 3) := zdal_p dlD_M_readsMarks_129 (i := 4) rfl
theorem d_M_readsMarks_99 : decode (zb m_M_readsMarks) 99 = .ok (.iconst 1, 1) := zdal_p dlD_M_readsMarks_129 (i := 5) rfl
theorem d_M_readsMarks_100 : decode (zb m_M_readsMarks) 100 = .ok (.goto 4, 3) := zdal_p dlD_M_readsMarks_129 (i := 6) rfl
theorem d_M_readsMarks_103 : decode (zb m_M_readsMarks) 103 = .ok (.iconst 0, 1) := zdal_p dlD_M_readsMarks_129 (i := 7) rfl
theorem d_M_readsMarks_104 : decode (zb m_M_readsMarks) 104 = .ok (.ireturn, 1) := zdal_p dlD_M_readsMarks_129 (i := 8) rfl
theorem dlD_M_isBlank_130 : zdal (zb m_M_isBlank) [(0, (.aload_n 0, 1)), (1, (.getfield 504, 3)), (4, (.iload_n 1, 1)), (5, (.if_icmp .ge 35, 3)), (8, (.aload_n 0, 1)), (9, (.getfield 7, 3)), (12, (.aload_n 0, 1)), (13, (.getfield 504, 3)), (16, (.iaload, 1)), (17, (.bipush 32, 2)), (19, (.if_icmp .eq 17, 3)), (22, (.aload_n 0, 1)), (23, (.getfield 7, 3)), (26, (.aload_n 0, 1)), (27, (.getfield 504, 3)), (30, (.iaload, 1)), (31, (.bipush 10, 2)), (33, (.if_icmp .ne 7, 3)), (36, (.iconst 1, 1)), (37, (.goto 4, 3)), (40, (.iconst 0, 1)), (41, (.ireturn, 1))] = true := zDs 0 (by decide +kernel)
theorem d_M_isBlank_0 : decode (zb m_M_isBlank) 0 = .ok (.aload_n 0, 1) := zdal_p dlD_M_isBlank_130 (i := 0) rfl
theorem d_M_isBlank_1 : decode (zb m_M_isBlank) 1 = .ok (.getfield 504, 3) := zdal_p dlD_M_isBlank_130 (i := 1) rfl
theorem d_M_isBlank_4 : decode (zb m_M_isBlank) 4 = .ok (.iload_n 1, 1) := zdal_p dlD_M_isBlank_130 (i := 2) rfl
theorem d_M_isBlank_5 : decode (zb m_M_isBlank) 5 = .ok (.if_icmp .ge 35, 3) := zdal_p dlD_M_isBlank_130 (i := 3) rfl
theorem d_M_isBlank_8 : decode (zb m_M_isBlank) 8 = .ok (.aload_n 0, 1) := zdal_p dlD_M_isBlank_130 (i := 4) rfl
theorem d_M_isBlank_9 : decode (zb m_M_isBlank) 9 = .ok (.getfield 7, 3) := zdal_p dlD_M_isBlank_130 (i := 5) rfl
theorem d_M_isBlank_12 : decode (zb m_M_isBlank) 12 = .ok (.aload_n 0, 1) := zdal_p dlD_M_isBlank_130 (i := 6) rfl
theorem d_M_isBlank_13 : decode (zb m_M_isBlank) 13 = .ok (.getfield 504, 3) := zdal_p dlD_M_isBlank_130 (i := 7) rfl
theorem d_M_isBlank_16 : decode (zb m_M_isBlank) 16 = .ok (.iaload, 1) := zdal_p dlD_M_isBlank_130 (i := 8) rfl
theorem d_M_isBlank_17 : decode (zb m_M_isBlank) 17 = .ok (.bipush 32, 2) := zdal_p dlD_M_isBlank_130 (i := 9) rfl
theorem d_M_isBlank_19 : decode (zb m_M_isBlank) 19 = .ok (.if_icmp .eq 17, 3) := zdal_p dlD_M_isBlank_130 (i := 10) rfl
theorem d_M_isBlank_22 : decode (zb m_M_isBlank) 22 = .ok (.aload_n 0, 1) := zdal_p dlD_M_isBlank_130 (i := 11) rfl
theorem d_M_isBlank_23 : decode (zb m_M_isBlank) 23 = .ok (.getfield 7, 3) := zdal_p dlD_M_isBlank_130 (i := 12) rfl
theorem d_M_isBlank_26 : decode (zb m_M_isBlank) 26 = .ok (.aload_n 0, 1) := zdal_p dlD_M_isBlank_130 (i := 13) rfl
theorem d_M_isBlank_27 : decode (zb m_M_isBlank) 27 = .ok (.getfield 504, 3) := zdal_p dlD_M_isBlank_130 (i := 14) rfl
theorem d_M_isBlank_30 : decode (zb m_M_isBlank) 30 = .ok (.iaload, 1) := zdal_p dlD_M_isBlank_130 (i := 15) rfl
theorem d_M_isBlank_31 : decode (zb m_M_isBlank) 31 = .ok (.bipush 10, 2) := zdal_p dlD_M_isBlank_130 (i := 16) rfl
theorem d_M_isBlank_33 : decode (zb m_M_isBlank) 33 = .ok (.if_icmp .ne 7, 3) := zdal_p dlD_M_isBlank_130 (i := 17) rfl
theorem d_M_isBlank_36 : decode (zb m_M_isBlank) 36 = .ok (.iconst 1, 1) := zdal_p dlD_M_isBlank_130 (i := 18) rfl
theorem d_M_isBlank_37 : decode (zb m_M_isBlank) 37 = .ok (.goto 4, 3) := zdal_p dlD_M_isBlank_130 (i := 19) rfl
theorem d_M_isBlank_40 : decode (zb m_M_isBlank) 40 = .ok (.iconst 0, 1) := zdal_p dlD_M_isBlank_130 (i := 20) rfl
theorem d_M_isBlank_41 : decode (zb m_M_isBlank) 41 = .ok (.ireturn, 1) := zdal_p dlD_M_isBlank_130 (i := 21) rfl
theorem dlD_M_readsNumber_131 : zdal (zb m_M_readsNumber) [(0, (.aload_n 0, 1)), (1, (.getfield 504, 3)), (4, (.iload_n 1, 1)), (5, (.if_icmp .ge 21, 3)), (8, (.aload_n 0, 1)), (9, (.getfield 7, 3)), (12, (.aload_n 0, 1)), (13, (.getfield 504, 3)), (16, (.iaload, 1)), (17, (.bipush 45, 2)), (19, (.if_icmp .ne 7, 3)), (22, (.iconst 1, 1)), (23, (.goto 4, 3)), (26, (.iconst 0, 1)), (27, (.istore_n 2, 1)), (28, (.iload_n 2, 1)), (29, (.ifCond .eq 13, 3)), (32, (.aload_n 0, 1)), (33, (.dup, 1)), (34, (.getfield 504, 3)), (37, (.iconst 1, 1)), (38, (.iadd, 1)), (39, (.putfield 504, 3)), (42, (.lconst 0, 1))] = true := zDs 0 (by decide +kernel)
theorem d_M_readsNumber_0 : decode (zb m_M_readsNumber) 0 = .ok (.aload_n 0, 1) := zdal_p dlD_M_readsNumber_131 (i := 0) rfl
theorem d_M_readsNumber_1 : decode (zb m_M_readsNumber) 1 = .ok (.getfield 504, 3) := zdal_p dlD_M_readsNumber_131 (i := 1) rfl
theorem d_M_readsNumber_4 : decode (zb m_M_readsNumber) 4 = .ok (.iload_n 1, 1) := zdal_p dlD_M_readsNumber_131 (i := 2) rfl
theorem d_M_readsNumber_5 : decode (zb m_M_readsNumber) 5 = .ok (.if_icmp .ge 21, 3) := zdal_p dlD_M_readsNumber_131 (i := 3) rfl
theorem d_M_readsNumber_8 : decode (zb m_M_readsNumber) 8 = .ok (.aload_n 0, 1) := zdal_p dlD_M_readsNumber_131 (i := 4) rfl
theorem d_M_readsNumber_9 : decode (zb m_M_readsNumber) 9 = .ok (.getfield 7, 3) := zdal_p dlD_M_readsNumber_131 (i := 5) rfl
theorem d_M_readsNumber_12 : decode (zb m_M_readsNumber) 12 = .ok (.aload_n 0, 1) := zdal_p dlD_M_readsNumber_131 (i := 6) rfl
theorem d_M_readsNumber_13 : decode (zb m_M_readsNumber) 13 = .ok (.getfield 504, 3) := zdal_p dlD_M_readsNumber_131 (i := 7) rfl
theorem d_M_readsNumber_16 : decode (zb m_M_readsNumber) 16 = .ok (.iaload, 1) := zdal_p dlD_M_readsNumber_131 (i := 8) rfl
theorem d_M_readsNumber_17 : decode (zb m_M_readsNumber) 17 = .ok (.bipush 45, 2) := zdal_p dlD_M_readsNumber_131 (i := 9) rfl
theorem d_M_readsNumber_19 : decode (zb m_M_readsNumber) 19 = .ok (.if_icmp .ne 7, 3) := zdal_p dlD_M_readsNumber_131 (i := 10) rfl
theorem d_M_readsNumber_22 : decode (zb m_M_readsNumber) 22 = .ok (.iconst 1, 1) := zdal_p dlD_M_readsNumber_131 (i := 11) rfl
theorem d_M_readsNumber_23 : decode (zb m_M_readsNumber) 23 = .ok (.goto 4, 3) := zdal_p dlD_M_readsNumber_131 (i := 12) rfl
theorem d_M_readsNumber_26 : decode (zb m_M_readsNumber) 26 = .ok (.iconst 0, 1) := zdal_p dlD_M_readsNumber_131 (i := 13) rfl
theorem d_M_readsNumber_27 : decode (zb m_M_readsNumber) 27 = .ok (.istore_n 2, 1) := zdal_p dlD_M_readsNumber_131 (i := 14) rfl
theorem d_M_readsNumber_28 : decode (zb m_M_readsNumber) 28 = .ok (.iload_n 2, 1) := zdal_p dlD_M_readsNumber_131 (i := 15) rfl
theorem d_M_readsNumber_29 : decode (zb m_M_readsNumber) 29 = .ok (.ifCond .eq 13, 3) := zdal_p dlD_M_readsNumber_131 (i := 16) rfl
theorem d_M_readsNumber_32 : decode (zb m_M_readsNumber) 32 = .ok (.aload_n 0, 1) := zdal_p dlD_M_readsNumber_131 (i := 17) rfl
theorem d_M_readsNumber_33 : decode (zb m_M_readsNumber) 33 = .ok (.dup, 1) := zdal_p dlD_M_readsNumber_131 (i := 18) rfl
theorem d_M_readsNumber_34 : decode (zb m_M_readsNumber) 34 = .ok (.getfield 504, 3) := zdal_p dlD_M_readsNumber_131 (i := 19) rfl
theorem d_M_readsNumber_37 : decode (zb m_M_readsNumber) 37 = .ok (.iconst 1, 1) := zdal_p dlD_M_readsNumber_131 (i := 20) rfl
theorem d_M_readsNumber_38 : decode (zb m_M_readsNumber) 38 = .ok (.iadd, 1) := zdal_p dlD_M_readsNumber_131 (i := 21) rfl
theorem d_M_readsNumber_39 : decode (zb m_M_readsNumber) 39 = .ok (.putfield 504, 3) := zdal_p dlD_M_readsNumber_131 (i := 22) rfl
theorem d_M_readsNumber_42 : decode (zb m_M_readsNumber) 42 = .ok (.lconst 0, 1) := zdal_p dlD_M_readsNumber_131 (i := 23) rfl
theorem dlD_M_readsNumber_132 : zdal (zb m_M_readsNumber) [(43, (.lstore_n 3, 1)), (44, (.iconst 0, 1)), (45, (.istore 5, 2)), (47, (.aload_n 0, 1)), (48, (.getfield 504, 3)), (51, (.iload_n 1, 1)), (52, (.if_icmp .ge 62, 3)), (55, (.aload_n 0, 1)), (56, (.getfield 7, 3)), (59, (.aload_n 0, 1)), (60, (.getfield 504, 3)), (63, (.iaload, 1)), (64, (.invokestatic 162, 3)), (67, (.ifCond .eq 47, 3)), (70, (.iload 5, 2)), (72, (.bipush 6, 2)), (74, (.if_icmp .gt 40, 3)), (77, (.ldc2_w 507, 3)), (80, (.lload_n 3, 1)), (81, (.lmul, 1)), (82, (.aload_n 0, 1)), (83, (.getfield 7, 3)), (86, (.aload_n 0, 1)), (87, (.getfield 504, 3))] = true := zDs 43 (by decide +kernel)
theorem d_M_readsNumber_43 : decode (zb m_M_readsNumber) 43 = .ok (.lstore_n 3, 1) := zdal_p dlD_M_readsNumber_132 (i := 0) rfl
theorem d_M_readsNumber_44 : decode (zb m_M_readsNumber) 44 = .ok (.iconst 0, 1) := zdal_p dlD_M_readsNumber_132 (i := 1) rfl
theorem d_M_readsNumber_45 : decode (zb m_M_readsNumber) 45 = .ok (.istore 5, 2) := zdal_p dlD_M_readsNumber_132 (i := 2) rfl
theorem d_M_readsNumber_47 : decode (zb m_M_readsNumber) 47 = .ok (.aload_n 0, 1) := zdal_p dlD_M_readsNumber_132 (i := 3) rfl
theorem d_M_readsNumber_48 : decode (zb m_M_readsNumber) 48 = .ok (.getfield 504, 3) := zdal_p dlD_M_readsNumber_132 (i := 4) rfl
theorem d_M_readsNumber_51 : decode (zb m_M_readsNumber) 51 = .ok (.iload_n 1, 1) := zdal_p dlD_M_readsNumber_132 (i := 5) rfl
theorem d_M_readsNumber_52 : decode (zb m_M_readsNumber) 52 = .ok (.if_icmp .ge 62, 3) := zdal_p dlD_M_readsNumber_132 (i := 6) rfl
theorem d_M_readsNumber_55 : decode (zb m_M_readsNumber) 55 = .ok (.aload_n 0, 1) := zdal_p dlD_M_readsNumber_132 (i := 7) rfl
theorem d_M_readsNumber_56 : decode (zb m_M_readsNumber) 56 = .ok (.getfield 7, 3) := zdal_p dlD_M_readsNumber_132 (i := 8) rfl
theorem d_M_readsNumber_59 : decode (zb m_M_readsNumber) 59 = .ok (.aload_n 0, 1) := zdal_p dlD_M_readsNumber_132 (i := 9) rfl
theorem d_M_readsNumber_60 : decode (zb m_M_readsNumber) 60 = .ok (.getfield 504, 3) := zdal_p dlD_M_readsNumber_132 (i := 10) rfl
theorem d_M_readsNumber_63 : decode (zb m_M_readsNumber) 63 = .ok (.iaload, 1) := zdal_p dlD_M_readsNumber_132 (i := 11) rfl
theorem d_M_readsNumber_64 : decode (zb m_M_readsNumber) 64 = .ok (.invokestatic 162, 3) := zdal_p dlD_M_readsNumber_132 (i := 12) rfl
theorem d_M_readsNumber_67 : decode (zb m_M_readsNumber) 67 = .ok (.ifCond .eq 47, 3) := zdal_p dlD_M_readsNumber_132 (i := 13) rfl
theorem d_M_readsNumber_70 : decode (zb m_M_readsNumber) 70 = .ok (.iload 5, 2) := zdal_p dlD_M_readsNumber_132 (i := 14) rfl
theorem d_M_readsNumber_72 : decode (zb m_M_readsNumber) 72 = .ok (.bipush 6, 2) := zdal_p dlD_M_readsNumber_132 (i := 15) rfl
theorem d_M_readsNumber_74 : decode (zb m_M_readsNumber) 74 = .ok (.if_icmp .gt 40, 3) := zdal_p dlD_M_readsNumber_132 (i := 16) rfl
theorem d_M_readsNumber_77 : decode (zb m_M_readsNumber) 77 = .ok (.ldc2_w 507, 3) := zdal_p dlD_M_readsNumber_132 (i := 17) rfl
theorem d_M_readsNumber_80 : decode (zb m_M_readsNumber) 80 = .ok (.lload_n 3, 1) := zdal_p dlD_M_readsNumber_132 (i := 18) rfl
theorem d_M_readsNumber_81 : decode (zb m_M_readsNumber) 81 = .ok (.lmul, 1) := zdal_p dlD_M_readsNumber_132 (i := 19) rfl
theorem d_M_readsNumber_82 : decode (zb m_M_readsNumber) 82 = .ok (.aload_n 0, 1) := zdal_p dlD_M_readsNumber_132 (i := 20) rfl
theorem d_M_readsNumber_83 : decode (zb m_M_readsNumber) 83 = .ok (.getfield 7, 3) := zdal_p dlD_M_readsNumber_132 (i := 21) rfl
theorem d_M_readsNumber_86 : decode (zb m_M_readsNumber) 86 = .ok (.aload_n 0, 1) := zdal_p dlD_M_readsNumber_132 (i := 22) rfl
theorem d_M_readsNumber_87 : decode (zb m_M_readsNumber) 87 = .ok (.getfield 504, 3) := zdal_p dlD_M_readsNumber_132 (i := 23) rfl
theorem dlD_M_readsNumber_133 : zdal (zb m_M_readsNumber) [(90, (.iaload, 1)), (91, (.i2l, 1)), (92, (.ladd, 1)), (93, (.ldc2_w 509, 3)), (96, (.lsub, 1)), (97, (.lstore_n 3, 1)), (98, (.iinc 5 1, 3)), (101, (.aload_n 0, 1)), (102, (.dup, 1)), (103, (.getfield 504, 3)), (106, (.iconst 1, 1)), (107, (.iadd, 1)), (108, (.putfield 504, 3)), (111, (.goto (-64), 3)), (114, (.iload 5, 2)), (116, (.ifCond .eq 21, 3)), (119, (.iload 5, 2)), (121, (.bipush 6, 2)), (123, (.if_icmp .gt 14, 3)), (126, (.aload_n 0, 1)), (127, (.getfield 511, 3)), (130, (.aload_n 0, 1)), (131, (.getfield 235, 3)), (134, (.if_icmp .ne 5, 3))] = true := zDs 90 (by decide +kernel)
theorem d_M_readsNumber_90 : decode (zb m_M_readsNumber) 90 = .ok (.iaload, 1) := zdal_p dlD_M_readsNumber_133 (i := 0) rfl
theorem d_M_readsNumber_91 : decode (zb m_M_readsNumber) 91 = .ok (.i2l, 1) := zdal_p dlD_M_readsNumber_133 (i := 1) rfl
theorem d_M_readsNumber_92 : decode (zb m_M_readsNumber) 92 = .ok (.ladd, 1) := zdal_p dlD_M_readsNumber_133 (i := 2) rfl
theorem d_M_readsNumber_93 : decode (zb m_M_readsNumber) 93 = .ok (.ldc2_w 509, 3) := zdal_p dlD_M_readsNumber_133 (i := 3) rfl
theorem d_M_readsNumber_96 : decode (zb m_M_readsNumber) 96 = .ok (.lsub, 1) := zdal_p dlD_M_readsNumber_133 (i := 4) rfl
theorem d_M_readsNumber_97 : decode (zb m_M_readsNumber) 97 = .ok (.lstore_n 3, 1) := zdal_p dlD_M_readsNumber_133 (i := 5) rfl
theorem d_M_readsNumber_98 : decode (zb m_M_readsNumber) 98 = .ok (.iinc 5 1, 3) := zdal_p dlD_M_readsNumber_133 (i := 6) rfl
theorem d_M_readsNumber_101 : decode (zb m_M_readsNumber) 101 = .ok (.aload_n 0, 1) := zdal_p dlD_M_readsNumber_133 (i := 7) rfl
theorem d_M_readsNumber_102 : decode (zb m_M_readsNumber) 102 = .ok (.dup, 1) := zdal_p dlD_M_readsNumber_133 (i := 8) rfl
theorem d_M_readsNumber_103 : decode (zb m_M_readsNumber) 103 = .ok (.getfield 504, 3) := zdal_p dlD_M_readsNumber_133 (i := 9) rfl
theorem d_M_readsNumber_106 : decode (zb m_M_readsNumber) 106 = .ok (.iconst 1, 1) := zdal_p dlD_M_readsNumber_133 (i := 10) rfl
theorem d_M_readsNumber_107 : decode (zb m_M_readsNumber) 107 = .ok (.iadd, 1) := zdal_p dlD_M_readsNumber_133 (i := 11) rfl
theorem d_M_readsNumber_108 : decode (zb m_M_readsNumber) 108 = .ok (.putfield 504, 3) := zdal_p dlD_M_readsNumber_133 (i := 12) rfl
theorem d_M_readsNumber_111 : decode (zb m_M_readsNumber) 111 = .ok (.goto (-64), 3) := zdal_p dlD_M_readsNumber_133 (i := 13) rfl
theorem d_M_readsNumber_114 : decode (zb m_M_readsNumber) 114 = .ok (.iload 5, 2) := zdal_p dlD_M_readsNumber_133 (i := 14) rfl
theorem d_M_readsNumber_116 : decode (zb m_M_readsNumber) 116 = .ok (.ifCond .eq 21, 3) := zdal_p dlD_M_readsNumber_133 (i := 15) rfl
theorem d_M_readsNumber_119 : decode (zb m_M_readsNumber) 119 = .ok (.iload 5, 2) := zdal_p dlD_M_readsNumber_133 (i := 16) rfl
theorem d_M_readsNumber_121 : decode (zb m_M_readsNumber) 121 = .ok (.bipush 6, 2) := zdal_p dlD_M_readsNumber_133 (i := 17) rfl
theorem d_M_readsNumber_123 : decode (zb m_M_readsNumber) 123 = .ok (.if_icmp .gt 14, 3) := zdal_p dlD_M_readsNumber_133 (i := 18) rfl
theorem d_M_readsNumber_126 : decode (zb m_M_readsNumber) 126 = .ok (.aload_n 0, 1) := zdal_p dlD_M_readsNumber_133 (i := 19) rfl
theorem d_M_readsNumber_127 : decode (zb m_M_readsNumber) 127 = .ok (.getfield 511, 3) := zdal_p dlD_M_readsNumber_133 (i := 20) rfl
theorem d_M_readsNumber_130 : decode (zb m_M_readsNumber) 130 = .ok (.aload_n 0, 1) := zdal_p dlD_M_readsNumber_133 (i := 21) rfl
theorem d_M_readsNumber_131 : decode (zb m_M_readsNumber) 131 = .ok (.getfield 235, 3) := zdal_p dlD_M_readsNumber_133 (i := 22) rfl
theorem d_M_readsNumber_134 : decode (zb m_M_readsNumber) 134 = .ok (.if_icmp .ne 5, 3) := zdal_p dlD_M_readsNumber_133 (i := 23) rfl
theorem dlD_M_readsNumber_134 : zdal (zb m_M_readsNumber) [(137, (.iconst 0, 1)), (138, (.ireturn, 1)), (139, (.aload_n 0, 1)), (140, (.getfield 69, 3)), (143, (.aload_n 0, 1)), (144, (.getfield 511, 3)), (147, (.iload_n 2, 1)), (148, (.ifCond .eq 8, 3)), (151, (.lload_n 3, 1)), (152, (.lneg, 1)), (153, (.goto 4, 3)), (156, (.lload_n 3, 1)), (157, (.lastore, 1)), (158, (.aload_n 0, 1)), (159, (.dup, 1)), (160, (.getfield 511, 3)), (163, (.iconst 1, 1)), (164, (.iadd, 1)), (165, (.putfield 511, 3)), (168, (.iconst 1, 1)), (169, (.ireturn, 1))] = true := zDs 137 (by decide +kernel)
theorem d_M_readsNumber_137 : decode (zb m_M_readsNumber) 137 = .ok (.iconst 0, 1) := zdal_p dlD_M_readsNumber_134 (i := 0) rfl
theorem d_M_readsNumber_138 : decode (zb m_M_readsNumber) 138 = .ok (.ireturn, 1) := zdal_p dlD_M_readsNumber_134 (i := 1) rfl
theorem d_M_readsNumber_139 : decode (zb m_M_readsNumber) 139 = .ok (.aload_n 0, 1) := zdal_p dlD_M_readsNumber_134 (i := 2) rfl
theorem d_M_readsNumber_140 : decode (zb m_M_readsNumber) 140 = .ok (.getfield 69, 3) := zdal_p dlD_M_readsNumber_134 (i := 3) rfl
theorem d_M_readsNumber_143 : decode (zb m_M_readsNumber) 143 = .ok (.aload_n 0, 1) := zdal_p dlD_M_readsNumber_134 (i := 4) rfl
theorem d_M_readsNumber_144 : decode (zb m_M_readsNumber) 144 = .ok (.getfield 511, 3) := zdal_p dlD_M_readsNumber_134 (i := 5) rfl
theorem d_M_readsNumber_147 : decode (zb m_M_readsNumber) 147 = .ok (.iload_n 2, 1) := zdal_p dlD_M_readsNumber_134 (i := 6) rfl
theorem d_M_readsNumber_148 : decode (zb m_M_readsNumber) 148 = .ok (.ifCond .eq 8, 3) := zdal_p dlD_M_readsNumber_134 (i := 7) rfl
theorem d_M_readsNumber_151 : decode (zb m_M_readsNumber) 151 = .ok (.lload_n 3, 1) := zdal_p dlD_M_readsNumber_134 (i := 8) rfl
theorem d_M_readsNumber_152 : decode (zb m_M_readsNumber) 152 = .ok (.lneg, 1) := zdal_p dlD_M_readsNumber_134 (i := 9) rfl
theorem d_M_readsNumber_153 : decode (zb m_M_readsNumber) 153 = .ok (.goto 4, 3) := zdal_p dlD_M_readsNumber_134 (i := 10) rfl
theorem d_M_readsNumber_156 : decode (zb m_M_readsNumber) 156 = .ok (.lload_n 3, 1) := zdal_p dlD_M_readsNumber_134 (i := 11) rfl
theorem d_M_readsNumber_157 : decode (zb m_M_readsNumber) 157 = .ok (.lastore, 1) := zdal_p dlD_M_readsNumber_134 (i := 12) rfl
theorem d_M_readsNumber_158 : decode (zb m_M_readsNumber) 158 = .ok (.aload_n 0, 1) := zdal_p dlD_M_readsNumber_134 (i := 13) rfl
theorem d_M_readsNumber_159 : decode (zb m_M_readsNumber) 159 = .ok (.dup, 1) := zdal_p dlD_M_readsNumber_134 (i := 14) rfl
theorem d_M_readsNumber_160 : decode (zb m_M_readsNumber) 160 = .ok (.getfield 511, 3) := zdal_p dlD_M_readsNumber_134 (i := 15) rfl
theorem d_M_readsNumber_163 : decode (zb m_M_readsNumber) 163 = .ok (.iconst 1, 1) := zdal_p dlD_M_readsNumber_134 (i := 16) rfl
theorem d_M_readsNumber_164 : decode (zb m_M_readsNumber) 164 = .ok (.iadd, 1) := zdal_p dlD_M_readsNumber_134 (i := 17) rfl
theorem d_M_readsNumber_165 : decode (zb m_M_readsNumber) 165 = .ok (.putfield 511, 3) := zdal_p dlD_M_readsNumber_134 (i := 18) rfl
theorem d_M_readsNumber_168 : decode (zb m_M_readsNumber) 168 = .ok (.iconst 1, 1) := zdal_p dlD_M_readsNumber_134 (i := 19) rfl
theorem d_M_readsNumber_169 : decode (zb m_M_readsNumber) 169 = .ok (.ireturn, 1) := zdal_p dlD_M_readsNumber_134 (i := 20) rfl
theorem dlD_M_uses_135 : zdal (zb m_M_uses) [(0, (.iload_n 1, 1)), (1, (.i2l, 1)), (2, (.lconst 0, 1)), (3, (.aload_n 0, 1)), (4, (.getfield 388, 3)), (7, (.iconst 1, 1)), (8, (.isub, 1)), (9, (.i2l, 1)), (10, (.invokestatic 131, 3)), (13, (.ifCond .ne 5, 3)), (16, (.iconst (-1), 1)), (17, (.ireturn, 1)), (18, (.aload_n 0, 1)), (19, (.invokevirtual 481, 3)), (22, (.iconst 0, 1)), (23, (.istore_n 2, 1)), (24, (.iload_n 2, 1)), (25, (.aload_n 0, 1)), (26, (.getfield 235, 3)), (29, (.if_icmp .ge 26, 3)), (32, (.aload_n 0, 1)), (33, (.getfield 66, 3)), (36, (.iload_n 2, 1)), (37, (.aload_n 0, 1))] = true := zDs 0 (by decide +kernel)
theorem d_M_uses_0 : decode (zb m_M_uses) 0 = .ok (.iload_n 1, 1) := zdal_p dlD_M_uses_135 (i := 0) rfl
theorem d_M_uses_1 : decode (zb m_M_uses) 1 = .ok (.i2l, 1) := zdal_p dlD_M_uses_135 (i := 1) rfl
theorem d_M_uses_2 : decode (zb m_M_uses) 2 = .ok (.lconst 0, 1) := zdal_p dlD_M_uses_135 (i := 2) rfl
theorem d_M_uses_3 : decode (zb m_M_uses) 3 = .ok (.aload_n 0, 1) := zdal_p dlD_M_uses_135 (i := 3) rfl
theorem d_M_uses_4 : decode (zb m_M_uses) 4 = .ok (.getfield 388, 3) := zdal_p dlD_M_uses_135 (i := 4) rfl
theorem d_M_uses_7 : decode (zb m_M_uses) 7 = .ok (.iconst 1, 1) := zdal_p dlD_M_uses_135 (i := 5) rfl
theorem d_M_uses_8 : decode (zb m_M_uses) 8 = .ok (.isub, 1) := zdal_p dlD_M_uses_135 (i := 6) rfl
theorem d_M_uses_9 : decode (zb m_M_uses) 9 = .ok (.i2l, 1) := zdal_p dlD_M_uses_135 (i := 7) rfl
theorem d_M_uses_10 : decode (zb m_M_uses) 10 = .ok (.invokestatic 131, 3) := zdal_p dlD_M_uses_135 (i := 8) rfl
theorem d_M_uses_13 : decode (zb m_M_uses) 13 = .ok (.ifCond .ne 5, 3) := zdal_p dlD_M_uses_135 (i := 9) rfl
theorem d_M_uses_16 : decode (zb m_M_uses) 16 = .ok (.iconst (-1), 1) := zdal_p dlD_M_uses_135 (i := 10) rfl
theorem d_M_uses_17 : decode (zb m_M_uses) 17 = .ok (.ireturn, 1) := zdal_p dlD_M_uses_135 (i := 11) rfl
theorem d_M_uses_18 : decode (zb m_M_uses) 18 = .ok (.aload_n 0, 1) := zdal_p dlD_M_uses_135 (i := 12) rfl
theorem d_M_uses_19 : decode (zb m_M_uses) 19 = .ok (.invokevirtual 481, 3) := zdal_p dlD_M_uses_135 (i := 13) rfl
theorem d_M_uses_22 : decode (zb m_M_uses) 22 = .ok (.iconst 0, 1) := zdal_p dlD_M_uses_135 (i := 14) rfl
theorem d_M_uses_23 : decode (zb m_M_uses) 23 = .ok (.istore_n 2, 1) := zdal_p dlD_M_uses_135 (i := 15) rfl
theorem d_M_uses_24 : decode (zb m_M_uses) 24 = .ok (.iload_n 2, 1) := zdal_p dlD_M_uses_135 (i := 16) rfl
theorem d_M_uses_25 : decode (zb m_M_uses) 25 = .ok (.aload_n 0, 1) := zdal_p dlD_M_uses_135 (i := 17) rfl
theorem d_M_uses_26 : decode (zb m_M_uses) 26 = .ok (.getfield 235, 3) := zdal_p dlD_M_uses_135 (i := 18) rfl
theorem d_M_uses_29 : decode (zb m_M_uses) 29 = .ok (.if_icmp .ge 26, 3) := zdal_p dlD_M_uses_135 (i := 19) rfl
theorem d_M_uses_32 : decode (zb m_M_uses) 32 = .ok (.aload_n 0, 1) := zdal_p dlD_M_uses_135 (i := 20) rfl
theorem d_M_uses_33 : decode (zb m_M_uses) 33 = .ok (.getfield 66, 3) := zdal_p dlD_M_uses_135 (i := 21) rfl
theorem d_M_uses_36 : decode (zb m_M_uses) 36 = .ok (.iload_n 2, 1) := zdal_p dlD_M_uses_135 (i := 22) rfl
theorem d_M_uses_37 : decode (zb m_M_uses) 37 = .ok (.aload_n 0, 1) := zdal_p dlD_M_uses_135 (i := 23) rfl
theorem dlD_M_uses_136 : zdal (zb m_M_uses) [(38, (.getfield 84, 3)), (41, (.bipush 64, 2)), (43, (.iload_n 1, 1)), (44, (.imul, 1)), (45, (.iload_n 2, 1)), (46, (.iadd, 1)), (47, (.laload, 1)), (48, (.lastore, 1)), (49, (.iinc 2 1, 3)), (52, (.goto (-28), 3)), (55, (.aload_n 0, 1)), (56, (.invokevirtual 484, 3)), (59, (.ireturn, 1))] = true := zDs 38 (by decide +kernel)
theorem d_M_uses_38 : decode (zb m_M_uses) 38 = .ok (.getfield 84, 3) := zdal_p dlD_M_uses_136 (i := 0) rfl
theorem d_M_uses_41 : decode (zb m_M_uses) 41 = .ok (.bipush 64, 2) := zdal_p dlD_M_uses_136 (i := 1) rfl
theorem d_M_uses_43 : decode (zb m_M_uses) 43 = .ok (.iload_n 1, 1) := zdal_p dlD_M_uses_136 (i := 2) rfl
theorem d_M_uses_44 : decode (zb m_M_uses) 44 = .ok (.imul, 1) := zdal_p dlD_M_uses_136 (i := 3) rfl
theorem d_M_uses_45 : decode (zb m_M_uses) 45 = .ok (.iload_n 2, 1) := zdal_p dlD_M_uses_136 (i := 4) rfl
theorem d_M_uses_46 : decode (zb m_M_uses) 46 = .ok (.iadd, 1) := zdal_p dlD_M_uses_136 (i := 5) rfl
theorem d_M_uses_47 : decode (zb m_M_uses) 47 = .ok (.laload, 1) := zdal_p dlD_M_uses_136 (i := 6) rfl
theorem d_M_uses_48 : decode (zb m_M_uses) 48 = .ok (.lastore, 1) := zdal_p dlD_M_uses_136 (i := 7) rfl
theorem d_M_uses_49 : decode (zb m_M_uses) 49 = .ok (.iinc 2 1, 3) := zdal_p dlD_M_uses_136 (i := 8) rfl
theorem d_M_uses_52 : decode (zb m_M_uses) 52 = .ok (.goto (-28), 3) := zdal_p dlD_M_uses_136 (i := 9) rfl
theorem d_M_uses_55 : decode (zb m_M_uses) 55 = .ok (.aload_n 0, 1) := zdal_p dlD_M_uses_136 (i := 10) rfl
theorem d_M_uses_56 : decode (zb m_M_uses) 56 = .ok (.invokevirtual 484, 3) := zdal_p dlD_M_uses_136 (i := 11) rfl
theorem d_M_uses_59 : decode (zb m_M_uses) 59 = .ok (.ireturn, 1) := zdal_p dlD_M_uses_136 (i := 12) rfl
theorem dlD_M_grows_137 : zdal (zb m_M_grows) [(0, (.aload_n 0, 1)), (1, (.iload_n 3, 1)), (2, (.invokevirtual 414, 3)), (5, (.ifCond .eq 31, 3)), (8, (.iload_n 1, 1)), (9, (.i2l, 1)), (10, (.ldc2_w 523, 3)), (13, (.ldc2_w 525, 3)), (16, (.invokestatic 131, 3)), (19, (.ifCond .eq 17, 3)), (22, (.iload_n 2, 1)), (23, (.i2l, 1)), (24, (.ldc2_w 527, 3)), (27, (.ldc2_w 529, 3)), (30, (.invokestatic 131, 3)), (33, (.ifCond .ne 7, 3)), (36, (.ldc2_w 470, 3)), (39, (.lreturn, 1)), (40, (.iconst 0, 1)), (41, (.istore 4, 2)), (43, (.iload 4, 2)), (45, (.aload_n 0, 1)), (46, (.getfield 235, 3)), (49, (.if_icmp .ge 39, 3))] = true := zDs 0 (by decide +kernel)
theorem d_M_grows_0 : decode (zb m_M_grows) 0 = .ok (.aload_n 0, 1) := zdal_p dlD_M_grows_137 (i := 0) rfl
theorem d_M_grows_1 : decode (zb m_M_grows) 1 = .ok (.iload_n 3, 1) := zdal_p dlD_M_grows_137 (i := 1) rfl
theorem d_M_grows_2 : decode (zb m_M_grows) 2 = .ok (.invokevirtual 414, 3) := zdal_p dlD_M_grows_137 (i := 2) rfl
theorem d_M_grows_5 : decode (zb m_M_grows) 5 = .ok (.ifCond .eq 31, 3) := zdal_p dlD_M_grows_137 (i := 3) rfl
theorem d_M_grows_8 : decode (zb m_M_grows) 8 = .ok (.iload_n 1, 1) := zdal_p dlD_M_grows_137 (i := 4) rfl
theorem d_M_grows_9 : decode (zb m_M_grows) 9 = .ok (.i2l, 1) := zdal_p dlD_M_grows_137 (i := 5) rfl
theorem d_M_grows_10 : decode (zb m_M_grows) 10 = .ok (.ldc2_w 523, 3) := zdal_p dlD_M_grows_137 (i := 6) rfl
theorem d_M_grows_13 : decode (zb m_M_grows) 13 = .ok (.ldc2_w 525, 3) := zdal_p dlD_M_grows_137 (i := 7) rfl
theorem d_M_grows_16 : decode (zb m_M_grows) 16 = .ok (.invokestatic 131, 3) := zdal_p dlD_M_grows_137 (i := 8) rfl
theorem d_M_grows_19 : decode (zb m_M_grows) 19 = .ok (.ifCond .eq 17, 3) := zdal_p dlD_M_grows_137 (i := 9) rfl
theorem d_M_grows_22 : decode (zb m_M_grows) 22 = .ok (.iload_n 2, 1) := zdal_p dlD_M_grows_137 (i := 10) rfl
theorem d_M_grows_23 : decode (zb m_M_grows) 23 = .ok (.i2l, 1) := zdal_p dlD_M_grows_137 (i := 11) rfl
theorem d_M_grows_24 : decode (zb m_M_grows) 24 = .ok (.ldc2_w 527, 3) := zdal_p dlD_M_grows_137 (i := 12) rfl
theorem d_M_grows_27 : decode (zb m_M_grows) 27 = .ok (.ldc2_w 529, 3) := zdal_p dlD_M_grows_137 (i := 13) rfl
theorem d_M_grows_30 : decode (zb m_M_grows) 30 = .ok (.invokestatic 131, 3) := zdal_p dlD_M_grows_137 (i := 14) rfl
theorem d_M_grows_33 : decode (zb m_M_grows) 33 = .ok (.ifCond .ne 7, 3) := zdal_p dlD_M_grows_137 (i := 15) rfl
theorem d_M_grows_36 : decode (zb m_M_grows) 36 = .ok (.ldc2_w 470, 3) := zdal_p dlD_M_grows_137 (i := 16) rfl
theorem d_M_grows_39 : decode (zb m_M_grows) 39 = .ok (.lreturn, 1) := zdal_p dlD_M_grows_137 (i := 17) rfl
theorem d_M_grows_40 : decode (zb m_M_grows) 40 = .ok (.iconst 0, 1) := zdal_p dlD_M_grows_137 (i := 18) rfl
theorem d_M_grows_41 : decode (zb m_M_grows) 41 = .ok (.istore 4, 2) := zdal_p dlD_M_grows_137 (i := 19) rfl
theorem d_M_grows_43 : decode (zb m_M_grows) 43 = .ok (.iload 4, 2) := zdal_p dlD_M_grows_137 (i := 20) rfl
theorem d_M_grows_45 : decode (zb m_M_grows) 45 = .ok (.aload_n 0, 1) := zdal_p dlD_M_grows_137 (i := 21) rfl
theorem d_M_grows_46 : decode (zb m_M_grows) 46 = .ok (.getfield 235, 3) := zdal_p dlD_M_grows_137 (i := 22) rfl
theorem d_M_grows_49 : decode (zb m_M_grows) 49 = .ok (.if_icmp .ge 39, 3) := zdal_p dlD_M_grows_137 (i := 23) rfl
theorem dlD_M_grows_138 : zdal (zb m_M_grows) [(52, (.aload_n 0, 1)), (53, (.getfield 87, 3)), (56, (.iload 4, 2)), (58, (.iload_n 1, 1)), (59, (.i2l, 1)), (60, (.aload_n 0, 1)), (61, (.getfield 66, 3)), (64, (.iload 4, 2)), (66, (.laload, 1)), (67, (.lmul, 1)), (68, (.iload 4, 2)), (70, (.iload_n 3, 1)), (71, (.if_icmp .ne 7, 3)), (74, (.iload_n 2, 1)), (75, (.goto 4, 3)), (78, (.iconst 0, 1)), (79, (.i2l, 1)), (80, (.ladd, 1)), (81, (.lastore, 1)), (82, (.iinc 4 1, 3)), (85, (.goto (-42), 3)), (88, (.aload_n 0, 1)), (89, (.aload_n 0, 1)), (90, (.getfield 87, 3))] = true := zDs 52 (by decide +kernel)
theorem d_M_grows_52 : decode (zb m_M_grows) 52 = .ok (.aload_n 0, 1) := zdal_p dlD_M_grows_138 (i := 0) rfl
theorem d_M_grows_53 : decode (zb m_M_grows) 53 = .ok (.getfield 87, 3) := zdal_p dlD_M_grows_138 (i := 1) rfl
theorem d_M_grows_56 : decode (zb m_M_grows) 56 = .ok (.iload 4, 2) := zdal_p dlD_M_grows_138 (i := 2) rfl
theorem d_M_grows_58 : decode (zb m_M_grows) 58 = .ok (.iload_n 1, 1) := zdal_p dlD_M_grows_138 (i := 3) rfl
theorem d_M_grows_59 : decode (zb m_M_grows) 59 = .ok (.i2l, 1) := zdal_p dlD_M_grows_138 (i := 4) rfl
theorem d_M_grows_60 : decode (zb m_M_grows) 60 = .ok (.aload_n 0, 1) := zdal_p dlD_M_grows_138 (i := 5) rfl
theorem d_M_grows_61 : decode (zb m_M_grows) 61 = .ok (.getfield 66, 3) := zdal_p dlD_M_grows_138 (i := 6) rfl
theorem d_M_grows_64 : decode (zb m_M_grows) 64 = .ok (.iload 4, 2) := zdal_p dlD_M_grows_138 (i := 7) rfl
theorem d_M_grows_66 : decode (zb m_M_grows) 66 = .ok (.laload, 1) := zdal_p dlD_M_grows_138 (i := 8) rfl
theorem d_M_grows_67 : decode (zb m_M_grows) 67 = .ok (.lmul, 1) := zdal_p dlD_M_grows_138 (i := 9) rfl
theorem d_M_grows_68 : decode (zb m_M_grows) 68 = .ok (.iload 4, 2) := zdal_p dlD_M_grows_138 (i := 10) rfl
theorem d_M_grows_70 : decode (zb m_M_grows) 70 = .ok (.iload_n 3, 1) := zdal_p dlD_M_grows_138 (i := 11) rfl
theorem d_M_grows_71 : decode (zb m_M_grows) 71 = .ok (.if_icmp .ne 7, 3) := zdal_p dlD_M_grows_138 (i := 12) rfl
theorem d_M_grows_74 : decode (zb m_M_grows) 74 = .ok (.iload_n 2, 1) := zdal_p dlD_M_grows_138 (i := 13) rfl
theorem d_M_grows_75 : decode (zb m_M_grows) 75 = .ok (.goto 4, 3) := zdal_p dlD_M_grows_138 (i := 14) rfl
theorem d_M_grows_78 : decode (zb m_M_grows) 78 = .ok (.iconst 0, 1) := zdal_p dlD_M_grows_138 (i := 15) rfl
theorem d_M_grows_79 : decode (zb m_M_grows) 79 = .ok (.i2l, 1) := zdal_p dlD_M_grows_138 (i := 16) rfl
theorem d_M_grows_80 : decode (zb m_M_grows) 80 = .ok (.ladd, 1) := zdal_p dlD_M_grows_138 (i := 17) rfl
theorem d_M_grows_81 : decode (zb m_M_grows) 81 = .ok (.lastore, 1) := zdal_p dlD_M_grows_138 (i := 18) rfl
theorem d_M_grows_82 : decode (zb m_M_grows) 82 = .ok (.iinc 4 1, 3) := zdal_p dlD_M_grows_138 (i := 19) rfl
theorem d_M_grows_85 : decode (zb m_M_grows) 85 = .ok (.goto (-42), 3) := zdal_p dlD_M_grows_138 (i := 20) rfl
theorem d_M_grows_88 : decode (zb m_M_grows) 88 = .ok (.aload_n 0, 1) := zdal_p dlD_M_grows_138 (i := 21) rfl
theorem d_M_grows_89 : decode (zb m_M_grows) 89 = .ok (.aload_n 0, 1) := zdal_p dlD_M_grows_138 (i := 22) rfl
theorem d_M_grows_90 : decode (zb m_M_grows) 90 = .ok (.getfield 87, 3) := zdal_p dlD_M_grows_138 (i := 23) rfl
theorem dlD_M_grows_139 : zdal (zb m_M_grows) [(93, (.iconst 0, 1)), (94, (.invokevirtual 271, 3)), (97, (.ifCond .ne 7, 3)), (100, (.ldc2_w 470, 3)), (103, (.lreturn, 1)), (104, (.aload_n 0, 1)), (105, (.invokevirtual 481, 3)), (108, (.iconst 0, 1)), (109, (.istore 4, 2)), (111, (.iload 4, 2)), (113, (.aload_n 0, 1)), (114, (.getfield 235, 3)), (117, (.if_icmp .ge 23, 3)), (120, (.aload_n 0, 1)), (121, (.getfield 66, 3)), (124, (.iload 4, 2)), (126, (.aload_n 0, 1)), (127, (.getfield 87, 3)), (130, (.iload 4, 2)), (132, (.laload, 1)), (133, (.lastore, 1)), (134, (.iinc 4 1, 3)), (137, (.goto (-26), 3)), (140, (.aload_n 0, 1))] = true := zDs 93 (by decide +kernel)
theorem d_M_grows_93 : decode (zb m_M_grows) 93 = .ok (.iconst 0, 1) := zdal_p dlD_M_grows_139 (i := 0) rfl
theorem d_M_grows_94 : decode (zb m_M_grows) 94 = .ok (.invokevirtual 271, 3) := zdal_p dlD_M_grows_139 (i := 1) rfl
theorem d_M_grows_97 : decode (zb m_M_grows) 97 = .ok (.ifCond .ne 7, 3) := zdal_p dlD_M_grows_139 (i := 2) rfl
theorem d_M_grows_100 : decode (zb m_M_grows) 100 = .ok (.ldc2_w 470, 3) := zdal_p dlD_M_grows_139 (i := 3) rfl
theorem d_M_grows_103 : decode (zb m_M_grows) 103 = .ok (.lreturn, 1) := zdal_p dlD_M_grows_139 (i := 4) rfl
theorem d_M_grows_104 : decode (zb m_M_grows) 104 = .ok (.aload_n 0, 1) := zdal_p dlD_M_grows_139 (i := 5) rfl
theorem d_M_grows_105 : decode (zb m_M_grows) 105 = .ok (.invokevirtual 481, 3) := zdal_p dlD_M_grows_139 (i := 6) rfl
theorem d_M_grows_108 : decode (zb m_M_grows) 108 = .ok (.iconst 0, 1) := zdal_p dlD_M_grows_139 (i := 7) rfl
theorem d_M_grows_109 : decode (zb m_M_grows) 109 = .ok (.istore 4, 2) := zdal_p dlD_M_grows_139 (i := 8) rfl
theorem d_M_grows_111 : decode (zb m_M_grows) 111 = .ok (.iload 4, 2) := zdal_p dlD_M_grows_139 (i := 9) rfl
theorem d_M_grows_113 : decode (zb m_M_grows) 113 = .ok (.aload_n 0, 1) := zdal_p dlD_M_grows_139 (i := 10) rfl
theorem d_M_grows_114 : decode (zb m_M_grows) 114 = .ok (.getfield 235, 3) := zdal_p dlD_M_grows_139 (i := 11) rfl
theorem d_M_grows_117 : decode (zb m_M_grows) 117 = .ok (.if_icmp .ge 23, 3) := zdal_p dlD_M_grows_139 (i := 12) rfl
theorem d_M_grows_120 : decode (zb m_M_grows) 120 = .ok (.aload_n 0, 1) := zdal_p dlD_M_grows_139 (i := 13) rfl
theorem d_M_grows_121 : decode (zb m_M_grows) 121 = .ok (.getfield 66, 3) := zdal_p dlD_M_grows_139 (i := 14) rfl
theorem d_M_grows_124 : decode (zb m_M_grows) 124 = .ok (.iload 4, 2) := zdal_p dlD_M_grows_139 (i := 15) rfl
theorem d_M_grows_126 : decode (zb m_M_grows) 126 = .ok (.aload_n 0, 1) := zdal_p dlD_M_grows_139 (i := 16) rfl
theorem d_M_grows_127 : decode (zb m_M_grows) 127 = .ok (.getfield 87, 3) := zdal_p dlD_M_grows_139 (i := 17) rfl
theorem d_M_grows_130 : decode (zb m_M_grows) 130 = .ok (.iload 4, 2) := zdal_p dlD_M_grows_139 (i := 18) rfl
theorem d_M_grows_132 : decode (zb m_M_grows) 132 = .ok (.laload, 1) := zdal_p dlD_M_grows_139 (i := 19) rfl
theorem d_M_grows_133 : decode (zb m_M_grows) 133 = .ok (.lastore, 1) := zdal_p dlD_M_grows_139 (i := 20) rfl
theorem d_M_grows_134 : decode (zb m_M_grows) 134 = .ok (.iinc 4 1, 3) := zdal_p dlD_M_grows_139 (i := 21) rfl
theorem d_M_grows_137 : decode (zb m_M_grows) 137 = .ok (.goto (-26), 3) := zdal_p dlD_M_grows_139 (i := 22) rfl
theorem d_M_grows_140 : decode (zb m_M_grows) 140 = .ok (.aload_n 0, 1) := zdal_p dlD_M_grows_139 (i := 23) rfl
theorem dlD_M_grows_140 : zdal (zb m_M_grows) [(141, (.getfield 66, 3)), (144, (.iload_n 3, 1)), (145, (.laload, 1)), (146, (.lreturn, 1))] = true := zDs 141 (by decide +kernel)
theorem d_M_grows_141 : decode (zb m_M_grows) 141 = .ok (.getfield 66, 3) := zdal_p dlD_M_grows_140 (i := 0) rfl
theorem d_M_grows_144 : decode (zb m_M_grows) 144 = .ok (.iload_n 3, 1) := zdal_p dlD_M_grows_140 (i := 1) rfl
theorem d_M_grows_145 : decode (zb m_M_grows) 145 = .ok (.laload, 1) := zdal_p dlD_M_grows_140 (i := 2) rfl
theorem d_M_grows_146 : decode (zb m_M_grows) 146 = .ok (.lreturn, 1) := zdal_p dlD_M_grows_140 (i := 3) rfl
