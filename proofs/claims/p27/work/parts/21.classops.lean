section
theorem dX3_tryPut_0 : decode cX3_tryPut 0 = .ok (.aload_n 1, 1) := by decide +kernel
theorem dX3_tryPut_1 : decode cX3_tryPut 1 = .ok (.getfield 89, 3) := by decide +kernel
theorem dX3_tryPut_4 : decode cX3_tryPut 4 = .ok (.ifCond .eq 11, 3) := by decide +kernel
theorem dX3_tryPut_7 : decode cX3_tryPut 7 = .ok (.aload_n 0, 1) := by decide +kernel
theorem dX3_tryPut_8 : decode cX3_tryPut 8 = .ok (.iconst 4, 1) := by decide +kernel
theorem dX3_tryPut_9 : decode cX3_tryPut 9 = .ok (.invokevirtual 86, 3) := by decide +kernel
theorem dX3_tryPut_12 : decode cX3_tryPut 12 = .ok (.pop, 1) := by decide +kernel
theorem dX3_tryPut_13 : decode cX3_tryPut 13 = .ok (.iconst 0, 1) := by decide +kernel
theorem dX3_tryPut_14 : decode cX3_tryPut 14 = .ok (.ireturn, 1) := by decide +kernel
theorem dX3_tryPut_15 : decode cX3_tryPut 15 = .ok (.aload_n 1, 1) := by decide +kernel
theorem dX3_tryPut_16 : decode cX3_tryPut 16 = .ok (.invokevirtual 74, 3) := by decide +kernel
theorem dX3_tryPut_19 : decode cX3_tryPut 19 = .ok (.ifCond .gt 11, 3) := by decide +kernel
theorem dX3_tryPut_22 : decode cX3_tryPut 22 = .ok (.aload_n 0, 1) := by decide +kernel
theorem dX3_tryPut_23 : decode cX3_tryPut 23 = .ok (.iconst 1, 1) := by decide +kernel
theorem dX3_tryPut_24 : decode cX3_tryPut 24 = .ok (.invokevirtual 86, 3) := by decide +kernel
theorem dX3_tryPut_27 : decode cX3_tryPut 27 = .ok (.pop, 1) := by decide +kernel
theorem dX3_tryPut_28 : decode cX3_tryPut 28 = .ok (.iconst 0, 1) := by decide +kernel
theorem dX3_tryPut_29 : decode cX3_tryPut 29 = .ok (.ireturn, 1) := by decide +kernel
theorem dX3_tryPut_30 : decode cX3_tryPut 30 = .ok (.aload_n 1, 1) := by decide +kernel
theorem dX3_tryPut_31 : decode cX3_tryPut 31 = .ok (.iload_n 2, 1) := by decide +kernel
theorem dX3_tryPut_32 : decode cX3_tryPut 32 = .ok (.invokevirtual 227, 3) := by decide +kernel
theorem dX3_tryPut_35 : decode cX3_tryPut 35 = .ok (.iconst 1, 1) := by decide +kernel
theorem dX3_tryPut_36 : decode cX3_tryPut 36 = .ok (.ireturn, 1) := by decide +kernel
theorem dX3_kinship_0 : decode cX3_kinship 0 = .ok (.aload_n 0, 1) := by decide +kernel
theorem dX3_kinship_1 : decode cX3_kinship 1 = .ok (.getfield 89, 3) := by decide +kernel
theorem dX3_kinship_4 : decode cX3_kinship 4 = .ok (.ifCond .ne 10, 3) := by decide +kernel
theorem dX3_kinship_7 : decode cX3_kinship 7 = .ok (.aload_n 1, 1) := by decide +kernel
theorem dX3_kinship_8 : decode cX3_kinship 8 = .ok (.getfield 89, 3) := by decide +kernel
theorem dX3_kinship_11 : decode cX3_kinship 11 = .ok (.ifCond .eq 6, 3) := by decide +kernel
theorem dX3_kinship_14 : decode cX3_kinship 14 = .ok (.bipush (-9), 2) := by decide +kernel
theorem dX3_kinship_16 : decode cX3_kinship 16 = .ok (.ireturn, 1) := by decide +kernel
theorem dX3_kinship_17 : decode cX3_kinship 17 = .ok (.aload_n 0, 1) := by decide +kernel
theorem dX3_kinship_18 : decode cX3_kinship 18 = .ok (.getfield 230, 3) := by decide +kernel
theorem dX3_kinship_21 : decode cX3_kinship 21 = .ok (.aload_n 1, 1) := by decide +kernel
theorem dX3_kinship_22 : decode cX3_kinship 22 = .ok (.getfield 230, 3) := by decide +kernel
theorem dX3_kinship_25 : decode cX3_kinship 25 = .ok (.if_acmp .ne 7, 3) := by decide +kernel
theorem dX3_kinship_28 : decode cX3_kinship 28 = .ok (.iconst 1, 1) := by decide +kernel
theorem dX3_kinship_29 : decode cX3_kinship 29 = .ok (.goto 4, 3) := by decide +kernel
theorem dX3_kinship_32 : decode cX3_kinship 32 = .ok (.iconst 0, 1) := by decide +kernel
theorem dX3_kinship_33 : decode cX3_kinship 33 = .ok (.ireturn, 1) := by decide +kernel
theorem dX3_indexSeen_0 : decode cX3_indexSeen 0 = .ok (.aload_n 0, 1) := by decide +kernel
theorem dX3_indexSeen_1 : decode cX3_indexSeen 1 = .ok (.getfield 89, 3) := by decide +kernel
theorem dX3_indexSeen_4 : decode cX3_indexSeen 4 = .ok (.ifCond .ne 10, 3) := by decide +kernel
theorem dX3_indexSeen_7 : decode cX3_indexSeen 7 = .ok (.aload_n 2, 1) := by decide +kernel
theorem dX3_indexSeen_8 : decode cX3_indexSeen 8 = .ok (.getfield 89, 3) := by decide +kernel
theorem dX3_indexSeen_11 : decode cX3_indexSeen 11 = .ok (.ifCond .eq 6, 3) := by decide +kernel
theorem dX3_indexSeen_14 : decode cX3_indexSeen 14 = .ok (.bipush (-9), 2) := by decide +kernel
theorem dX3_indexSeen_16 : decode cX3_indexSeen 16 = .ok (.ireturn, 1) := by decide +kernel
theorem dX3_indexSeen_17 : decode cX3_indexSeen 17 = .ok (.aload_n 0, 1) := by decide +kernel
theorem dX3_indexSeen_18 : decode cX3_indexSeen 18 = .ok (.getfield 230, 3) := by decide +kernel
theorem dX3_indexSeen_21 : decode cX3_indexSeen 21 = .ok (.aload_n 2, 1) := by decide +kernel
theorem dX3_indexSeen_22 : decode cX3_indexSeen 22 = .ok (.getfield 230, 3) := by decide +kernel
theorem dX3_indexSeen_25 : decode cX3_indexSeen 25 = .ok (.if_acmp .ne 11, 3) := by decide +kernel
theorem dX3_indexSeen_28 : decode cX3_indexSeen 28 = .ok (.aload_n 0, 1) := by decide +kernel
theorem dX3_indexSeen_29 : decode cX3_indexSeen 29 = .ok (.iload_n 1, 1) := by decide +kernel
theorem dX3_indexSeen_30 : decode cX3_indexSeen 30 = .ok (.invokevirtual 152, 3) := by decide +kernel
theorem dX3_indexSeen_33 : decode cX3_indexSeen 33 = .ok (.ifCond .ne 5, 3) := by decide +kernel
theorem dX3_indexSeen_36 : decode cX3_indexSeen 36 = .ok (.iconst (-1), 1) := by decide +kernel
theorem dX3_indexSeen_37 : decode cX3_indexSeen 37 = .ok (.ireturn, 1) := by decide +kernel
theorem dX3_indexSeen_38 : decode cX3_indexSeen 38 = .ok (.aload_n 0, 1) := by decide +kernel
theorem dX3_indexSeen_39 : decode cX3_indexSeen 39 = .ok (.getfield 233, 3) := by decide +kernel
theorem dX3_indexSeen_42 : decode cX3_indexSeen 42 = .ok (.iload_n 1, 1) := by decide +kernel
theorem dX3_indexSeen_43 : decode cX3_indexSeen 43 = .ok (.iadd, 1) := by decide +kernel
theorem dX3_indexSeen_44 : decode cX3_indexSeen 44 = .ok (.aload_n 2, 1) := by decide +kernel
theorem dX3_indexSeen_45 : decode cX3_indexSeen 45 = .ok (.getfield 233, 3) := by decide +kernel
theorem dX3_indexSeen_48 : decode cX3_indexSeen 48 = .ok (.isub, 1) := by decide +kernel
theorem dX3_indexSeen_49 : decode cX3_indexSeen 49 = .ok (.istore_n 3, 1) := by decide +kernel
theorem dX3_indexSeen_50 : decode cX3_indexSeen 50 = .ok (.aload_n 2, 1) := by decide +kernel
theorem dX3_indexSeen_51 : decode cX3_indexSeen 51 = .ok (.iload_n 3, 1) := by decide +kernel
theorem dX3_indexSeen_52 : decode cX3_indexSeen 52 = .ok (.invokevirtual 152, 3) := by decide +kernel
theorem dX3_indexSeen_55 : decode cX3_indexSeen 55 = .ok (.ifCond .eq 7, 3) := by decide +kernel
theorem dX3_indexSeen_58 : decode cX3_indexSeen 58 = .ok (.iload_n 3, 1) := by decide +kernel
theorem dX3_indexSeen_59 : decode cX3_indexSeen 59 = .ok (.goto 4, 3) := by decide +kernel
theorem dX3_indexSeen_62 : decode cX3_indexSeen 62 = .ok (.iconst (-1), 1) := by decide +kernel
theorem dX3_indexSeen_63 : decode cX3_indexSeen 63 = .ok (.ireturn, 1) := by decide +kernel
theorem dX3_go_0 : decode cX3_go 0 = .ok (.aload_n 0, 1) := by decide +kernel
theorem dX3_go_1 : decode cX3_go 1 = .ok (.iload_n 1, 1) := by decide +kernel
theorem dX3_go_2 : decode cX3_go 2 = .ok (.invokevirtual 49, 3) := by decide +kernel
theorem dX3_go_5 : decode cX3_go 5 = .ok (.astore_n 3, 1) := by decide +kernel
theorem dX3_go_6 : decode cX3_go 6 = .ok (.aload_n 3, 1) := by decide +kernel
theorem dX3_go_7 : decode cX3_go 7 = .ok (.getfield 60, 3) := by decide +kernel
theorem dX3_go_10 : decode cX3_go 10 = .ok (.istore 4, 2) := by decide +kernel
theorem dX3_go_12 : decode cX3_go 12 = .ok (.iload_n 2, 1) := by decide +kernel
theorem dX3_go_13 : decode cX3_go 13 = .ok (.iconst 0, 1) := by decide +kernel
theorem dX3_go_14 : decode cX3_go 14 = .ok (.aload_n 3, 1) := by decide +kernel
theorem dX3_go_15 : decode cX3_go 15 = .ok (.getfield 63, 3) := by decide +kernel
theorem dX3_go_18 : decode cX3_go 18 = .ok (.invokestatic 82, 3) := by decide +kernel
theorem dX3_go_21 : decode cX3_go 21 = .ok (.ifCond .ne 9, 3) := by decide +kernel
theorem dX3_go_24 : decode cX3_go 24 = .ok (.aload_n 0, 1) := by decide +kernel
theorem dX3_go_25 : decode cX3_go 25 = .ok (.iconst 5, 1) := by decide +kernel
theorem dX3_go_26 : decode cX3_go 26 = .ok (.invokevirtual 86, 3) := by decide +kernel
theorem dX3_go_29 : decode cX3_go 29 = .ok (.ireturn, 1) := by decide +kernel
theorem dX3_go_30 : decode cX3_go 30 = .ok (.aload_n 3, 1) := by decide +kernel
theorem dX3_go_31 : decode cX3_go 31 = .ok (.iload_n 2, 1) := by decide +kernel
theorem dX3_go_32 : decode cX3_go 32 = .ok (.invokevirtual 97, 3) := by decide +kernel
theorem dX3_go_35 : decode cX3_go 35 = .ok (.aload_n 0, 1) := by decide +kernel
theorem dX3_go_36 : decode cX3_go 36 = .ok (.iload 4, 2) := by decide +kernel
theorem dX3_go_38 : decode cX3_go 38 = .ok (.invokevirtual 66, 3) := by decide +kernel
theorem dX3_go_41 : decode cX3_go 41 = .ok (.ireturn, 1) := by decide +kernel
theorem dX3_end_0 : decode cX3_end 0 = .ok (.aload_n 0, 1) := by decide +kernel
theorem dX3_end_1 : decode cX3_end 1 = .ok (.iload_n 1, 1) := by decide +kernel
theorem dX3_end_2 : decode cX3_end 2 = .ok (.invokevirtual 49, 3) := by decide +kernel
theorem dX3_end_5 : decode cX3_end 5 = .ok (.astore_n 3, 1) := by decide +kernel
theorem dX3_end_6 : decode cX3_end 6 = .ok (.aload_n 3, 1) := by decide +kernel
theorem dX3_end_7 : decode cX3_end 7 = .ok (.getfield 63, 3) := by decide +kernel
theorem dX3_end_10 : decode cX3_end 10 = .ok (.istore 4, 2) := by decide +kernel
theorem dX3_end_12 : decode cX3_end 12 = .ok (.iload_n 2, 1) := by decide +kernel
theorem dX3_end_13 : decode cX3_end 13 = .ok (.iconst 0, 1) := by decide +kernel
theorem dX3_end_14 : decode cX3_end 14 = .ok (.aload_n 3, 1) := by decide +kernel
theorem dX3_end_15 : decode cX3_end 15 = .ok (.getfield 100, 3) := by decide +kernel
theorem dX3_end_18 : decode cX3_end 18 = .ok (.invokestatic 82, 3) := by decide +kernel
theorem dX3_end_21 : decode cX3_end 21 = .ok (.ifCond .ne 9, 3) := by decide +kernel
theorem dX3_end_24 : decode cX3_end 24 = .ok (.aload_n 0, 1) := by decide +kernel
theorem dX3_end_25 : decode cX3_end 25 = .ok (.iconst 5, 1) := by decide +kernel
theorem dX3_end_26 : decode cX3_end 26 = .ok (.invokevirtual 86, 3) := by decide +kernel
theorem dX3_end_29 : decode cX3_end 29 = .ok (.ireturn, 1) := by decide +kernel
theorem dX3_end_30 : decode cX3_end 30 = .ok (.aload_n 3, 1) := by decide +kernel
theorem dX3_end_31 : decode cX3_end 31 = .ok (.iload_n 2, 1) := by decide +kernel
theorem dX3_end_32 : decode cX3_end 32 = .ok (.invokevirtual 103, 3) := by decide +kernel
theorem dX3_end_35 : decode cX3_end 35 = .ok (.aload_n 0, 1) := by decide +kernel
theorem dX3_end_36 : decode cX3_end 36 = .ok (.iload 4, 2) := by decide +kernel
theorem dX3_end_38 : decode cX3_end 38 = .ok (.invokevirtual 66, 3) := by decide +kernel
theorem dX3_end_41 : decode cX3_end 41 = .ok (.ireturn, 1) := by decide +kernel
theorem dX3_move_0 : decode cX3_move 0 = .ok (.aload_n 0, 1) := by decide +kernel
theorem dX3_move_1 : decode cX3_move 1 = .ok (.iload_n 1, 1) := by decide +kernel
theorem dX3_move_2 : decode cX3_move 2 = .ok (.invokevirtual 49, 3) := by decide +kernel
theorem dX3_move_5 : decode cX3_move 5 = .ok (.astore_n 3, 1) := by decide +kernel
theorem dX3_move_6 : decode cX3_move 6 = .ok (.iload_n 2, 1) := by decide +kernel
theorem dX3_move_7 : decode cX3_move 7 = .ok (.bipush (-20), 2) := by decide +kernel
theorem dX3_move_9 : decode cX3_move 9 = .ok (.bipush 20, 2) := by decide +kernel
theorem dX3_move_11 : decode cX3_move 11 = .ok (.invokestatic 53, 3) := by decide +kernel
theorem dX3_move_14 : decode cX3_move 14 = .ok (.aload_n 3, 1) := by decide +kernel
theorem dX3_move_15 : decode cX3_move 15 = .ok (.getfield 60, 3) := by decide +kernel
theorem dX3_move_18 : decode cX3_move 18 = .ok (.iload_n 2, 1) := by decide +kernel
theorem dX3_move_19 : decode cX3_move 19 = .ok (.iadd, 1) := by decide +kernel
theorem dX3_move_20 : decode cX3_move 20 = .ok (.istore 4, 2) := by decide +kernel
theorem dX3_move_22 : decode cX3_move 22 = .ok (.iload 4, 2) := by decide +kernel
theorem dX3_move_24 : decode cX3_move 24 = .ok (.iconst 0, 1) := by decide +kernel
theorem dX3_move_25 : decode cX3_move 25 = .ok (.aload_n 3, 1) := by decide +kernel
theorem dX3_move_26 : decode cX3_move 26 = .ok (.getfield 63, 3) := by decide +kernel
theorem dX3_move_29 : decode cX3_move 29 = .ok (.invokestatic 82, 3) := by decide +kernel
theorem dX3_move_32 : decode cX3_move 32 = .ok (.ifCond .ne 9, 3) := by decide +kernel
theorem dX3_move_35 : decode cX3_move 35 = .ok (.aload_n 0, 1) := by decide +kernel
theorem dX3_move_36 : decode cX3_move 36 = .ok (.iconst 5, 1) := by decide +kernel
theorem dX3_move_37 : decode cX3_move 37 = .ok (.invokevirtual 86, 3) := by decide +kernel
theorem dX3_move_40 : decode cX3_move 40 = .ok (.ireturn, 1) := by decide +kernel
theorem dX3_move_41 : decode cX3_move 41 = .ok (.aload_n 3, 1) := by decide +kernel
theorem dX3_move_42 : decode cX3_move 42 = .ok (.iload 4, 2) := by decide +kernel
theorem dX3_move_44 : decode cX3_move 44 = .ok (.invokevirtual 97, 3) := by decide +kernel
theorem dX3_move_47 : decode cX3_move 47 = .ok (.aload_n 0, 1) := by decide +kernel
theorem dX3_move_48 : decode cX3_move 48 = .ok (.aload_n 3, 1) := by decide +kernel
theorem dX3_move_49 : decode cX3_move 49 = .ok (.getfield 60, 3) := by decide +kernel
theorem dX3_move_52 : decode cX3_move 52 = .ok (.invokevirtual 66, 3) := by decide +kernel
theorem dX3_move_55 : decode cX3_move 55 = .ok (.ireturn, 1) := by decide +kernel
theorem dX3_stretch_0 : decode cX3_stretch 0 = .ok (.aload_n 0, 1) := by decide +kernel
theorem dX3_stretch_1 : decode cX3_stretch 1 = .ok (.iload_n 1, 1) := by decide +kernel
theorem dX3_stretch_2 : decode cX3_stretch 2 = .ok (.invokevirtual 49, 3) := by decide +kernel
theorem dX3_stretch_5 : decode cX3_stretch 5 = .ok (.astore_n 3, 1) := by decide +kernel
theorem dX3_stretch_6 : decode cX3_stretch 6 = .ok (.iload_n 2, 1) := by decide +kernel
theorem dX3_stretch_7 : decode cX3_stretch 7 = .ok (.bipush (-20), 2) := by decide +kernel
theorem dX3_stretch_9 : decode cX3_stretch 9 = .ok (.bipush 20, 2) := by decide +kernel
theorem dX3_stretch_11 : decode cX3_stretch 11 = .ok (.invokestatic 53, 3) := by decide +kernel
theorem dX3_stretch_14 : decode cX3_stretch 14 = .ok (.aload_n 3, 1) := by decide +kernel
theorem dX3_stretch_15 : decode cX3_stretch 15 = .ok (.getfield 63, 3) := by decide +kernel
theorem dX3_stretch_18 : decode cX3_stretch 18 = .ok (.iload_n 2, 1) := by decide +kernel
theorem dX3_stretch_19 : decode cX3_stretch 19 = .ok (.iadd, 1) := by decide +kernel
theorem dX3_stretch_20 : decode cX3_stretch 20 = .ok (.istore 4, 2) := by decide +kernel
theorem dX3_stretch_22 : decode cX3_stretch 22 = .ok (.iload 4, 2) := by decide +kernel
theorem dX3_stretch_24 : decode cX3_stretch 24 = .ok (.iconst 0, 1) := by decide +kernel
theorem dX3_stretch_25 : decode cX3_stretch 25 = .ok (.aload_n 3, 1) := by decide +kernel
theorem dX3_stretch_26 : decode cX3_stretch 26 = .ok (.getfield 100, 3) := by decide +kernel
theorem dX3_stretch_29 : decode cX3_stretch 29 = .ok (.invokestatic 82, 3) := by decide +kernel
theorem dX3_stretch_32 : decode cX3_stretch 32 = .ok (.ifCond .ne 9, 3) := by decide +kernel
theorem dX3_stretch_35 : decode cX3_stretch 35 = .ok (.aload_n 0, 1) := by decide +kernel
theorem dX3_stretch_36 : decode cX3_stretch 36 = .ok (.iconst 5, 1) := by decide +kernel
theorem dX3_stretch_37 : decode cX3_stretch 37 = .ok (.invokevirtual 86, 3) := by decide +kernel
theorem dX3_stretch_40 : decode cX3_stretch 40 = .ok (.ireturn, 1) := by decide +kernel
theorem dX3_stretch_41 : decode cX3_stretch 41 = .ok (.aload_n 3, 1) := by decide +kernel
theorem dX3_stretch_42 : decode cX3_stretch 42 = .ok (.iload 4, 2) := by decide +kernel
theorem dX3_stretch_44 : decode cX3_stretch 44 = .ok (.invokevirtual 103, 3) := by decide +kernel
theorem dX3_stretch_47 : decode cX3_stretch 47 = .ok (.aload_n 0, 1) := by decide +kernel
theorem dX3_stretch_48 : decode cX3_stretch 48 = .ok (.aload_n 3, 1) := by decide +kernel
theorem dX3_stretch_49 : decode cX3_stretch 49 = .ok (.getfield 63, 3) := by decide +kernel
theorem dX3_stretch_52 : decode cX3_stretch 52 = .ok (.invokevirtual 66, 3) := by decide +kernel
theorem dX3_stretch_55 : decode cX3_stretch 55 = .ok (.ireturn, 1) := by decide +kernel
theorem dX3_mark_0 : decode cX3_mark 0 = .ok (.aload_n 0, 1) := by decide +kernel
theorem dX3_mark_1 : decode cX3_mark 1 = .ok (.iload_n 1, 1) := by decide +kernel
theorem dX3_mark_2 : decode cX3_mark 2 = .ok (.invokevirtual 49, 3) := by decide +kernel
theorem dX3_mark_5 : decode cX3_mark 5 = .ok (.astore_n 2, 1) := by decide +kernel
theorem dX3_mark_6 : decode cX3_mark 6 = .ok (.aload_n 2, 1) := by decide +kernel
theorem dX3_mark_7 : decode cX3_mark 7 = .ok (.aload_n 2, 1) := by decide +kernel
theorem dX3_mark_8 : decode cX3_mark 8 = .ok (.getfield 60, 3) := by decide +kernel
theorem dX3_mark_11 : decode cX3_mark 11 = .ok (.putfield 106, 3) := by decide +kernel
theorem dX3_mark_14 : decode cX3_mark 14 = .ok (.aload_n 0, 1) := by decide +kernel
theorem dX3_mark_15 : decode cX3_mark 15 = .ok (.aload_n 2, 1) := by decide +kernel
theorem dX3_mark_16 : decode cX3_mark 16 = .ok (.getfield 106, 3) := by decide +kernel
theorem dX3_mark_19 : decode cX3_mark 19 = .ok (.invokevirtual 66, 3) := by decide +kernel
theorem dX3_mark_22 : decode cX3_mark 22 = .ok (.ireturn, 1) := by decide +kernel
theorem dX3_back_0 : decode cX3_back 0 = .ok (.aload_n 0, 1) := by decide +kernel
theorem dX3_back_1 : decode cX3_back 1 = .ok (.iload_n 1, 1) := by decide +kernel
theorem dX3_back_2 : decode cX3_back 2 = .ok (.invokevirtual 49, 3) := by decide +kernel
theorem dX3_back_5 : decode cX3_back 5 = .ok (.astore_n 2, 1) := by decide +kernel
theorem dX3_back_6 : decode cX3_back 6 = .ok (.aload_n 2, 1) := by decide +kernel
theorem dX3_back_7 : decode cX3_back 7 = .ok (.invokevirtual 109, 3) := by decide +kernel
theorem dX3_back_10 : decode cX3_back 10 = .ok (.ifCond .ne 9, 3) := by decide +kernel
theorem dX3_back_13 : decode cX3_back 13 = .ok (.aload_n 0, 1) := by decide +kernel
theorem dX3_back_14 : decode cX3_back 14 = .ok (.iconst 3, 1) := by decide +kernel
theorem dX3_back_15 : decode cX3_back 15 = .ok (.invokevirtual 86, 3) := by decide +kernel
theorem dX3_back_18 : decode cX3_back 18 = .ok (.ireturn, 1) := by decide +kernel
theorem dX3_back_19 : decode cX3_back 19 = .ok (.aload_n 2, 1) := by decide +kernel
theorem dX3_back_20 : decode cX3_back 20 = .ok (.getfield 60, 3) := by decide +kernel
theorem dX3_back_23 : decode cX3_back 23 = .ok (.aload_n 2, 1) := by decide +kernel
theorem dX3_back_24 : decode cX3_back 24 = .ok (.getfield 106, 3) := by decide +kernel
theorem dX3_back_27 : decode cX3_back 27 = .ok (.isub, 1) := by decide +kernel
theorem dX3_back_28 : decode cX3_back 28 = .ok (.istore_n 3, 1) := by decide +kernel
theorem dX3_back_29 : decode cX3_back 29 = .ok (.aload_n 2, 1) := by decide +kernel
theorem dX3_back_30 : decode cX3_back 30 = .ok (.aload_n 2, 1) := by decide +kernel
theorem dX3_back_31 : decode cX3_back 31 = .ok (.getfield 106, 3) := by decide +kernel
theorem dX3_back_34 : decode cX3_back 34 = .ok (.invokevirtual 97, 3) := by decide +kernel
theorem dX3_back_37 : decode cX3_back 37 = .ok (.aload_n 0, 1) := by decide +kernel
theorem dX3_back_38 : decode cX3_back 38 = .ok (.iload_n 3, 1) := by decide +kernel
theorem dX3_back_39 : decode cX3_back 39 = .ok (.invokevirtual 66, 3) := by decide +kernel
theorem dX3_back_42 : decode cX3_back 42 = .ok (.ireturn, 1) := by decide +kernel
theorem dX3_clear_0 : decode cX3_clear 0 = .ok (.aload_n 0, 1) := by decide +kernel
theorem dX3_clear_1 : decode cX3_clear 1 = .ok (.iload_n 1, 1) := by decide +kernel
theorem dX3_clear_2 : decode cX3_clear 2 = .ok (.invokevirtual 49, 3) := by decide +kernel
theorem dX3_clear_5 : decode cX3_clear 5 = .ok (.astore_n 2, 1) := by decide +kernel
theorem dX3_clear_6 : decode cX3_clear 6 = .ok (.aload_n 2, 1) := by decide +kernel
theorem dX3_clear_7 : decode cX3_clear 7 = .ok (.aload_n 2, 1) := by decide +kernel
theorem dX3_clear_8 : decode cX3_clear 8 = .ok (.getfield 100, 3) := by decide +kernel
theorem dX3_clear_11 : decode cX3_clear 11 = .ok (.invokevirtual 113, 3) := by decide +kernel
theorem dX3_clear_14 : decode cX3_clear 14 = .ok (.aload_n 0, 1) := by decide +kernel
theorem dX3_clear_15 : decode cX3_clear 15 = .ok (.aload_n 2, 1) := by decide +kernel
theorem dX3_clear_16 : decode cX3_clear 16 = .ok (.invokevirtual 74, 3) := by decide +kernel
theorem dX3_clear_19 : decode cX3_clear 19 = .ok (.invokevirtual 66, 3) := by decide +kernel
theorem dX3_clear_22 : decode cX3_clear 22 = .ok (.ireturn, 1) := by decide +kernel
theorem dX3_flip_0 : decode cX3_flip 0 = .ok (.aload_n 0, 1) := by decide +kernel
theorem dX3_flip_1 : decode cX3_flip 1 = .ok (.iload_n 1, 1) := by decide +kernel
theorem dX3_flip_2 : decode cX3_flip 2 = .ok (.invokevirtual 49, 3) := by decide +kernel
theorem dX3_flip_5 : decode cX3_flip 5 = .ok (.astore_n 2, 1) := by decide +kernel
theorem dX3_flip_6 : decode cX3_flip 6 = .ok (.aload_n 2, 1) := by decide +kernel
theorem dX3_flip_7 : decode cX3_flip 7 = .ok (.aload_n 2, 1) := by decide +kernel
theorem dX3_flip_8 : decode cX3_flip 8 = .ok (.getfield 60, 3) := by decide +kernel
theorem dX3_flip_11 : decode cX3_flip 11 = .ok (.invokevirtual 113, 3) := by decide +kernel
theorem dX3_flip_14 : decode cX3_flip 14 = .ok (.aload_n 0, 1) := by decide +kernel
theorem dX3_flip_15 : decode cX3_flip 15 = .ok (.aload_n 2, 1) := by decide +kernel
theorem dX3_flip_16 : decode cX3_flip 16 = .ok (.invokevirtual 74, 3) := by decide +kernel
theorem dX3_flip_19 : decode cX3_flip 19 = .ok (.invokevirtual 66, 3) := by decide +kernel
theorem dX3_flip_22 : decode cX3_flip 22 = .ok (.ireturn, 1) := by decide +kernel
theorem dX3_rewind_0 : decode cX3_rewind 0 = .ok (.aload_n 0, 1) := by decide +kernel
theorem dX3_rewind_1 : decode cX3_rewind 1 = .ok (.iload_n 1, 1) := by decide +kernel
theorem dX3_rewind_2 : decode cX3_rewind 2 = .ok (.invokevirtual 49, 3) := by decide +kernel
theorem dX3_rewind_5 : decode cX3_rewind 5 = .ok (.astore_n 2, 1) := by decide +kernel
theorem dX3_rewind_6 : decode cX3_rewind 6 = .ok (.aload_n 2, 1) := by decide +kernel
theorem dX3_rewind_7 : decode cX3_rewind 7 = .ok (.aload_n 2, 1) := by decide +kernel
theorem dX3_rewind_8 : decode cX3_rewind 8 = .ok (.getfield 63, 3) := by decide +kernel
theorem dX3_rewind_11 : decode cX3_rewind 11 = .ok (.invokevirtual 113, 3) := by decide +kernel
theorem dX3_rewind_14 : decode cX3_rewind 14 = .ok (.aload_n 0, 1) := by decide +kernel
theorem dX3_rewind_15 : decode cX3_rewind 15 = .ok (.aload_n 2, 1) := by decide +kernel
theorem dX3_rewind_16 : decode cX3_rewind 16 = .ok (.invokevirtual 74, 3) := by decide +kernel
theorem dX3_rewind_19 : decode cX3_rewind 19 = .ok (.invokevirtual 66, 3) := by decide +kernel
theorem dX3_rewind_22 : decode cX3_rewind 22 = .ok (.ireturn, 1) := by decide +kernel
theorem dX3_put_0 : decode cX3_put 0 = .ok (.aload_n 0, 1) := by decide +kernel
theorem dX3_put_1 : decode cX3_put 1 = .ok (.iload_n 1, 1) := by decide +kernel
theorem dX3_put_2 : decode cX3_put 2 = .ok (.invokevirtual 49, 3) := by decide +kernel
theorem dX3_put_5 : decode cX3_put 5 = .ok (.astore_n 3, 1) := by decide +kernel
theorem dX3_put_6 : decode cX3_put 6 = .ok (.iload_n 2, 1) := by decide +kernel
theorem dX3_put_7 : decode cX3_put 7 = .ok (.invokestatic 116, 3) := by decide +kernel
theorem dX3_put_10 : decode cX3_put 10 = .ok (.aload_n 0, 1) := by decide +kernel
theorem dX3_put_11 : decode cX3_put 11 = .ok (.aload_n 3, 1) := by decide +kernel
theorem dX3_put_12 : decode cX3_put 12 = .ok (.iload_n 2, 1) := by decide +kernel
theorem dX3_put_13 : decode cX3_put 13 = .ok (.invokevirtual 119, 3) := by decide +kernel
theorem dX3_put_16 : decode cX3_put 16 = .ok (.ifCond .ne 6, 3) := by decide +kernel
theorem dX3_put_19 : decode cX3_put 19 = .ok (.bipush (-9), 2) := by decide +kernel
theorem dX3_put_21 : decode cX3_put 21 = .ok (.ireturn, 1) := by decide +kernel
theorem dX3_put_22 : decode cX3_put 22 = .ok (.aload_n 0, 1) := by decide +kernel
theorem dX3_put_23 : decode cX3_put 23 = .ok (.aload_n 3, 1) := by decide +kernel
theorem dX3_put_24 : decode cX3_put 24 = .ok (.getfield 60, 3) := by decide +kernel
theorem dX3_put_27 : decode cX3_put 27 = .ok (.invokevirtual 66, 3) := by decide +kernel
theorem dX3_put_30 : decode cX3_put 30 = .ok (.ireturn, 1) := by decide +kernel
theorem dX3_putAt_0 : decode cX3_putAt 0 = .ok (.aload_n 0, 1) := by decide +kernel
theorem dX3_putAt_1 : decode cX3_putAt 1 = .ok (.iload_n 1, 1) := by decide +kernel
theorem dX3_putAt_2 : decode cX3_putAt 2 = .ok (.invokevirtual 49, 3) := by decide +kernel
theorem dX3_putAt_5 : decode cX3_putAt 5 = .ok (.astore 4, 2) := by decide +kernel
theorem dX3_putAt_7 : decode cX3_putAt 7 = .ok (.iload_n 3, 1) := by decide +kernel
theorem dX3_putAt_8 : decode cX3_putAt 8 = .ok (.invokestatic 116, 3) := by decide +kernel
theorem dX3_putAt_11 : decode cX3_putAt 11 = .ok (.aload 4, 2) := by decide +kernel
theorem dX3_putAt_13 : decode cX3_putAt 13 = .ok (.iload_n 2, 1) := by decide +kernel
theorem dX3_putAt_14 : decode cX3_putAt 14 = .ok (.invokevirtual 123, 3) := by decide +kernel
theorem dX3_putAt_17 : decode cX3_putAt 17 = .ok (.ifCond .ne 9, 3) := by decide +kernel
theorem dX3_putAt_20 : decode cX3_putAt 20 = .ok (.aload_n 0, 1) := by decide +kernel
theorem dX3_putAt_21 : decode cX3_putAt 21 = .ok (.iconst 5, 1) := by decide +kernel
theorem dX3_putAt_22 : decode cX3_putAt 22 = .ok (.invokevirtual 86, 3) := by decide +kernel
theorem dX3_putAt_25 : decode cX3_putAt 25 = .ok (.ireturn, 1) := by decide +kernel
theorem dX3_putAt_26 : decode cX3_putAt 26 = .ok (.aload 4, 2) := by decide +kernel
theorem dX3_putAt_28 : decode cX3_putAt 28 = .ok (.getfield 89, 3) := by decide +kernel
theorem dX3_putAt_31 : decode cX3_putAt 31 = .ok (.ifCond .eq 9, 3) := by decide +kernel
theorem dX3_putAt_34 : decode cX3_putAt 34 = .ok (.aload_n 0, 1) := by decide +kernel
theorem dX3_putAt_35 : decode cX3_putAt 35 = .ok (.iconst 4, 1) := by decide +kernel
theorem dX3_putAt_36 : decode cX3_putAt 36 = .ok (.invokevirtual 86, 3) := by decide +kernel
theorem dX3_putAt_39 : decode cX3_putAt 39 = .ok (.ireturn, 1) := by decide +kernel
theorem dX3_putAt_40 : decode cX3_putAt 40 = .ok (.aload_n 0, 1) := by decide +kernel
theorem dX3_putAt_41 : decode cX3_putAt 41 = .ok (.aload 4, 2) := by decide +kernel
theorem dX3_putAt_43 : decode cX3_putAt 43 = .ok (.iload_n 2, 1) := by decide +kernel
theorem dX3_putAt_44 : decode cX3_putAt 44 = .ok (.iload_n 3, 1) := by decide +kernel
theorem dX3_putAt_45 : decode cX3_putAt 45 = .ok (.invokevirtual 127, 3) := by decide +kernel
theorem dX3_putAt_48 : decode cX3_putAt 48 = .ok (.invokevirtual 66, 3) := by decide +kernel
theorem dX3_putAt_51 : decode cX3_putAt 51 = .ok (.ireturn, 1) := by decide +kernel
theorem dX3_reach_0 : decode cX3_reach 0 = .ok (.aload_n 0, 1) := by decide +kernel
theorem dX3_reach_1 : decode cX3_reach 1 = .ok (.iload_n 1, 1) := by decide +kernel
theorem dX3_reach_2 : decode cX3_reach 2 = .ok (.invokevirtual 49, 3) := by decide +kernel
theorem dX3_reach_5 : decode cX3_reach 5 = .ok (.astore 4, 2) := by decide +kernel
theorem dX3_reach_7 : decode cX3_reach 7 = .ok (.iload_n 3, 1) := by decide +kernel
theorem dX3_reach_8 : decode cX3_reach 8 = .ok (.invokestatic 116, 3) := by decide +kernel
theorem dX3_reach_11 : decode cX3_reach 11 = .ok (.aload 4, 2) := by decide +kernel
theorem dX3_reach_13 : decode cX3_reach 13 = .ok (.getfield 89, 3) := by decide +kernel
theorem dX3_reach_16 : decode cX3_reach 16 = .ok (.ifCond .eq 9, 3) := by decide +kernel
theorem dX3_reach_19 : decode cX3_reach 19 = .ok (.aload_n 0, 1) := by decide +kernel
theorem dX3_reach_20 : decode cX3_reach 20 = .ok (.iconst 4, 1) := by decide +kernel
theorem dX3_reach_21 : decode cX3_reach 21 = .ok (.invokevirtual 86, 3) := by decide +kernel
theorem dX3_reach_24 : decode cX3_reach 24 = .ok (.ireturn, 1) := by decide +kernel
theorem dX3_reach_25 : decode cX3_reach 25 = .ok (.aload 4, 2) := by decide +kernel
theorem dX3_reach_27 : decode cX3_reach 27 = .ok (.iload_n 2, 1) := by decide +kernel
theorem dX3_reach_28 : decode cX3_reach 28 = .ok (.invokevirtual 152, 3) := by decide +kernel
theorem dX3_reach_31 : decode cX3_reach 31 = .ok (.ifCond .ne 9, 3) := by decide +kernel
theorem dX3_reach_34 : decode cX3_reach 34 = .ok (.aload_n 0, 1) := by decide +kernel
theorem dX3_reach_35 : decode cX3_reach 35 = .ok (.iconst 5, 1) := by decide +kernel
theorem dX3_reach_36 : decode cX3_reach 36 = .ok (.invokevirtual 86, 3) := by decide +kernel
theorem dX3_reach_39 : decode cX3_reach 39 = .ok (.ireturn, 1) := by decide +kernel
theorem dX3_reach_40 : decode cX3_reach 40 = .ok (.aload_n 0, 1) := by decide +kernel
theorem dX3_reach_41 : decode cX3_reach 41 = .ok (.aload 4, 2) := by decide +kernel
theorem dX3_reach_43 : decode cX3_reach 43 = .ok (.iload_n 2, 1) := by decide +kernel
theorem dX3_reach_44 : decode cX3_reach 44 = .ok (.iload_n 3, 1) := by decide +kernel
theorem dX3_reach_45 : decode cX3_reach 45 = .ok (.invokevirtual 127, 3) := by decide +kernel
theorem dX3_reach_48 : decode cX3_reach 48 = .ok (.invokevirtual 66, 3) := by decide +kernel
theorem dX3_reach_51 : decode cX3_reach 51 = .ok (.ireturn, 1) := by decide +kernel
theorem dX3_get_0 : decode cX3_get 0 = .ok (.aload_n 0, 1) := by decide +kernel
theorem dX3_get_1 : decode cX3_get 1 = .ok (.iload_n 1, 1) := by decide +kernel
theorem dX3_get_2 : decode cX3_get 2 = .ok (.invokevirtual 49, 3) := by decide +kernel
theorem dX3_get_5 : decode cX3_get 5 = .ok (.astore_n 2, 1) := by decide +kernel
theorem dX3_get_6 : decode cX3_get 6 = .ok (.aload_n 2, 1) := by decide +kernel
theorem dX3_get_7 : decode cX3_get 7 = .ok (.invokevirtual 74, 3) := by decide +kernel
theorem dX3_get_10 : decode cX3_get 10 = .ok (.ifCond .gt 9, 3) := by decide +kernel
theorem dX3_get_13 : decode cX3_get 13 = .ok (.aload_n 0, 1) := by decide +kernel
theorem dX3_get_14 : decode cX3_get 14 = .ok (.iconst 2, 1) := by decide +kernel
theorem dX3_get_15 : decode cX3_get 15 = .ok (.invokevirtual 86, 3) := by decide +kernel
theorem dX3_get_18 : decode cX3_get 18 = .ok (.ireturn, 1) := by decide +kernel
theorem dX3_get_19 : decode cX3_get 19 = .ok (.aload_n 0, 1) := by decide +kernel
theorem dX3_get_20 : decode cX3_get 20 = .ok (.aload_n 2, 1) := by decide +kernel
theorem dX3_get_21 : decode cX3_get 21 = .ok (.invokevirtual 155, 3) := by decide +kernel
theorem dX3_get_24 : decode cX3_get 24 = .ok (.invokevirtual 66, 3) := by decide +kernel
theorem dX3_get_27 : decode cX3_get 27 = .ok (.ireturn, 1) := by decide +kernel
theorem dX3_pop_0 : decode cX3_pop 0 = .ok (.aload_n 0, 1) := by decide +kernel
theorem dX3_pop_1 : decode cX3_pop 1 = .ok (.iload_n 1, 1) := by decide +kernel
theorem dX3_pop_2 : decode cX3_pop 2 = .ok (.invokevirtual 49, 3) := by decide +kernel
theorem dX3_pop_5 : decode cX3_pop 5 = .ok (.astore_n 2, 1) := by decide +kernel
theorem dX3_pop_6 : decode cX3_pop 6 = .ok (.aload_n 2, 1) := by decide +kernel
theorem dX3_pop_7 : decode cX3_pop 7 = .ok (.getfield 60, 3) := by decide +kernel
theorem dX3_pop_10 : decode cX3_pop 10 = .ok (.ifCond .gt 9, 3) := by decide +kernel
theorem dX3_pop_13 : decode cX3_pop 13 = .ok (.aload_n 0, 1) := by decide +kernel
theorem dX3_pop_14 : decode cX3_pop 14 = .ok (.iconst 5, 1) := by decide +kernel
theorem dX3_pop_15 : decode cX3_pop 15 = .ok (.invokevirtual 86, 3) := by decide +kernel
theorem dX3_pop_18 : decode cX3_pop 18 = .ok (.ireturn, 1) := by decide +kernel
theorem dX3_pop_19 : decode cX3_pop 19 = .ok (.aload_n 2, 1) := by decide +kernel
theorem dX3_pop_20 : decode cX3_pop 20 = .ok (.aload_n 2, 1) := by decide +kernel
theorem dX3_pop_21 : decode cX3_pop 21 = .ok (.getfield 60, 3) := by decide +kernel
theorem dX3_pop_24 : decode cX3_pop 24 = .ok (.iconst 1, 1) := by decide +kernel
theorem dX3_pop_25 : decode cX3_pop 25 = .ok (.isub, 1) := by decide +kernel
theorem dX3_pop_26 : decode cX3_pop 26 = .ok (.invokevirtual 97, 3) := by decide +kernel
theorem dX3_pop_29 : decode cX3_pop 29 = .ok (.aload_n 0, 1) := by decide +kernel
theorem dX3_pop_30 : decode cX3_pop 30 = .ok (.aload_n 2, 1) := by decide +kernel
theorem dX3_pop_31 : decode cX3_pop 31 = .ok (.aload_n 2, 1) := by decide +kernel
theorem dX3_pop_32 : decode cX3_pop 32 = .ok (.getfield 60, 3) := by decide +kernel
theorem dX3_pop_35 : decode cX3_pop 35 = .ok (.invokevirtual 131, 3) := by decide +kernel
theorem dX3_pop_38 : decode cX3_pop 38 = .ok (.invokevirtual 66, 3) := by decide +kernel
theorem dX3_pop_41 : decode cX3_pop 41 = .ok (.ireturn, 1) := by decide +kernel
theorem dX3_at_0 : decode cX3_at 0 = .ok (.aload_n 0, 1) := by decide +kernel
theorem dX3_at_1 : decode cX3_at 1 = .ok (.iload_n 1, 1) := by decide +kernel
theorem dX3_at_2 : decode cX3_at 2 = .ok (.invokevirtual 49, 3) := by decide +kernel
theorem dX3_at_5 : decode cX3_at 5 = .ok (.astore_n 3, 1) := by decide +kernel
theorem dX3_at_6 : decode cX3_at 6 = .ok (.aload_n 3, 1) := by decide +kernel
theorem dX3_at_7 : decode cX3_at 7 = .ok (.iload_n 2, 1) := by decide +kernel
theorem dX3_at_8 : decode cX3_at 8 = .ok (.invokevirtual 123, 3) := by decide +kernel
theorem dX3_at_11 : decode cX3_at 11 = .ok (.ifCond .eq 11, 3) := by decide +kernel
theorem dX3_at_14 : decode cX3_at 14 = .ok (.aload_n 3, 1) := by decide +kernel
theorem dX3_at_15 : decode cX3_at 15 = .ok (.iload_n 2, 1) := by decide +kernel
theorem dX3_at_16 : decode cX3_at 16 = .ok (.invokevirtual 131, 3) := by decide +kernel
theorem dX3_at_19 : decode cX3_at 19 = .ok (.goto 5, 3) := by decide +kernel
theorem dX3_at_22 : decode cX3_at 22 = .ok (.bipush (-9), 2) := by decide +kernel
theorem dX3_at_24 : decode cX3_at 24 = .ok (.ireturn, 1) := by decide +kernel
theorem dX3_peek_0 : decode cX3_peek 0 = .ok (.aload_n 0, 1) := by decide +kernel
theorem dX3_peek_1 : decode cX3_peek 1 = .ok (.iload_n 1, 1) := by decide +kernel
theorem dX3_peek_2 : decode cX3_peek 2 = .ok (.invokevirtual 49, 3) := by decide +kernel
theorem dX3_peek_5 : decode cX3_peek 5 = .ok (.astore_n 2, 1) := by decide +kernel
theorem dX3_peek_6 : decode cX3_peek 6 = .ok (.aload_n 2, 1) := by decide +kernel
theorem dX3_peek_7 : decode cX3_peek 7 = .ok (.invokevirtual 74, 3) := by decide +kernel
theorem dX3_peek_10 : decode cX3_peek 10 = .ok (.ifCond .le 14, 3) := by decide +kernel
theorem dX3_peek_13 : decode cX3_peek 13 = .ok (.aload_n 2, 1) := by decide +kernel
theorem dX3_peek_14 : decode cX3_peek 14 = .ok (.aload_n 2, 1) := by decide +kernel
theorem dX3_peek_15 : decode cX3_peek 15 = .ok (.getfield 60, 3) := by decide +kernel
theorem dX3_peek_18 : decode cX3_peek 18 = .ok (.invokevirtual 131, 3) := by decide +kernel
theorem dX3_peek_21 : decode cX3_peek 21 = .ok (.goto 5, 3) := by decide +kernel
theorem dX3_peek_24 : decode cX3_peek 24 = .ok (.bipush (-9), 2) := by decide +kernel
theorem dX3_peek_26 : decode cX3_peek 26 = .ok (.ireturn, 1) := by decide +kernel
theorem dX3_would_0 : decode cX3_would 0 = .ok (.aload_n 0, 1) := by decide +kernel
theorem dX3_would_1 : decode cX3_would 1 = .ok (.iload_n 1, 1) := by decide +kernel
theorem dX3_would_2 : decode cX3_would 2 = .ok (.invokevirtual 49, 3) := by decide +kernel
theorem dX3_would_5 : decode cX3_would 5 = .ok (.astore_n 3, 1) := by decide +kernel
theorem dX3_would_6 : decode cX3_would 6 = .ok (.iload_n 2, 1) := by decide +kernel
theorem dX3_would_7 : decode cX3_would 7 = .ok (.iconst 0, 1) := by decide +kernel
theorem dX3_would_8 : decode cX3_would 8 = .ok (.iconst 3, 1) := by decide +kernel
theorem dX3_would_9 : decode cX3_would 9 = .ok (.invokestatic 53, 3) := by decide +kernel
theorem dX3_would_12 : decode cX3_would 12 = .ok (.iload_n 2, 1) := by decide +kernel
theorem dX3_would_13 : decode cX3_would 13 = .ok (.tableswitch 42 0 2 #[27, 32, 37], 27) := by decide +kernel
theorem dX3_would_40 : decode cX3_would 40 = .ok (.aload_n 3, 1) := by decide +kernel
theorem dX3_would_41 : decode cX3_would 41 = .ok (.getfield 100, 3) := by decide +kernel
theorem dX3_would_44 : decode cX3_would 44 = .ok (.ireturn, 1) := by decide +kernel
theorem dX3_would_45 : decode cX3_would 45 = .ok (.aload_n 3, 1) := by decide +kernel
theorem dX3_would_46 : decode cX3_would 46 = .ok (.getfield 60, 3) := by decide +kernel
theorem dX3_would_49 : decode cX3_would 49 = .ok (.ireturn, 1) := by decide +kernel
theorem dX3_would_50 : decode cX3_would 50 = .ok (.aload_n 3, 1) := by decide +kernel
theorem dX3_would_51 : decode cX3_would 51 = .ok (.getfield 63, 3) := by decide +kernel
theorem dX3_would_54 : decode cX3_would 54 = .ok (.ireturn, 1) := by decide +kernel
theorem dX3_would_55 : decode cX3_would 55 = .ok (.aload_n 3, 1) := by decide +kernel
theorem dX3_would_56 : decode cX3_would 56 = .ok (.invokevirtual 109, 3) := by decide +kernel
theorem dX3_would_59 : decode cX3_would 59 = .ok (.ifCond .eq 15, 3) := by decide +kernel
theorem dX3_would_62 : decode cX3_would 62 = .ok (.aload_n 3, 1) := by decide +kernel
theorem dX3_would_63 : decode cX3_would 63 = .ok (.getfield 63, 3) := by decide +kernel
theorem dX3_would_66 : decode cX3_would 66 = .ok (.aload_n 3, 1) := by decide +kernel
theorem dX3_would_67 : decode cX3_would 67 = .ok (.getfield 106, 3) := by decide +kernel
theorem dX3_would_70 : decode cX3_would 70 = .ok (.isub, 1) := by decide +kernel
theorem dX3_would_71 : decode cX3_would 71 = .ok (.goto 5, 3) := by decide +kernel
theorem dX3_would_74 : decode cX3_would 74 = .ok (.bipush (-9), 2) := by decide +kernel
theorem dX3_would_76 : decode cX3_would 76 = .ok (.ireturn, 1) := by decide +kernel
theorem dX3_ofPane_0 : decode cX3_ofPane 0 = .ok (.aload_n 0, 1) := by decide +kernel
theorem dX3_ofPane_1 : decode cX3_ofPane 1 = .ok (.iload_n 1, 1) := by decide +kernel
theorem dX3_ofPane_2 : decode cX3_ofPane 2 = .ok (.invokevirtual 49, 3) := by decide +kernel
theorem dX3_ofPane_5 : decode cX3_ofPane 5 = .ok (.astore_n 3, 1) := by decide +kernel
theorem dX3_ofPane_6 : decode cX3_ofPane 6 = .ok (.iload_n 2, 1) := by decide +kernel
theorem dX3_ofPane_7 : decode cX3_ofPane 7 = .ok (.iconst 0, 1) := by decide +kernel
theorem dX3_ofPane_8 : decode cX3_ofPane 8 = .ok (.bipush 9, 2) := by decide +kernel
theorem dX3_ofPane_10 : decode cX3_ofPane 10 = .ok (.invokestatic 53, 3) := by decide +kernel
theorem dX3_ofPane_13 : decode cX3_ofPane 13 = .ok (.aload_n 3, 1) := by decide +kernel
theorem dX3_ofPane_14 : decode cX3_ofPane 14 = .ok (.iload_n 2, 1) := by decide +kernel
theorem dX3_ofPane_15 : decode cX3_ofPane 15 = .ok (.invokevirtual 158, 3) := by decide +kernel
theorem dX3_ofPane_18 : decode cX3_ofPane 18 = .ok (.ireturn, 1) := by decide +kernel
theorem dX3_knock_0 : decode cX3_knock 0 = .ok (.aload_n 0, 1) := by decide +kernel
theorem dX3_knock_1 : decode cX3_knock 1 = .ok (.dup, 1) := by decide +kernel
theorem dX3_knock_2 : decode cX3_knock 2 = .ok (.getfield 46, 3) := by decide +kernel
theorem dX3_knock_5 : decode cX3_knock 5 = .ok (.iconst 1, 1) := by decide +kernel
theorem dX3_knock_6 : decode cX3_knock 6 = .ok (.iadd, 1) := by decide +kernel
theorem dX3_knock_7 : decode cX3_knock 7 = .ok (.putfield 46, 3) := by decide +kernel
theorem dX3_knock_10 : decode cX3_knock 10 = .ok (.aload_n 0, 1) := by decide +kernel
theorem dX3_knock_11 : decode cX3_knock 11 = .ok (.getfield 46, 3) := by decide +kernel
theorem dX3_knock_14 : decode cX3_knock 14 = .ok (.ireturn, 1) := by decide +kernel
/-- a pane in order, over a row of nv places -/
def z_ow (sa cp po li : Int32) (nv : Nat) : Prop := 0 ≤ sa.toInt ∧ 0 ≤ po.toInt ∧ po.toInt ≤ li.toInt ∧ li.toInt ≤ cp.toInt ∧ cp.toInt ≤ 16 ∧ sa.toInt + cp.toInt ≤ nv ∧ nv < 100000
theorem z_owI {sa cp po li x : Int32} {nv : Nat} (h : z_ow sa cp po li nv) (h1 : 0 ≤ x.toInt) (h2 : x.toInt < cp.toInt) : vp_in (sa + x) nv := by
  obtain ⟨a1, a2, a3, a4, a5, a6, a7⟩ := h
  rw [z_inT, fb_addI (by omega) (by omega)]
  omega
theorem z_hi1 {x l : Int32} (h : ¬ z_hi x l = 0) : 0 ≤ x.toInt ∧ x.toInt < l.toInt := by
  unfold z_hi at h
  split at h
  · exact absurd rfl h
  · rename_i h1
    split at h
    · exact absurd rfl h
    · rename_i h2
      rw [z_ltI, z_t0] at h1
      rw [z_le] at h2
      omega
theorem z_owL {sa cp po li x : Int32} {nv : Nat} (h : z_ow sa cp po li nv) (hx : ¬ z_hi x li = 0) : vp_in (sa + x) nv := by
  obtain ⟨h1, h2⟩ := z_hi1 hx
  exact z_owI h h1 (by obtain ⟨a1, a2, a3, a4, a5, a6, a7⟩ := h; omega)
theorem z_owC {sa cp po li x : Int32} {nv : Nat} (h : z_ow sa cp po li nv) (hx : ¬ z_hi x cp = 0) : vp_in (sa + x) nv := by
  obtain ⟨h1, h2⟩ := z_hi1 hx
  exact z_owI h h1 h2
theorem z_owB {sa cp po li : Int32} {nv : Nat} (h : z_ow sa cp po li nv) : (li - po).toInt = li.toInt - po.toInt := by
  obtain ⟨a1, a2, a3, a4, a5, a6, a7⟩ := h
  exact fb_subI (by omega) (by omega)
theorem z_owP {sa cp po li : Int32} {nv : Nat} (h : z_ow sa cp po li nv) (hx : 0 < li - po) : vp_in (sa + po) nv := by
  have e := z_owB h
  rw [z_ltI, z_t0, e] at hx
  obtain ⟨a1, a2, a3, a4, a5, a6, a7⟩ := id h
  exact z_owI h a2 (by omega)
theorem z_owP' {sa cp po li : Int32} {nv : Nat} (h : z_ow sa cp po li nv) (hx : ¬ li - po ≤ 0) : vp_in (sa + po) nv := z_owP h (Int32.not_le.mp hx)
theorem z_owQ {sa cp po li : Int32} {nv : Nat} (h : z_ow sa cp po li nv) (hx : ¬ po ≤ 0) : vp_in (sa + (po - 1)) nv := by
  obtain ⟨a1, a2, a3, a4, a5, a6, a7⟩ := id h
  rw [z_le, z_t0] at hx
  have e : (po - 1).toInt = po.toInt - 1 := by rw [fb_subI (by rw [z_t1]; omega) (by rw [z_t1]; omega), z_t1]
  exact z_owI h (by omega) (by omega)
theorem z_owQ' {sa cp po li : Int32} {nv : Nat} (h : z_ow sa cp po li nv) (hx : 0 < po) : vp_in (sa + (po - 1)) nv := z_owQ h (Int32.not_le.mpr hx)
theorem z_owN {sa cp po li : Int32} {nv : Nat} (h : z_ow sa cp po li nv) : nv < 100000 := h.2.2.2.2.2.2
set_option maxRecDepth 20000 in
theorem c_X3_tryPut (l : Launch) (G : zG) {M : zM} {x : Nat} {p : Nat} {v : Int32} {lr : Nat} {pa : Nat} {sp : Nat} {ln : Nat} {rf : Nat} {ac : Int32} {kn : Int32} {fr : Nat → Int32} {ov : Nat} {sa : Int32} {cp : Int32} {po : Int32} {li : Int32} {mk : Int32} {rd : Int32} {vs : Nat} {nv : Nat} {fv : Nat → Int32}  (h_x : M x = some (cMp lr pa sp ln rf ac kn)) (h_rf : M rf = some (aI G 6 fr)) (h_p : M p = some (cPn ov sa cp po li mk rd)) (h_ov : M ov = some (cRw vs)) (h_vs : M vs = some (aI G nv fv)) (n_vs_rf : vs ≠ rf) (h_ow : z_ow sa cp po li nv) : z_Mi l G qX3_tryPut (z_rm 6 0 0) [.ref x, .ref p, .int v] M (fun r M' => ((rd = 0) ∧ (0 < (li - po)) ∧ r = 1 ∧ M' = z_up (z_up M vs (aI G nv (upd fv (sa + po).toNatClampNeg v))) p (cPn ov sa cp (po + 1) li mk rd)) ∨ ((rd = 0) ∧ (¬ 0 < (li - po)) ∧ r = 0 ∧ M' = z_up M rf (aI G 6 (upd fr 1 ((fr 1) + 1)))) ∨ ((¬ rd = 0) ∧ r = 0 ∧ M' = z_up M rf (aI G 6 (upd fr 4 ((fr 4) + 1)))))  := by
  refine z_Mi_of _ (plainFor_of_name rfl) rfl (Nat.le_of_ble_eq_true rfl) (fun X hl hG hnm C ret => ?_)
  subst hl; subst hG
  have C : z_C X cX3_tryPut RX3 3 (z_rm 6 0 0) := C
  show z_W X M 0 0 0 [(0, .ref x), (1, .ref p), (2, .int v)] []
  refine z_aload_n C dX3_tryPut_0 rfl 1 rfl ?_
  refine gf_X3_89 C h_p dX3_tryPut_1 ?_
  refine z_if_eq C (tgt := 15) dX3_tryPut_4 (by decide) (fun c4 => ?_) (fun c4 => ?_)
  · refine z_aload_n C dX3_tryPut_15 rfl 1 rfl ?_
    refine z_callVi (rest := []) (k' := 0) (n' := 0) C (c_X1_left (z_l X) (z_G X) h_p) (cs_X3_74 C (by decide)) h_p rfl rfl rfl rfl (Nat.le_of_ble_eq_true rfl) rfl rfl (by decide) (by decide) dX3_tryPut_16 (fun x16 M' hq => ?_)
    obtain ⟨rfl, rfl⟩ := hq
    refine z_if_gt C (tgt := 30) dX3_tryPut_19 (by decide) (fun c19 => ?_) (fun c19 => ?_)
    · refine z_aload_n C dX3_tryPut_30 rfl 1 rfl ?_
      refine z_iload_n C dX3_tryPut_31 rfl 2 rfl ?_
      refine z_callVv (rest := []) (k' := 0) (n' := 0) C (c_X1_putNext (z_l X) (z_G X) h_p h_ov h_vs (z_owP h_ow c19) (z_owN h_ow)) (cs_X3_227 C (by decide)) h_p rfl rfl rfl rfl (Nat.le_of_ble_eq_true rfl) rfl rfl (by decide) (by decide) dX3_tryPut_32 (fun M' hq => ?_)
      obtain rfl := hq
      refine z_iconst C (v := 1) dX3_tryPut_35 (by decide) ?_
      exact ret dX3_tryPut_36 rfl (Or.inl ⟨c4, c19, rfl, rfl⟩) (by decide) (by decide)
    · refine z_aload_n C dX3_tryPut_22 rfl 0 rfl ?_
      refine z_iconst C (v := 1) dX3_tryPut_23 (by decide) ?_
      refine z_callVi (rest := []) (k' := 0) (n' := 0) C (c_X3_refuse (z_l X) (z_G X) h_x h_rf (z_inL (by decide)) (show (1 : Int32).toNatClampNeg = 1 by decide)) (cs_X3_86 C (by decide)) h_x rfl rfl rfl rfl (Nat.le_of_ble_eq_true rfl) rfl rfl (by decide) (by decide) dX3_tryPut_24 (fun x24 M' hq => ?_)
      obtain ⟨rfl, rfl⟩ := hq
      refine z_pop C dX3_tryPut_27 rfl ?_
      refine z_iconst C (v := 0) dX3_tryPut_28 (by decide) ?_
      exact ret dX3_tryPut_29 rfl (Or.inr (Or.inl ⟨c4, c19, rfl, rfl⟩)) (by decide) (by decide)
  · refine z_aload_n C dX3_tryPut_7 rfl 0 rfl ?_
    refine z_iconst C (v := 4) dX3_tryPut_8 (by decide) ?_
    refine z_callVi (rest := []) (k' := 0) (n' := 0) C (c_X3_refuse (z_l X) (z_G X) h_x h_rf (z_inL (by decide)) (show (4 : Int32).toNatClampNeg = 4 by decide)) (cs_X3_86 C (by decide)) h_x rfl rfl rfl rfl (Nat.le_of_ble_eq_true rfl) rfl rfl (by decide) (by decide) dX3_tryPut_9 (fun x9 M' hq => ?_)
    obtain ⟨rfl, rfl⟩ := hq
    refine z_pop C dX3_tryPut_12 rfl ?_
    refine z_iconst C (v := 0) dX3_tryPut_13 (by decide) ?_
    exact ret dX3_tryPut_14 rfl (Or.inr (Or.inr (⟨c4, rfl, rfl⟩))) (by decide) (by decide)
set_option maxRecDepth 20000 in
theorem c_X3_kinship (l : Launch) (G : zG) {M : zM} {p : Nat} {o : Nat} {ov : Nat} {sa : Int32} {cp : Int32} {po : Int32} {li : Int32} {mk : Int32} {rd : Int32} {ov2 : Nat} {sa2 : Int32} {cp2 : Int32} {po2 : Int32} {li2 : Int32} {mk2 : Int32} {rd2 : Int32}  (h_p : M p = some (cPn ov sa cp po li mk rd)) (h_o : M o = some (cPn ov2 sa2 cp2 po2 li2 mk2 rd2))  : z_Mi l G qX3_kinship (z_rm 1 0 0) [.ref p, .ref o] M (fun r M' => ((¬ rd = 0) ∧ r = (-9) ∧ M' = M) ∨ ((rd = 0) ∧ (rd2 = 0) ∧ (¬ some ov = some ov2) ∧ r = 0 ∧ M' = M) ∨ ((rd = 0) ∧ (rd2 = 0) ∧ (some ov = some ov2) ∧ r = 1 ∧ M' = M) ∨ ((rd = 0) ∧ (¬ rd2 = 0) ∧ r = (-9) ∧ M' = M))  := by
  refine z_Mi_of _ (plainFor_of_name rfl) rfl (Nat.le_of_ble_eq_true rfl) (fun X hl hG hnm C ret => ?_)
  subst hl; subst hG
  have C : z_C X cX3_kinship RX3 2 (z_rm 1 0 0) := C
  show z_W X M 0 0 0 [(0, .ref p), (1, .ref o)] []
  refine z_aload_n C dX3_kinship_0 rfl 0 rfl ?_
  refine gf_X3_89 C h_p dX3_kinship_1 ?_
  refine z_if_ne C (tgt := 14) dX3_kinship_4 (by decide) (fun c4 => ?_) (fun c4 => ?_)
  · refine z_bipush C (v := (-9)) dX3_kinship_14 (by decide) ?_
    exact ret dX3_kinship_16 rfl (Or.inl ⟨c4, rfl, rfl⟩) (by decide) (by decide)
  · refine z_aload_n C dX3_kinship_7 rfl 1 rfl ?_
    refine gf_X3_89 C h_o dX3_kinship_8 ?_
    refine z_if_eq C (tgt := 17) dX3_kinship_11 (by decide) (fun c11 => ?_) (fun c11 => ?_)
    · refine z_aload_n C dX3_kinship_17 rfl 0 rfl ?_
      refine gf_X3_230 C h_p dX3_kinship_18 ?_
      refine z_aload_n C dX3_kinship_21 rfl 1 rfl ?_
      refine gf_X3_230 C h_o dX3_kinship_22 ?_
      refine z_acmp_ne (rx := some ov) (ry := some ov2) C (tgt := 32) dX3_kinship_25 (by decide) (fun c25 => ?_) (fun c25 => ?_)
      · refine z_iconst C (v := 0) dX3_kinship_32 (by decide) ?_
        exact ret dX3_kinship_33 rfl (Or.inr (Or.inl ⟨c4, c11, c25, rfl, rfl⟩)) (by decide) (by decide)
      · refine z_iconst C (v := 1) dX3_kinship_28 (by decide) ?_
        refine z_goto C (tgt := 33) dX3_kinship_29 (by decide) ?_
        exact ret dX3_kinship_33 rfl (Or.inr (Or.inr (Or.inl ⟨c4, c11, c25, rfl, rfl⟩))) (by decide) (by decide)
    · refine z_bipush C (v := (-9)) dX3_kinship_14 (by decide) ?_
      exact ret dX3_kinship_16 rfl (Or.inr (Or.inr (Or.inr (⟨c4, c11, rfl, rfl⟩)))) (by decide) (by decide)
set_option maxRecDepth 20000 in
theorem c_X3_kinship_s (l : Launch) (G : zG) {M : zM} {p : Nat} {ov : Nat} {sa : Int32} {cp : Int32} {po : Int32} {li : Int32} {mk : Int32} {rd : Int32}  (h_p : M p = some (cPn ov sa cp po li mk rd))  : z_Mi l G qX3_kinship (z_rm 1 0 0) [.ref p, .ref p] M (fun r M' => ((¬ rd = 0) ∧ r = (-9) ∧ M' = M) ∨ ((rd = 0) ∧ (rd = 0) ∧ (¬ some ov = some ov) ∧ r = 0 ∧ M' = M) ∨ ((rd = 0) ∧ (rd = 0) ∧ (some ov = some ov) ∧ r = 1 ∧ M' = M) ∨ ((rd = 0) ∧ (¬ rd = 0) ∧ r = (-9) ∧ M' = M))  := by
  refine z_Mi_of _ (plainFor_of_name rfl) rfl (Nat.le_of_ble_eq_true rfl) (fun X hl hG hnm C ret => ?_)
  subst hl; subst hG
  have C : z_C X cX3_kinship RX3 2 (z_rm 1 0 0) := C
  show z_W X M 0 0 0 [(0, .ref p), (1, .ref p)] []
  refine z_aload_n C dX3_kinship_0 rfl 0 rfl ?_
  refine gf_X3_89 C h_p dX3_kinship_1 ?_
  refine z_if_ne C (tgt := 14) dX3_kinship_4 (by decide) (fun c4 => ?_) (fun c4 => ?_)
  · refine z_bipush C (v := (-9)) dX3_kinship_14 (by decide) ?_
    exact ret dX3_kinship_16 rfl (Or.inl ⟨c4, rfl, rfl⟩) (by decide) (by decide)
  · refine z_aload_n C dX3_kinship_7 rfl 1 rfl ?_
    refine gf_X3_89 C h_p dX3_kinship_8 ?_
    refine z_if_eq C (tgt := 17) dX3_kinship_11 (by decide) (fun c11 => ?_) (fun c11 => ?_)
    · refine z_aload_n C dX3_kinship_17 rfl 0 rfl ?_
      refine gf_X3_230 C h_p dX3_kinship_18 ?_
      refine z_aload_n C dX3_kinship_21 rfl 1 rfl ?_
      refine gf_X3_230 C h_p dX3_kinship_22 ?_
      refine z_acmp_ne (rx := some ov) (ry := some ov) C (tgt := 32) dX3_kinship_25 (by decide) (fun c25 => ?_) (fun c25 => ?_)
      · refine z_iconst C (v := 0) dX3_kinship_32 (by decide) ?_
        exact ret dX3_kinship_33 rfl (Or.inr (Or.inl ⟨c4, c11, c25, rfl, rfl⟩)) (by decide) (by decide)
      · refine z_iconst C (v := 1) dX3_kinship_28 (by decide) ?_
        refine z_goto C (tgt := 33) dX3_kinship_29 (by decide) ?_
        exact ret dX3_kinship_33 rfl (Or.inr (Or.inr (Or.inl ⟨c4, c11, c25, rfl, rfl⟩))) (by decide) (by decide)
    · refine z_bipush C (v := (-9)) dX3_kinship_14 (by decide) ?_
      exact ret dX3_kinship_16 rfl (Or.inr (Or.inr (Or.inr (⟨c4, c11, rfl, rfl⟩)))) (by decide) (by decide)
set_option maxRecDepth 20000 in
theorem c_X3_indexSeen (l : Launch) (G : zG) {M : zM} {p : Nat} {ix : Int32} {o : Nat} {ov : Nat} {sa : Int32} {cp : Int32} {po : Int32} {li : Int32} {mk : Int32} {rd : Int32} {ov2 : Nat} {sa2 : Int32} {cp2 : Int32} {po2 : Int32} {li2 : Int32} {mk2 : Int32} {rd2 : Int32}  (h_p : M p = some (cPn ov sa cp po li mk rd)) (h_o : M o = some (cPn ov2 sa2 cp2 po2 li2 mk2 rd2))  : z_Mi l G qX3_indexSeen (z_rm 2 0 0) [.ref p, .int ix, .ref o] M (fun r M' => ((¬ rd = 0) ∧ r = (-9) ∧ M' = M) ∨ ((rd = 0) ∧ (rd2 = 0) ∧ (¬ some ov = some ov2) ∧ r = (-1) ∧ M' = M) ∨ ((rd = 0) ∧ (rd2 = 0) ∧ (some ov = some ov2) ∧ (¬ (z_hi ix cp) = 0) ∧ ((z_hi ((sa + ix) - sa2) cp2) = 0) ∧ r = (-1) ∧ M' = M) ∨ ((rd = 0) ∧ (rd2 = 0) ∧ (some ov = some ov2) ∧ (¬ (z_hi ix cp) = 0) ∧ (¬ (z_hi ((sa + ix) - sa2) cp2) = 0) ∧ r = (sa + ix) - sa2 ∧ M' = M) ∨ ((rd = 0) ∧ (rd2 = 0) ∧ (some ov = some ov2) ∧ ((z_hi ix cp) = 0) ∧ r = (-1) ∧ M' = M) ∨ ((rd = 0) ∧ (¬ rd2 = 0) ∧ r = (-9) ∧ M' = M))  := by
  refine z_Mi_of _ (plainFor_of_name rfl) rfl (Nat.le_of_ble_eq_true rfl) (fun X hl hG hnm C ret => ?_)
  subst hl; subst hG
  have C : z_C X cX3_indexSeen RX3 4 (z_rm 2 0 0) := C
  show z_W X M 0 0 0 [(0, .ref p), (1, .int ix), (2, .ref o)] []
  refine z_aload_n C dX3_indexSeen_0 rfl 0 rfl ?_
  refine gf_X3_89 C h_p dX3_indexSeen_1 ?_
  refine z_if_ne C (tgt := 14) dX3_indexSeen_4 (by decide) (fun c4 => ?_) (fun c4 => ?_)
  · refine z_bipush C (v := (-9)) dX3_indexSeen_14 (by decide) ?_
    exact ret dX3_indexSeen_16 rfl (Or.inl ⟨c4, rfl, rfl⟩) (by decide) (by decide)
  · refine z_aload_n C dX3_indexSeen_7 rfl 2 rfl ?_
    refine gf_X3_89 C h_o dX3_indexSeen_8 ?_
    refine z_if_eq C (tgt := 17) dX3_indexSeen_11 (by decide) (fun c11 => ?_) (fun c11 => ?_)
    · refine z_aload_n C dX3_indexSeen_17 rfl 0 rfl ?_
      refine gf_X3_230 C h_p dX3_indexSeen_18 ?_
      refine z_aload_n C dX3_indexSeen_21 rfl 2 rfl ?_
      refine gf_X3_230 C h_o dX3_indexSeen_22 ?_
      refine z_acmp_ne (rx := some ov) (ry := some ov2) C (tgt := 36) dX3_indexSeen_25 (by decide) (fun c25 => ?_) (fun c25 => ?_)
      · refine z_iconst C (v := (-1)) dX3_indexSeen_36 (by decide) ?_
        exact ret dX3_indexSeen_37 rfl (Or.inr (Or.inl ⟨c4, c11, c25, rfl, rfl⟩)) (by decide) (by decide)
      · refine z_aload_n C dX3_indexSeen_28 rfl 0 rfl ?_
        refine z_iload_n C dX3_indexSeen_29 rfl 1 rfl ?_
        refine z_callVi (rest := []) (k' := 0) (n' := 0) C (c_X1_shows (z_l X) (z_G X) h_p) (cs_X3_152 C (by decide)) h_p rfl rfl rfl rfl (Nat.le_of_ble_eq_true rfl) rfl rfl (by decide) (by decide) dX3_indexSeen_30 (fun x30 M' hq => ?_)
        obtain ⟨rfl, rfl⟩ := hq
        refine z_if_ne C (tgt := 38) dX3_indexSeen_33 (by decide) (fun c33 => ?_) (fun c33 => ?_)
        · refine z_aload_n C dX3_indexSeen_38 rfl 0 rfl ?_
          refine gf_X3_233 C h_p dX3_indexSeen_39 ?_
          refine z_iload_n C dX3_indexSeen_42 rfl 1 rfl ?_
          refine z_iadd C dX3_indexSeen_43 ?_
          refine z_aload_n C dX3_indexSeen_44 rfl 2 rfl ?_
          refine gf_X3_233 C h_o dX3_indexSeen_45 ?_
          refine z_isub C dX3_indexSeen_48 ?_
          refine z_istore_n (lv' := [(3, .int ((sa + ix) - sa2)), (0, .ref p), (1, .int ix), (2, .ref o)]) C dX3_indexSeen_49 rfl (by decide) rfl ?_
          refine z_aload_n C dX3_indexSeen_50 rfl 3 rfl ?_
          refine z_iload_n C dX3_indexSeen_51 rfl 0 rfl ?_
          refine z_callVi (rest := []) (k' := 0) (n' := 0) C (c_X1_shows (z_l X) (z_G X) h_o) (cs_X3_152 C (by decide)) h_o rfl rfl rfl rfl (Nat.le_of_ble_eq_true rfl) rfl rfl (by decide) (by decide) dX3_indexSeen_52 (fun x52 M' hq => ?_)
          obtain ⟨rfl, rfl⟩ := hq
          refine z_if_eq C (tgt := 62) dX3_indexSeen_55 (by decide) (fun c55 => ?_) (fun c55 => ?_)
          · refine z_iconst C (v := (-1)) dX3_indexSeen_62 (by decide) ?_
            exact ret dX3_indexSeen_63 rfl (Or.inr (Or.inr (Or.inl ⟨c4, c11, c25, c33, c55, rfl, rfl⟩))) (by decide) (by decide)
          · refine z_iload_n C dX3_indexSeen_58 rfl 0 rfl ?_
            refine z_goto C (tgt := 63) dX3_indexSeen_59 (by decide) ?_
            exact ret dX3_indexSeen_63 rfl (Or.inr (Or.inr (Or.inr (Or.inl ⟨c4, c11, c25, c33, c55, rfl, rfl⟩)))) (by decide) (by decide)
        · refine z_iconst C (v := (-1)) dX3_indexSeen_36 (by decide) ?_
          exact ret dX3_indexSeen_37 rfl (Or.inr (Or.inr (Or.inr (Or.inr (Or.inl ⟨c4, c11, c25, c33, rfl, rfl⟩))))) (by decide) (by decide)
    · refine z_bipush C (v := (-9)) dX3_indexSeen_14 (by decide) ?_
      exact ret dX3_indexSeen_16 rfl (Or.inr (Or.inr (Or.inr (Or.inr (Or.inr (⟨c4, c11, rfl, rfl⟩)))))) (by decide) (by decide)
set_option maxRecDepth 20000 in
theorem c_X3_indexSeen_s (l : Launch) (G : zG) {M : zM} {p : Nat} {ix : Int32} {ov : Nat} {sa : Int32} {cp : Int32} {po : Int32} {li : Int32} {mk : Int32} {rd : Int32}  (h_p : M p = some (cPn ov sa cp po li mk rd))  : z_Mi l G qX3_indexSeen (z_rm 2 0 0) [.ref p, .int ix, .ref p] M (fun r M' => ((¬ rd = 0) ∧ r = (-9) ∧ M' = M) ∨ ((rd = 0) ∧ (rd = 0) ∧ (¬ some ov = some ov) ∧ r = (-1) ∧ M' = M) ∨ ((rd = 0) ∧ (rd = 0) ∧ (some ov = some ov) ∧ (¬ (z_hi ix cp) = 0) ∧ ((z_hi ((sa + ix) - sa) cp) = 0) ∧ r = (-1) ∧ M' = M) ∨ ((rd = 0) ∧ (rd = 0) ∧ (some ov = some ov) ∧ (¬ (z_hi ix cp) = 0) ∧ (¬ (z_hi ((sa + ix) - sa) cp) = 0) ∧ r = (sa + ix) - sa ∧ M' = M) ∨ ((rd = 0) ∧ (rd = 0) ∧ (some ov = some ov) ∧ ((z_hi ix cp) = 0) ∧ r = (-1) ∧ M' = M) ∨ ((rd = 0) ∧ (¬ rd = 0) ∧ r = (-9) ∧ M' = M))  := by
  refine z_Mi_of _ (plainFor_of_name rfl) rfl (Nat.le_of_ble_eq_true rfl) (fun X hl hG hnm C ret => ?_)
  subst hl; subst hG
  have C : z_C X cX3_indexSeen RX3 4 (z_rm 2 0 0) := C
  show z_W X M 0 0 0 [(0, .ref p), (1, .int ix), (2, .ref p)] []
  refine z_aload_n C dX3_indexSeen_0 rfl 0 rfl ?_
  refine gf_X3_89 C h_p dX3_indexSeen_1 ?_
  refine z_if_ne C (tgt := 14) dX3_indexSeen_4 (by decide) (fun c4 => ?_) (fun c4 => ?_)
  · refine z_bipush C (v := (-9)) dX3_indexSeen_14 (by decide) ?_
    exact ret dX3_indexSeen_16 rfl (Or.inl ⟨c4, rfl, rfl⟩) (by decide) (by decide)
  · refine z_aload_n C dX3_indexSeen_7 rfl 2 rfl ?_
    refine gf_X3_89 C h_p dX3_indexSeen_8 ?_
    refine z_if_eq C (tgt := 17) dX3_indexSeen_11 (by decide) (fun c11 => ?_) (fun c11 => ?_)
    · refine z_aload_n C dX3_indexSeen_17 rfl 0 rfl ?_
      refine gf_X3_230 C h_p dX3_indexSeen_18 ?_
      refine z_aload_n C dX3_indexSeen_21 rfl 2 rfl ?_
      refine gf_X3_230 C h_p dX3_indexSeen_22 ?_
      refine z_acmp_ne (rx := some ov) (ry := some ov) C (tgt := 36) dX3_indexSeen_25 (by decide) (fun c25 => ?_) (fun c25 => ?_)
      · refine z_iconst C (v := (-1)) dX3_indexSeen_36 (by decide) ?_
        exact ret dX3_indexSeen_37 rfl (Or.inr (Or.inl ⟨c4, c11, c25, rfl, rfl⟩)) (by decide) (by decide)
      · refine z_aload_n C dX3_indexSeen_28 rfl 0 rfl ?_
        refine z_iload_n C dX3_indexSeen_29 rfl 1 rfl ?_
        refine z_callVi (rest := []) (k' := 0) (n' := 0) C (c_X1_shows (z_l X) (z_G X) h_p) (cs_X3_152 C (by decide)) h_p rfl rfl rfl rfl (Nat.le_of_ble_eq_true rfl) rfl rfl (by decide) (by decide) dX3_indexSeen_30 (fun x30 M' hq => ?_)
        obtain ⟨rfl, rfl⟩ := hq
        refine z_if_ne C (tgt := 38) dX3_indexSeen_33 (by decide) (fun c33 => ?_) (fun c33 => ?_)
        · refine z_aload_n C dX3_indexSeen_38 rfl 0 rfl ?_
          refine gf_X3_233 C h_p dX3_indexSeen_39 ?_
          refine z_iload_n C dX3_indexSeen_42 rfl 1 rfl ?_
          refine z_iadd C dX3_indexSeen_43 ?_
          refine z_aload_n C dX3_indexSeen_44 rfl 2 rfl ?_
          refine gf_X3_233 C h_p dX3_indexSeen_45 ?_
          refine z_isub C dX3_indexSeen_48 ?_
          refine z_istore_n (lv' := [(3, .int ((sa + ix) - sa)), (0, .ref p), (1, .int ix), (2, .ref p)]) C dX3_indexSeen_49 rfl (by decide) rfl ?_
          refine z_aload_n C dX3_indexSeen_50 rfl 3 rfl ?_
          refine z_iload_n C dX3_indexSeen_51 rfl 0 rfl ?_
          refine z_callVi (rest := []) (k' := 0) (n' := 0) C (c_X1_shows (z_l X) (z_G X) h_p) (cs_X3_152 C (by decide)) h_p rfl rfl rfl rfl (Nat.le_of_ble_eq_true rfl) rfl rfl (by decide) (by decide) dX3_indexSeen_52 (fun x52 M' hq => ?_)
          obtain ⟨rfl, rfl⟩ := hq
          refine z_if_eq C (tgt := 62) dX3_indexSeen_55 (by decide) (fun c55 => ?_) (fun c55 => ?_)
          · refine z_iconst C (v := (-1)) dX3_indexSeen_62 (by decide) ?_
            exact ret dX3_indexSeen_63 rfl (Or.inr (Or.inr (Or.inl ⟨c4, c11, c25, c33, c55, rfl, rfl⟩))) (by decide) (by decide)
          · refine z_iload_n C dX3_indexSeen_58 rfl 0 rfl ?_
            refine z_goto C (tgt := 63) dX3_indexSeen_59 (by decide) ?_
            exact ret dX3_indexSeen_63 rfl (Or.inr (Or.inr (Or.inr (Or.inl ⟨c4, c11, c25, c33, c55, rfl, rfl⟩)))) (by decide) (by decide)
        · refine z_iconst C (v := (-1)) dX3_indexSeen_36 (by decide) ?_
          exact ret dX3_indexSeen_37 rfl (Or.inr (Or.inr (Or.inr (Or.inr (Or.inl ⟨c4, c11, c25, c33, rfl, rfl⟩))))) (by decide) (by decide)
    · refine z_bipush C (v := (-9)) dX3_indexSeen_14 (by decide) ?_
      exact ret dX3_indexSeen_16 rfl (Or.inr (Or.inr (Or.inr (Or.inr (Or.inr (⟨c4, c11, rfl, rfl⟩)))))) (by decide) (by decide)
set_option maxRecDepth 20000 in
theorem c_X3_go_bad (l : Launch) (G : zG) (h_st : l.stackTraces = false) {M : zM} {x : Nat} {pane : Int32} {pl0 : Int32} {lr : Nat} {pa : Nat} {sp : Nat} {ln : Nat} {rf : Nat} {ac : Int32} {kn : Int32} {fp : Nat → Option Nat}  (h_x : M x = some (cMp lr pa sp ln rf ac kn)) (h_pa : M pa = some (aP G 6 fp)) (h_ip : ¬ vp_in pane 6) : z_Xi l G qX3_go (z_rm 12 8 48) [.ref x, .int pane, .int pl0] M (fun r M' => False) (fun E M' => ((pane < 0) ∧ E = "java/lang/IndexOutOfBoundsException" ∧ M' = M) ∨ ((¬ pane < 0) ∧ E = "java/lang/IndexOutOfBoundsException" ∧ M' = M)) := by
  refine z_Xi_of _ _ h_st rfl rfl (Nat.le_of_ble_eq_true rfl) (fun X hl hG C ret thr prp => ?_)
  subst hl; subst hG
  have C : z_C X cX3_go RX3 5 (z_rm 12 8 48) := C
  show z_W X M 0 0 0 [(0, .ref x), (1, .int pane), (2, .int pl0)] []
  refine z_aload_n C dX3_go_0 rfl 0 rfl ?_
  refine z_iload_n C dX3_go_1 rfl 1 rfl ?_
  refine z_callXVr (rest := []) (k' := 1) (n' := 6) C (c_X3_paneOf_bad (z_l X) (z_G X) h_st h_x h_pa h_ip) (cs_X3_49 C (by decide)) h_x rfl rfl rfl rfl (Nat.le_of_ble_eq_true rfl) rfl rfl (by decide) (by decide) dX3_go_2 (fun E M' hq => ?_) (fun x2 M' hq => ?_)
  · obtain ⟨cx2_0, rfl, rfl⟩ | ⟨cx2_0, rfl, rfl⟩ := hq
    · exact prp (Or.inl ⟨cx2_0, rfl, rfl⟩) (by decide) (by decide)
    · exact prp (Or.inr (⟨cx2_0, rfl, rfl⟩)) (by decide) (by decide)
  · skip
    exact hq.elim
set_option maxRecDepth 20000 in
theorem c_X3_go (l : Launch) (G : zG) (h_st : l.stackTraces = false) {M : zM} {x : Nat} {pane : Int32} {pl0 : Int32} {lr : Nat} {pa : Nat} {sp : Nat} {ln : Nat} {rf : Nat} {ac : Int32} {kn : Int32} {fr : Nat → Int32} {fp : Nat → Option Nat} {p : Nat} {ov : Nat} {sa : Int32} {cp : Int32} {po : Int32} {li : Int32} {mk : Int32} {rd : Int32} {i : Nat}  (h_x : M x = some (cMp lr pa sp ln rf ac kn)) (h_rf : M rf = some (aI G 6 fr)) (h_pa : M pa = some (aP G 6 fp)) (h_p : M p = some (cPn ov sa cp po li mk rd)) (h_ip : vp_in pane 6) (h_ij : pane.toNatClampNeg = i) (h_fp : fp i = some p) : z_Xi l G qX3_go (z_rm 12 8 48) [.ref x, .int pane, .int pl0] M (fun r M' => ((¬ (z_is pl0 0 li) = 0) ∧ (mk ≤ pl0) ∧ r = po ∧ M' = z_up (z_up M p (cPn ov sa cp pl0 li mk rd)) x (cMp lr pa sp ln rf (ac + 1) kn)) ∨ ((¬ (z_is pl0 0 li) = 0) ∧ (¬ mk ≤ pl0) ∧ r = po ∧ M' = z_up (z_up M p (cPn ov sa cp pl0 li (-1) rd)) x (cMp lr pa sp ln rf (ac + 1) kn)) ∨ (((z_is pl0 0 li) = 0) ∧ r = (-9) ∧ M' = z_up M rf (aI G 6 (upd fr 5 ((fr 5) + 1))))) (fun E M' => False) := by
  refine z_Xi_of _ _ h_st rfl rfl (Nat.le_of_ble_eq_true rfl) (fun X hl hG C ret thr prp => ?_)
  subst hl; subst hG
  have C : z_C X cX3_go RX3 5 (z_rm 12 8 48) := C
  show z_W X M 0 0 0 [(0, .ref x), (1, .int pane), (2, .int pl0)] []
  refine z_aload_n C dX3_go_0 rfl 0 rfl ?_
  refine z_iload_n C dX3_go_1 rfl 1 rfl ?_
  refine z_callXVr (rest := []) (k' := 1) (n' := 6) C (c_X3_paneOf (z_l X) (z_G X) h_st h_x h_pa h_p h_ip h_ij h_fp) (cs_X3_49 C (by decide)) h_x rfl rfl rfl rfl (Nat.le_of_ble_eq_true rfl) rfl rfl (by decide) (by decide) dX3_go_2 (fun E M' hq => ?_) (fun x2 M' hq => ?_)
  · exact hq.elim
  · skip
    obtain ⟨hr2, rfl⟩ := hq
    rw [hr2]
    refine z_astore_n (lv' := [(3, .ref p), (0, .ref x), (1, .int pane), (2, .int pl0)]) C dX3_go_5 rfl (by decide) rfl ?_
    refine z_aload_n C dX3_go_6 rfl 0 rfl ?_
    refine gf_X3_60 C h_p dX3_go_7 ?_
    refine z_istore (lv' := [(4, .int po), (3, .ref p), (0, .ref x), (1, .int pane), (2, .int pl0)]) C dX3_go_10 (by decide) rfl ?_
    refine z_iload_n C dX3_go_12 rfl 4 rfl ?_
    refine z_iconst C (v := 0) dX3_go_13 (by decide) ?_
    refine z_aload_n C dX3_go_14 rfl 1 rfl ?_
    refine gf_X3_63 C h_p dX3_go_15 ?_
    refine z_callSi (rest := []) (k' := 1) (n' := 6) C (c_X3_isWithin (z_l X) (z_G X) ) (cs_X3_82 C (by decide)) rfl rfl (Nat.le_of_ble_eq_true rfl) rfl rfl (by decide) (by decide) dX3_go_18 (fun x18 M' hq => ?_)
    obtain ⟨rfl, rfl⟩ := hq
    refine z_if_ne C (tgt := 30) dX3_go_21 (by decide) (fun c21 => ?_) (fun c21 => ?_)
    · refine z_aload_n C dX3_go_30 rfl 1 rfl ?_
      refine z_iload_n C dX3_go_31 rfl 4 rfl ?_
      refine z_callVv (rest := []) (k' := 1) (n' := 6) C (c_X1_moveTo (z_l X) (z_G X) h_p) (cs_X3_97 C (by decide)) h_p rfl rfl rfl rfl (Nat.le_of_ble_eq_true rfl) rfl rfl (by decide) (by decide) dX3_go_32 (fun M' hq => ?_)
      obtain ⟨d32_0, rfl⟩ | ⟨d32_0, rfl⟩ := hq
      · refine z_aload_n C dX3_go_35 rfl 2 rfl ?_
        refine z_iload C dX3_go_36 0 rfl ?_
        refine z_callVi (rest := []) (k' := 1) (n' := 6) C (c_X3_done (z_l X) (z_G X) ((z_up_n _ _ (z_ne h_x h_p (by intro h; cases h))).trans h_x)) (cs_X3_66 C (by decide)) ((z_up_n _ _ (z_ne h_x h_p (by intro h; cases h))).trans h_x) rfl rfl rfl rfl (Nat.le_of_ble_eq_true rfl) rfl rfl (by decide) (by decide) dX3_go_38 (fun x38 M' hq => ?_)
        obtain ⟨hr38, rfl⟩ := hq
        rw [hr38]
        exact ret dX3_go_41 rfl (Or.inl ⟨c21, d32_0, rfl, rfl⟩) (by decide) (by decide)
      · refine z_aload_n C dX3_go_35 rfl 2 rfl ?_
        refine z_iload C dX3_go_36 0 rfl ?_
        refine z_callVi (rest := []) (k' := 1) (n' := 6) C (c_X3_done (z_l X) (z_G X) ((z_up_n _ _ (z_ne h_x h_p (by intro h; cases h))).trans h_x)) (cs_X3_66 C (by decide)) ((z_up_n _ _ (z_ne h_x h_p (by intro h; cases h))).trans h_x) rfl rfl rfl rfl (Nat.le_of_ble_eq_true rfl) rfl rfl (by decide) (by decide) dX3_go_38 (fun x38 M' hq => ?_)
        obtain ⟨hr38, rfl⟩ := hq
        rw [hr38]
        exact ret dX3_go_41 rfl (Or.inr (Or.inl ⟨c21, d32_0, rfl, rfl⟩)) (by decide) (by decide)
    · refine z_aload_n C dX3_go_24 rfl 2 rfl ?_
      refine z_iconst C (v := 5) dX3_go_25 (by decide) ?_
      refine z_callVi (rest := []) (k' := 1) (n' := 6) C (c_X3_refuse (z_l X) (z_G X) h_x h_rf (z_inL (by decide)) (show (5 : Int32).toNatClampNeg = 5 by decide)) (cs_X3_86 C (by decide)) h_x rfl rfl rfl rfl (Nat.le_of_ble_eq_true rfl) rfl rfl (by decide) (by decide) dX3_go_26 (fun x26 M' hq => ?_)
      obtain ⟨rfl, rfl⟩ := hq
      exact ret dX3_go_29 rfl (Or.inr (Or.inr (⟨c21, rfl, rfl⟩))) (by decide) (by decide)
set_option maxRecDepth 20000 in
theorem c_X3_end_bad (l : Launch) (G : zG) (h_st : l.stackTraces = false) {M : zM} {x : Nat} {pane : Int32} {pl0 : Int32} {lr : Nat} {pa : Nat} {sp : Nat} {ln : Nat} {rf : Nat} {ac : Int32} {kn : Int32} {fp : Nat → Option Nat}  (h_x : M x = some (cMp lr pa sp ln rf ac kn)) (h_pa : M pa = some (aP G 6 fp)) (h_ip : ¬ vp_in pane 6) : z_Xi l G qX3_end (z_rm 12 8 48) [.ref x, .int pane, .int pl0] M (fun r M' => False) (fun E M' => ((pane < 0) ∧ E = "java/lang/IndexOutOfBoundsException" ∧ M' = M) ∨ ((¬ pane < 0) ∧ E = "java/lang/IndexOutOfBoundsException" ∧ M' = M)) := by
  refine z_Xi_of _ _ h_st rfl rfl (Nat.le_of_ble_eq_true rfl) (fun X hl hG C ret thr prp => ?_)
  subst hl; subst hG
  have C : z_C X cX3_end RX3 5 (z_rm 12 8 48) := C
  show z_W X M 0 0 0 [(0, .ref x), (1, .int pane), (2, .int pl0)] []
  refine z_aload_n C dX3_end_0 rfl 0 rfl ?_
  refine z_iload_n C dX3_end_1 rfl 1 rfl ?_
  refine z_callXVr (rest := []) (k' := 1) (n' := 6) C (c_X3_paneOf_bad (z_l X) (z_G X) h_st h_x h_pa h_ip) (cs_X3_49 C (by decide)) h_x rfl rfl rfl rfl (Nat.le_of_ble_eq_true rfl) rfl rfl (by decide) (by decide) dX3_end_2 (fun E M' hq => ?_) (fun x2 M' hq => ?_)
  · obtain ⟨cx2_0, rfl, rfl⟩ | ⟨cx2_0, rfl, rfl⟩ := hq
    · exact prp (Or.inl ⟨cx2_0, rfl, rfl⟩) (by decide) (by decide)
    · exact prp (Or.inr (⟨cx2_0, rfl, rfl⟩)) (by decide) (by decide)
  · skip
    exact hq.elim
set_option maxRecDepth 20000 in
theorem c_X3_end (l : Launch) (G : zG) (h_st : l.stackTraces = false) {M : zM} {x : Nat} {pane : Int32} {pl0 : Int32} {lr : Nat} {pa : Nat} {sp : Nat} {ln : Nat} {rf : Nat} {ac : Int32} {kn : Int32} {fr : Nat → Int32} {fp : Nat → Option Nat} {p : Nat} {ov : Nat} {sa : Int32} {cp : Int32} {po : Int32} {li : Int32} {mk : Int32} {rd : Int32} {i : Nat}  (h_x : M x = some (cMp lr pa sp ln rf ac kn)) (h_rf : M rf = some (aI G 6 fr)) (h_pa : M pa = some (aP G 6 fp)) (h_p : M p = some (cPn ov sa cp po li mk rd)) (h_ip : vp_in pane 6) (h_ij : pane.toNatClampNeg = i) (h_fp : fp i = some p) : z_Xi l G qX3_end (z_rm 12 8 48) [.ref x, .int pane, .int pl0] M (fun r M' => ((¬ (z_is pl0 0 cp) = 0) ∧ (po ≤ pl0) ∧ (mk ≤ pl0) ∧ r = li ∧ M' = z_up (z_up M p (cPn ov sa cp po pl0 mk rd)) x (cMp lr pa sp ln rf (ac + 1) kn)) ∨ ((¬ (z_is pl0 0 cp) = 0) ∧ (po ≤ pl0) ∧ (¬ mk ≤ pl0) ∧ r = li ∧ M' = z_up (z_up M p (cPn ov sa cp po pl0 (-1) rd)) x (cMp lr pa sp ln rf (ac + 1) kn)) ∨ ((¬ (z_is pl0 0 cp) = 0) ∧ (¬ po ≤ pl0) ∧ (mk ≤ pl0) ∧ r = li ∧ M' = z_up (z_up M p (cPn ov sa cp pl0 pl0 mk rd)) x (cMp lr pa sp ln rf (ac + 1) kn)) ∨ ((¬ (z_is pl0 0 cp) = 0) ∧ (¬ po ≤ pl0) ∧ (¬ mk ≤ pl0) ∧ r = li ∧ M' = z_up (z_up M p (cPn ov sa cp pl0 pl0 (-1) rd)) x (cMp lr pa sp ln rf (ac + 1) kn)) ∨ (((z_is pl0 0 cp) = 0) ∧ r = (-9) ∧ M' = z_up M rf (aI G 6 (upd fr 5 ((fr 5) + 1))))) (fun E M' => False) := by
  refine z_Xi_of _ _ h_st rfl rfl (Nat.le_of_ble_eq_true rfl) (fun X hl hG C ret thr prp => ?_)
  subst hl; subst hG
  have C : z_C X cX3_end RX3 5 (z_rm 12 8 48) := C
  show z_W X M 0 0 0 [(0, .ref x), (1, .int pane), (2, .int pl0)] []
  refine z_aload_n C dX3_end_0 rfl 0 rfl ?_
  refine z_iload_n C dX3_end_1 rfl 1 rfl ?_
  refine z_callXVr (rest := []) (k' := 1) (n' := 6) C (c_X3_paneOf (z_l X) (z_G X) h_st h_x h_pa h_p h_ip h_ij h_fp) (cs_X3_49 C (by decide)) h_x rfl rfl rfl rfl (Nat.le_of_ble_eq_true rfl) rfl rfl (by decide) (by decide) dX3_end_2 (fun E M' hq => ?_) (fun x2 M' hq => ?_)
  · exact hq.elim
  · skip
    obtain ⟨hr2, rfl⟩ := hq
    rw [hr2]
    refine z_astore_n (lv' := [(3, .ref p), (0, .ref x), (1, .int pane), (2, .int pl0)]) C dX3_end_5 rfl (by decide) rfl ?_
    refine z_aload_n C dX3_end_6 rfl 0 rfl ?_
    refine gf_X3_63 C h_p dX3_end_7 ?_
    refine z_istore (lv' := [(4, .int li), (3, .ref p), (0, .ref x), (1, .int pane), (2, .int pl0)]) C dX3_end_10 (by decide) rfl ?_
    refine z_iload_n C dX3_end_12 rfl 4 rfl ?_
    refine z_iconst C (v := 0) dX3_end_13 (by decide) ?_
    refine z_aload_n C dX3_end_14 rfl 1 rfl ?_
    refine gf_X3_100 C h_p dX3_end_15 ?_
    refine z_callSi (rest := []) (k' := 1) (n' := 6) C (c_X3_isWithin (z_l X) (z_G X) ) (cs_X3_82 C (by decide)) rfl rfl (Nat.le_of_ble_eq_true rfl) rfl rfl (by decide) (by decide) dX3_end_18 (fun x18 M' hq => ?_)
    obtain ⟨rfl, rfl⟩ := hq
    refine z_if_ne C (tgt := 30) dX3_end_21 (by decide) (fun c21 => ?_) (fun c21 => ?_)
    · refine z_aload_n C dX3_end_30 rfl 1 rfl ?_
      refine z_iload_n C dX3_end_31 rfl 4 rfl ?_
      refine z_callVv (rest := []) (k' := 1) (n' := 6) C (c_X1_endAt (z_l X) (z_G X) h_p) (cs_X3_103 C (by decide)) h_p rfl rfl rfl rfl (Nat.le_of_ble_eq_true rfl) rfl rfl (by decide) (by decide) dX3_end_32 (fun M' hq => ?_)
      obtain ⟨d32_0, d32_1, rfl⟩ | ⟨d32_0, d32_1, rfl⟩ | ⟨d32_0, d32_1, rfl⟩ | ⟨d32_0, d32_1, rfl⟩ := hq
      · refine z_aload_n C dX3_end_35 rfl 2 rfl ?_
        refine z_iload C dX3_end_36 0 rfl ?_
        refine z_callVi (rest := []) (k' := 1) (n' := 6) C (c_X3_done (z_l X) (z_G X) ((z_up_n _ _ (z_ne h_x h_p (by intro h; cases h))).trans h_x)) (cs_X3_66 C (by decide)) ((z_up_n _ _ (z_ne h_x h_p (by intro h; cases h))).trans h_x) rfl rfl rfl rfl (Nat.le_of_ble_eq_true rfl) rfl rfl (by decide) (by decide) dX3_end_38 (fun x38 M' hq => ?_)
        obtain ⟨hr38, rfl⟩ := hq
        rw [hr38]
        exact ret dX3_end_41 rfl (Or.inl ⟨c21, d32_0, d32_1, rfl, rfl⟩) (by decide) (by decide)
      · refine z_aload_n C dX3_end_35 rfl 2 rfl ?_
        refine z_iload C dX3_end_36 0 rfl ?_
        refine z_callVi (rest := []) (k' := 1) (n' := 6) C (c_X3_done (z_l X) (z_G X) ((z_up_n _ _ (z_ne h_x h_p (by intro h; cases h))).trans h_x)) (cs_X3_66 C (by decide)) ((z_up_n _ _ (z_ne h_x h_p (by intro h; cases h))).trans h_x) rfl rfl rfl rfl (Nat.le_of_ble_eq_true rfl) rfl rfl (by decide) (by decide) dX3_end_38 (fun x38 M' hq => ?_)
        obtain ⟨hr38, rfl⟩ := hq
        rw [hr38]
        exact ret dX3_end_41 rfl (Or.inr (Or.inl ⟨c21, d32_0, d32_1, rfl, rfl⟩)) (by decide) (by decide)
      · refine z_aload_n C dX3_end_35 rfl 2 rfl ?_
        refine z_iload C dX3_end_36 0 rfl ?_
        refine z_callVi (rest := []) (k' := 1) (n' := 6) C (c_X3_done (z_l X) (z_G X) ((z_up_n _ _ (z_ne h_x h_p (by intro h; cases h))).trans h_x)) (cs_X3_66 C (by decide)) ((z_up_n _ _ (z_ne h_x h_p (by intro h; cases h))).trans h_x) rfl rfl rfl rfl (Nat.le_of_ble_eq_true rfl) rfl rfl (by decide) (by decide) dX3_end_38 (fun x38 M' hq => ?_)
        obtain ⟨hr38, rfl⟩ := hq
        rw [hr38]
        exact ret dX3_end_41 rfl (Or.inr (Or.inr (Or.inl ⟨c21, d32_0, d32_1, rfl, rfl⟩))) (by decide) (by decide)
      · refine z_aload_n C dX3_end_35 rfl 2 rfl ?_
        refine z_iload C dX3_end_36 0 rfl ?_
        refine z_callVi (rest := []) (k' := 1) (n' := 6) C (c_X3_done (z_l X) (z_G X) ((z_up_n _ _ (z_ne h_x h_p (by intro h; cases h))).trans h_x)) (cs_X3_66 C (by decide)) ((z_up_n _ _ (z_ne h_x h_p (by intro h; cases h))).trans h_x) rfl rfl rfl rfl (Nat.le_of_ble_eq_true rfl) rfl rfl (by decide) (by decide) dX3_end_38 (fun x38 M' hq => ?_)
        obtain ⟨hr38, rfl⟩ := hq
        rw [hr38]
        exact ret dX3_end_41 rfl (Or.inr (Or.inr (Or.inr (Or.inl ⟨c21, d32_0, d32_1, rfl, rfl⟩)))) (by decide) (by decide)
    · refine z_aload_n C dX3_end_24 rfl 2 rfl ?_
      refine z_iconst C (v := 5) dX3_end_25 (by decide) ?_
      refine z_callVi (rest := []) (k' := 1) (n' := 6) C (c_X3_refuse (z_l X) (z_G X) h_x h_rf (z_inL (by decide)) (show (5 : Int32).toNatClampNeg = 5 by decide)) (cs_X3_86 C (by decide)) h_x rfl rfl rfl rfl (Nat.le_of_ble_eq_true rfl) rfl rfl (by decide) (by decide) dX3_end_26 (fun x26 M' hq => ?_)
      obtain ⟨rfl, rfl⟩ := hq
      exact ret dX3_end_29 rfl (Or.inr (Or.inr (Or.inr (Or.inr (⟨c21, rfl, rfl⟩))))) (by decide) (by decide)
set_option maxRecDepth 20000 in
theorem c_X3_move_bad (l : Launch) (G : zG) (h_st : l.stackTraces = false) {M : zM} {x : Nat} {pane : Int32} {bb : Int32} {lr : Nat} {pa : Nat} {sp : Nat} {ln : Nat} {rf : Nat} {ac : Int32} {kn : Int32} {fp : Nat → Option Nat}  (h_x : M x = some (cMp lr pa sp ln rf ac kn)) (h_pa : M pa = some (aP G 6 fp)) (h_ip : ¬ vp_in pane 6) : z_Xi l G qX3_move (z_rm 12 8 48) [.ref x, .int pane, .int bb] M (fun r M' => False) (fun E M' => ((pane < 0) ∧ E = "java/lang/IndexOutOfBoundsException" ∧ M' = M) ∨ ((¬ pane < 0) ∧ E = "java/lang/IndexOutOfBoundsException" ∧ M' = M)) := by
  refine z_Xi_of _ _ h_st rfl rfl (Nat.le_of_ble_eq_true rfl) (fun X hl hG C ret thr prp => ?_)
  subst hl; subst hG
  have C : z_C X cX3_move RX3 5 (z_rm 12 8 48) := C
  show z_W X M 0 0 0 [(0, .ref x), (1, .int pane), (2, .int bb)] []
  refine z_aload_n C dX3_move_0 rfl 0 rfl ?_
  refine z_iload_n C dX3_move_1 rfl 1 rfl ?_
  refine z_callXVr (rest := []) (k' := 1) (n' := 6) C (c_X3_paneOf_bad (z_l X) (z_G X) h_st h_x h_pa h_ip) (cs_X3_49 C (by decide)) h_x rfl rfl rfl rfl (Nat.le_of_ble_eq_true rfl) rfl rfl (by decide) (by decide) dX3_move_2 (fun E M' hq => ?_) (fun x2 M' hq => ?_)
  · obtain ⟨cx2_0, rfl, rfl⟩ | ⟨cx2_0, rfl, rfl⟩ := hq
    · exact prp (Or.inl ⟨cx2_0, rfl, rfl⟩) (by decide) (by decide)
    · exact prp (Or.inr (⟨cx2_0, rfl, rfl⟩)) (by decide) (by decide)
  · skip
    exact hq.elim
set_option maxRecDepth 20000 in
theorem c_X3_move (l : Launch) (G : zG) (h_st : l.stackTraces = false) {M : zM} {x : Nat} {pane : Int32} {bb : Int32} {lr : Nat} {pa : Nat} {sp : Nat} {ln : Nat} {rf : Nat} {ac : Int32} {kn : Int32} {fr : Nat → Int32} {fp : Nat → Option Nat} {p : Nat} {ov : Nat} {sa : Int32} {cp : Int32} {po : Int32} {li : Int32} {mk : Int32} {rd : Int32} {i : Nat}  (h_x : M x = some (cMp lr pa sp ln rf ac kn)) (h_rf : M rf = some (aI G 6 fr)) (h_pa : M pa = some (aP G 6 fp)) (h_p : M p = some (cPn ov sa cp po li mk rd)) (h_ip : vp_in pane 6) (h_ij : pane.toNatClampNeg = i) (h_fp : fp i = some p) : z_Xi l G qX3_move (z_rm 12 8 48) [.ref x, .int pane, .int bb] M (fun r M' => ((¬ (z_is bb (-20) 20) = 0) ∧ (¬ (z_is (po + bb) 0 li) = 0) ∧ (mk ≤ (po + bb)) ∧ r = (po + bb) ∧ M' = z_up (z_up M p (cPn ov sa cp (po + bb) li mk rd)) x (cMp lr pa sp ln rf (ac + 1) kn)) ∨ ((¬ (z_is bb (-20) 20) = 0) ∧ (¬ (z_is (po + bb) 0 li) = 0) ∧ (¬ mk ≤ (po + bb)) ∧ r = (po + bb) ∧ M' = z_up (z_up M p (cPn ov sa cp (po + bb) li (-1) rd)) x (cMp lr pa sp ln rf (ac + 1) kn)) ∨ ((¬ (z_is bb (-20) 20) = 0) ∧ ((z_is (po + bb) 0 li) = 0) ∧ r = (-9) ∧ M' = z_up M rf (aI G 6 (upd fr 5 ((fr 5) + 1))))) (fun E M' => ((z_is bb (-20) 20) = 0) ∧ E = "java/lang/IllegalArgumentException" ∧ M' = M) := by
  refine z_Xi_of _ _ h_st rfl rfl (Nat.le_of_ble_eq_true rfl) (fun X hl hG C ret thr prp => ?_)
  subst hl; subst hG
  have C : z_C X cX3_move RX3 5 (z_rm 12 8 48) := C
  show z_W X M 0 0 0 [(0, .ref x), (1, .int pane), (2, .int bb)] []
  refine z_aload_n C dX3_move_0 rfl 0 rfl ?_
  refine z_iload_n C dX3_move_1 rfl 1 rfl ?_
  refine z_callXVr (rest := []) (k' := 1) (n' := 6) C (c_X3_paneOf (z_l X) (z_G X) h_st h_x h_pa h_p h_ip h_ij h_fp) (cs_X3_49 C (by decide)) h_x rfl rfl rfl rfl (Nat.le_of_ble_eq_true rfl) rfl rfl (by decide) (by decide) dX3_move_2 (fun E M' hq => ?_) (fun x2 M' hq => ?_)
  · exact hq.elim
  · skip
    obtain ⟨hr2, rfl⟩ := hq
    rw [hr2]
    refine z_astore_n (lv' := [(3, .ref p), (0, .ref x), (1, .int pane), (2, .int bb)]) C dX3_move_5 rfl (by decide) rfl ?_
    refine z_iload_n C dX3_move_6 rfl 3 rfl ?_
    refine z_bipush C (v := (-20)) dX3_move_7 (by decide) ?_
    refine z_bipush C (v := 20) dX3_move_9 (by decide) ?_
    refine z_callXSv (rest := []) (k' := 2) (n' := 12) C (c_X3_needWithin (z_l X) (z_G X) h_st) (cs_X3_53 C (by decide)) rfl rfl (Nat.le_of_ble_eq_true rfl) rfl rfl (by decide) (by decide) dX3_move_11 (fun E M' hq => ?_) (fun M' hq => ?_)
    · obtain ⟨cx11_0, rfl, rfl⟩ := hq
      exact prp (⟨cx11_0, rfl, rfl⟩) (by decide) (by decide)
    · skip
      obtain ⟨d11_0, rfl⟩ := hq
      refine z_aload_n C dX3_move_14 rfl 0 rfl ?_
      refine gf_X3_60 C h_p dX3_move_15 ?_
      refine z_iload_n C dX3_move_18 rfl 3 rfl ?_
      refine z_iadd C dX3_move_19 ?_
      refine z_istore (lv' := [(4, .int (po + bb)), (3, .ref p), (0, .ref x), (1, .int pane), (2, .int bb)]) C dX3_move_20 (by decide) rfl ?_
      refine z_iload C dX3_move_22 0 rfl ?_
      refine z_iconst C (v := 0) dX3_move_24 (by decide) ?_
      refine z_aload_n C dX3_move_25 rfl 1 rfl ?_
      refine gf_X3_63 C h_p dX3_move_26 ?_
      refine z_callSi (rest := []) (k' := 2) (n' := 12) C (c_X3_isWithin (z_l X) (z_G X) ) (cs_X3_82 C (by decide)) rfl rfl (Nat.le_of_ble_eq_true rfl) rfl rfl (by decide) (by decide) dX3_move_29 (fun x29 M' hq => ?_)
      obtain ⟨rfl, rfl⟩ := hq
      refine z_if_ne C (tgt := 41) dX3_move_32 (by decide) (fun c32 => ?_) (fun c32 => ?_)
      · refine z_aload_n C dX3_move_41 rfl 1 rfl ?_
        refine z_iload C dX3_move_42 0 rfl ?_
        refine z_callVv (rest := []) (k' := 2) (n' := 12) C (c_X1_moveTo (z_l X) (z_G X) h_p) (cs_X3_97 C (by decide)) h_p rfl rfl rfl rfl (Nat.le_of_ble_eq_true rfl) rfl rfl (by decide) (by decide) dX3_move_44 (fun M' hq => ?_)
        obtain ⟨d44_0, rfl⟩ | ⟨d44_0, rfl⟩ := hq
        · refine z_aload_n C dX3_move_47 rfl 2 rfl ?_
          refine z_aload_n C dX3_move_48 rfl 1 rfl ?_
          refine gf_X3_60 C (z_up_s _ _ _) dX3_move_49 ?_
          refine z_callVi (rest := []) (k' := 2) (n' := 12) C (c_X3_done (z_l X) (z_G X) ((z_up_n _ _ (z_ne h_x h_p (by intro h; cases h))).trans h_x)) (cs_X3_66 C (by decide)) ((z_up_n _ _ (z_ne h_x h_p (by intro h; cases h))).trans h_x) rfl rfl rfl rfl (Nat.le_of_ble_eq_true rfl) rfl rfl (by decide) (by decide) dX3_move_52 (fun x52 M' hq => ?_)
          obtain ⟨rfl, rfl⟩ := hq
          exact ret dX3_move_55 rfl (Or.inl ⟨d11_0, c32, d44_0, rfl, rfl⟩) (by decide) (by decide)
        · refine z_aload_n C dX3_move_47 rfl 2 rfl ?_
          refine z_aload_n C dX3_move_48 rfl 1 rfl ?_
          refine gf_X3_60 C (z_up_s _ _ _) dX3_move_49 ?_
          refine z_callVi (rest := []) (k' := 2) (n' := 12) C (c_X3_done (z_l X) (z_G X) ((z_up_n _ _ (z_ne h_x h_p (by intro h; cases h))).trans h_x)) (cs_X3_66 C (by decide)) ((z_up_n _ _ (z_ne h_x h_p (by intro h; cases h))).trans h_x) rfl rfl rfl rfl (Nat.le_of_ble_eq_true rfl) rfl rfl (by decide) (by decide) dX3_move_52 (fun x52 M' hq => ?_)
          obtain ⟨rfl, rfl⟩ := hq
          exact ret dX3_move_55 rfl (Or.inr (Or.inl ⟨d11_0, c32, d44_0, rfl, rfl⟩)) (by decide) (by decide)
      · refine z_aload_n C dX3_move_35 rfl 2 rfl ?_
        refine z_iconst C (v := 5) dX3_move_36 (by decide) ?_
        refine z_callVi (rest := []) (k' := 2) (n' := 12) C (c_X3_refuse (z_l X) (z_G X) h_x h_rf (z_inL (by decide)) (show (5 : Int32).toNatClampNeg = 5 by decide)) (cs_X3_86 C (by decide)) h_x rfl rfl rfl rfl (Nat.le_of_ble_eq_true rfl) rfl rfl (by decide) (by decide) dX3_move_37 (fun x37 M' hq => ?_)
        obtain ⟨rfl, rfl⟩ := hq
        exact ret dX3_move_40 rfl (Or.inr (Or.inr (⟨d11_0, c32, rfl, rfl⟩))) (by decide) (by decide)
set_option maxRecDepth 20000 in
theorem c_X3_stretch_bad (l : Launch) (G : zG) (h_st : l.stackTraces = false) {M : zM} {x : Nat} {pane : Int32} {bb : Int32} {lr : Nat} {pa : Nat} {sp : Nat} {ln : Nat} {rf : Nat} {ac : Int32} {kn : Int32} {fp : Nat → Option Nat}  (h_x : M x = some (cMp lr pa sp ln rf ac kn)) (h_pa : M pa = some (aP G 6 fp)) (h_ip : ¬ vp_in pane 6) : z_Xi l G qX3_stretch (z_rm 12 8 48) [.ref x, .int pane, .int bb] M (fun r M' => False) (fun E M' => ((pane < 0) ∧ E = "java/lang/IndexOutOfBoundsException" ∧ M' = M) ∨ ((¬ pane < 0) ∧ E = "java/lang/IndexOutOfBoundsException" ∧ M' = M)) := by
  refine z_Xi_of _ _ h_st rfl rfl (Nat.le_of_ble_eq_true rfl) (fun X hl hG C ret thr prp => ?_)
  subst hl; subst hG
  have C : z_C X cX3_stretch RX3 5 (z_rm 12 8 48) := C
  show z_W X M 0 0 0 [(0, .ref x), (1, .int pane), (2, .int bb)] []
  refine z_aload_n C dX3_stretch_0 rfl 0 rfl ?_
  refine z_iload_n C dX3_stretch_1 rfl 1 rfl ?_
  refine z_callXVr (rest := []) (k' := 1) (n' := 6) C (c_X3_paneOf_bad (z_l X) (z_G X) h_st h_x h_pa h_ip) (cs_X3_49 C (by decide)) h_x rfl rfl rfl rfl (Nat.le_of_ble_eq_true rfl) rfl rfl (by decide) (by decide) dX3_stretch_2 (fun E M' hq => ?_) (fun x2 M' hq => ?_)
  · obtain ⟨cx2_0, rfl, rfl⟩ | ⟨cx2_0, rfl, rfl⟩ := hq
    · exact prp (Or.inl ⟨cx2_0, rfl, rfl⟩) (by decide) (by decide)
    · exact prp (Or.inr (⟨cx2_0, rfl, rfl⟩)) (by decide) (by decide)
  · skip
    exact hq.elim
set_option maxRecDepth 20000 in
theorem c_X3_stretch (l : Launch) (G : zG) (h_st : l.stackTraces = false) {M : zM} {x : Nat} {pane : Int32} {bb : Int32} {lr : Nat} {pa : Nat} {sp : Nat} {ln : Nat} {rf : Nat} {ac : Int32} {kn : Int32} {fr : Nat → Int32} {fp : Nat → Option Nat} {p : Nat} {ov : Nat} {sa : Int32} {cp : Int32} {po : Int32} {li : Int32} {mk : Int32} {rd : Int32} {i : Nat}  (h_x : M x = some (cMp lr pa sp ln rf ac kn)) (h_rf : M rf = some (aI G 6 fr)) (h_pa : M pa = some (aP G 6 fp)) (h_p : M p = some (cPn ov sa cp po li mk rd)) (h_ip : vp_in pane 6) (h_ij : pane.toNatClampNeg = i) (h_fp : fp i = some p) : z_Xi l G qX3_stretch (z_rm 12 8 48) [.ref x, .int pane, .int bb] M (fun r M' => ((¬ (z_is bb (-20) 20) = 0) ∧ (¬ (z_is (li + bb) 0 cp) = 0) ∧ (po ≤ (li + bb)) ∧ (mk ≤ (li + bb)) ∧ r = (li + bb) ∧ M' = z_up (z_up M p (cPn ov sa cp po (li + bb) mk rd)) x (cMp lr pa sp ln rf (ac + 1) kn)) ∨ ((¬ (z_is bb (-20) 20) = 0) ∧ (¬ (z_is (li + bb) 0 cp) = 0) ∧ (po ≤ (li + bb)) ∧ (¬ mk ≤ (li + bb)) ∧ r = (li + bb) ∧ M' = z_up (z_up M p (cPn ov sa cp po (li + bb) (-1) rd)) x (cMp lr pa sp ln rf (ac + 1) kn)) ∨ ((¬ (z_is bb (-20) 20) = 0) ∧ (¬ (z_is (li + bb) 0 cp) = 0) ∧ (¬ po ≤ (li + bb)) ∧ (mk ≤ (li + bb)) ∧ r = (li + bb) ∧ M' = z_up (z_up M p (cPn ov sa cp (li + bb) (li + bb) mk rd)) x (cMp lr pa sp ln rf (ac + 1) kn)) ∨ ((¬ (z_is bb (-20) 20) = 0) ∧ (¬ (z_is (li + bb) 0 cp) = 0) ∧ (¬ po ≤ (li + bb)) ∧ (¬ mk ≤ (li + bb)) ∧ r = (li + bb) ∧ M' = z_up (z_up M p (cPn ov sa cp (li + bb) (li + bb) (-1) rd)) x (cMp lr pa sp ln rf (ac + 1) kn)) ∨ ((¬ (z_is bb (-20) 20) = 0) ∧ ((z_is (li + bb) 0 cp) = 0) ∧ r = (-9) ∧ M' = z_up M rf (aI G 6 (upd fr 5 ((fr 5) + 1))))) (fun E M' => ((z_is bb (-20) 20) = 0) ∧ E = "java/lang/IllegalArgumentException" ∧ M' = M) := by
  refine z_Xi_of _ _ h_st rfl rfl (Nat.le_of_ble_eq_true rfl) (fun X hl hG C ret thr prp => ?_)
  subst hl; subst hG
  have C : z_C X cX3_stretch RX3 5 (z_rm 12 8 48) := C
  show z_W X M 0 0 0 [(0, .ref x), (1, .int pane), (2, .int bb)] []
  refine z_aload_n C dX3_stretch_0 rfl 0 rfl ?_
  refine z_iload_n C dX3_stretch_1 rfl 1 rfl ?_
  refine z_callXVr (rest := []) (k' := 1) (n' := 6) C (c_X3_paneOf (z_l X) (z_G X) h_st h_x h_pa h_p h_ip h_ij h_fp) (cs_X3_49 C (by decide)) h_x rfl rfl rfl rfl (Nat.le_of_ble_eq_true rfl) rfl rfl (by decide) (by decide) dX3_stretch_2 (fun E M' hq => ?_) (fun x2 M' hq => ?_)
  · exact hq.elim
  · skip
    obtain ⟨hr2, rfl⟩ := hq
    rw [hr2]
    refine z_astore_n (lv' := [(3, .ref p), (0, .ref x), (1, .int pane), (2, .int bb)]) C dX3_stretch_5 rfl (by decide) rfl ?_
    refine z_iload_n C dX3_stretch_6 rfl 3 rfl ?_
    refine z_bipush C (v := (-20)) dX3_stretch_7 (by decide) ?_
    refine z_bipush C (v := 20) dX3_stretch_9 (by decide) ?_
    refine z_callXSv (rest := []) (k' := 2) (n' := 12) C (c_X3_needWithin (z_l X) (z_G X) h_st) (cs_X3_53 C (by decide)) rfl rfl (Nat.le_of_ble_eq_true rfl) rfl rfl (by decide) (by decide) dX3_stretch_11 (fun E M' hq => ?_) (fun M' hq => ?_)
    · obtain ⟨cx11_0, rfl, rfl⟩ := hq
      exact prp (⟨cx11_0, rfl, rfl⟩) (by decide) (by decide)
    · skip
      obtain ⟨d11_0, rfl⟩ := hq
      refine z_aload_n C dX3_stretch_14 rfl 0 rfl ?_
      refine gf_X3_63 C h_p dX3_stretch_15 ?_
      refine z_iload_n C dX3_stretch_18 rfl 3 rfl ?_
      refine z_iadd C dX3_stretch_19 ?_
      refine z_istore (lv' := [(4, .int (li + bb)), (3, .ref p), (0, .ref x), (1, .int pane), (2, .int bb)]) C dX3_stretch_20 (by decide) rfl ?_
      refine z_iload C dX3_stretch_22 0 rfl ?_
      refine z_iconst C (v := 0) dX3_stretch_24 (by decide) ?_
      refine z_aload_n C dX3_stretch_25 rfl 1 rfl ?_
      refine gf_X3_100 C h_p dX3_stretch_26 ?_
      refine z_callSi (rest := []) (k' := 2) (n' := 12) C (c_X3_isWithin (z_l X) (z_G X) ) (cs_X3_82 C (by decide)) rfl rfl (Nat.le_of_ble_eq_true rfl) rfl rfl (by decide) (by decide) dX3_stretch_29 (fun x29 M' hq => ?_)
      obtain ⟨rfl, rfl⟩ := hq
      refine z_if_ne C (tgt := 41) dX3_stretch_32 (by decide) (fun c32 => ?_) (fun c32 => ?_)
      · refine z_aload_n C dX3_stretch_41 rfl 1 rfl ?_
        refine z_iload C dX3_stretch_42 0 rfl ?_
        refine z_callVv (rest := []) (k' := 2) (n' := 12) C (c_X1_endAt (z_l X) (z_G X) h_p) (cs_X3_103 C (by decide)) h_p rfl rfl rfl rfl (Nat.le_of_ble_eq_true rfl) rfl rfl (by decide) (by decide) dX3_stretch_44 (fun M' hq => ?_)
        obtain ⟨d44_0, d44_1, rfl⟩ | ⟨d44_0, d44_1, rfl⟩ | ⟨d44_0, d44_1, rfl⟩ | ⟨d44_0, d44_1, rfl⟩ := hq
        · refine z_aload_n C dX3_stretch_47 rfl 2 rfl ?_
          refine z_aload_n C dX3_stretch_48 rfl 1 rfl ?_
          refine gf_X3_63 C (z_up_s _ _ _) dX3_stretch_49 ?_
          refine z_callVi (rest := []) (k' := 2) (n' := 12) C (c_X3_done (z_l X) (z_G X) ((z_up_n _ _ (z_ne h_x h_p (by intro h; cases h))).trans h_x)) (cs_X3_66 C (by decide)) ((z_up_n _ _ (z_ne h_x h_p (by intro h; cases h))).trans h_x) rfl rfl rfl rfl (Nat.le_of_ble_eq_true rfl) rfl rfl (by decide) (by decide) dX3_stretch_52 (fun x52 M' hq => ?_)
          obtain ⟨rfl, rfl⟩ := hq
          exact ret dX3_stretch_55 rfl (Or.inl ⟨d11_0, c32, d44_0, d44_1, rfl, rfl⟩) (by decide) (by decide)
        · refine z_aload_n C dX3_stretch_47 rfl 2 rfl ?_
          refine z_aload_n C dX3_stretch_48 rfl 1 rfl ?_
          refine gf_X3_63 C (z_up_s _ _ _) dX3_stretch_49 ?_
          refine z_callVi (rest := []) (k' := 2) (n' := 12) C (c_X3_done (z_l X) (z_G X) ((z_up_n _ _ (z_ne h_x h_p (by intro h; cases h))).trans h_x)) (cs_X3_66 C (by decide)) ((z_up_n _ _ (z_ne h_x h_p (by intro h; cases h))).trans h_x) rfl rfl rfl rfl (Nat.le_of_ble_eq_true rfl) rfl rfl (by decide) (by decide) dX3_stretch_52 (fun x52 M' hq => ?_)
          obtain ⟨rfl, rfl⟩ := hq
          exact ret dX3_stretch_55 rfl (Or.inr (Or.inl ⟨d11_0, c32, d44_0, d44_1, rfl, rfl⟩)) (by decide) (by decide)
        · refine z_aload_n C dX3_stretch_47 rfl 2 rfl ?_
          refine z_aload_n C dX3_stretch_48 rfl 1 rfl ?_
          refine gf_X3_63 C (z_up_s _ _ _) dX3_stretch_49 ?_
          refine z_callVi (rest := []) (k' := 2) (n' := 12) C (c_X3_done (z_l X) (z_G X) ((z_up_n _ _ (z_ne h_x h_p (by intro h; cases h))).trans h_x)) (cs_X3_66 C (by decide)) ((z_up_n _ _ (z_ne h_x h_p (by intro h; cases h))).trans h_x) rfl rfl rfl rfl (Nat.le_of_ble_eq_true rfl) rfl rfl (by decide) (by decide) dX3_stretch_52 (fun x52 M' hq => ?_)
          obtain ⟨rfl, rfl⟩ := hq
          exact ret dX3_stretch_55 rfl (Or.inr (Or.inr (Or.inl ⟨d11_0, c32, d44_0, d44_1, rfl, rfl⟩))) (by decide) (by decide)
        · refine z_aload_n C dX3_stretch_47 rfl 2 rfl ?_
          refine z_aload_n C dX3_stretch_48 rfl 1 rfl ?_
          refine gf_X3_63 C (z_up_s _ _ _) dX3_stretch_49 ?_
          refine z_callVi (rest := []) (k' := 2) (n' := 12) C (c_X3_done (z_l X) (z_G X) ((z_up_n _ _ (z_ne h_x h_p (by intro h; cases h))).trans h_x)) (cs_X3_66 C (by decide)) ((z_up_n _ _ (z_ne h_x h_p (by intro h; cases h))).trans h_x) rfl rfl rfl rfl (Nat.le_of_ble_eq_true rfl) rfl rfl (by decide) (by decide) dX3_stretch_52 (fun x52 M' hq => ?_)
          obtain ⟨rfl, rfl⟩ := hq
          exact ret dX3_stretch_55 rfl (Or.inr (Or.inr (Or.inr (Or.inl ⟨d11_0, c32, d44_0, d44_1, rfl, rfl⟩)))) (by decide) (by decide)
      · refine z_aload_n C dX3_stretch_35 rfl 2 rfl ?_
        refine z_iconst C (v := 5) dX3_stretch_36 (by decide) ?_
        refine z_callVi (rest := []) (k' := 2) (n' := 12) C (c_X3_refuse (z_l X) (z_G X) h_x h_rf (z_inL (by decide)) (show (5 : Int32).toNatClampNeg = 5 by decide)) (cs_X3_86 C (by decide)) h_x rfl rfl rfl rfl (Nat.le_of_ble_eq_true rfl) rfl rfl (by decide) (by decide) dX3_stretch_37 (fun x37 M' hq => ?_)
        obtain ⟨rfl, rfl⟩ := hq
        exact ret dX3_stretch_40 rfl (Or.inr (Or.inr (Or.inr (Or.inr (⟨d11_0, c32, rfl, rfl⟩))))) (by decide) (by decide)
set_option maxRecDepth 20000 in
theorem c_X3_mark_bad (l : Launch) (G : zG) (h_st : l.stackTraces = false) {M : zM} {x : Nat} {pane : Int32} {lr : Nat} {pa : Nat} {sp : Nat} {ln : Nat} {rf : Nat} {ac : Int32} {kn : Int32} {fp : Nat → Option Nat}  (h_x : M x = some (cMp lr pa sp ln rf ac kn)) (h_pa : M pa = some (aP G 6 fp)) (h_ip : ¬ vp_in pane 6) : z_Xi l G qX3_mark (z_rm 12 8 48) [.ref x, .int pane] M (fun r M' => False) (fun E M' => ((pane < 0) ∧ E = "java/lang/IndexOutOfBoundsException" ∧ M' = M) ∨ ((¬ pane < 0) ∧ E = "java/lang/IndexOutOfBoundsException" ∧ M' = M)) := by
  refine z_Xi_of _ _ h_st rfl rfl (Nat.le_of_ble_eq_true rfl) (fun X hl hG C ret thr prp => ?_)
  subst hl; subst hG
  have C : z_C X cX3_mark RX3 3 (z_rm 12 8 48) := C
  show z_W X M 0 0 0 [(0, .ref x), (1, .int pane)] []
  refine z_aload_n C dX3_mark_0 rfl 0 rfl ?_
  refine z_iload_n C dX3_mark_1 rfl 1 rfl ?_
  refine z_callXVr (rest := []) (k' := 1) (n' := 6) C (c_X3_paneOf_bad (z_l X) (z_G X) h_st h_x h_pa h_ip) (cs_X3_49 C (by decide)) h_x rfl rfl rfl rfl (Nat.le_of_ble_eq_true rfl) rfl rfl (by decide) (by decide) dX3_mark_2 (fun E M' hq => ?_) (fun x2 M' hq => ?_)
  · obtain ⟨cx2_0, rfl, rfl⟩ | ⟨cx2_0, rfl, rfl⟩ := hq
    · exact prp (Or.inl ⟨cx2_0, rfl, rfl⟩) (by decide) (by decide)
    · exact prp (Or.inr (⟨cx2_0, rfl, rfl⟩)) (by decide) (by decide)
  · skip
    exact hq.elim
set_option maxRecDepth 20000 in
theorem c_X3_mark (l : Launch) (G : zG) (h_st : l.stackTraces = false) {M : zM} {x : Nat} {pane : Int32} {lr : Nat} {pa : Nat} {sp : Nat} {ln : Nat} {rf : Nat} {ac : Int32} {kn : Int32} {fr : Nat → Int32} {fp : Nat → Option Nat} {p : Nat} {ov : Nat} {sa : Int32} {cp : Int32} {po : Int32} {li : Int32} {mk : Int32} {rd : Int32} {i : Nat}  (h_x : M x = some (cMp lr pa sp ln rf ac kn)) (h_rf : M rf = some (aI G 6 fr)) (h_pa : M pa = some (aP G 6 fp)) (h_p : M p = some (cPn ov sa cp po li mk rd)) (h_ip : vp_in pane 6) (h_ij : pane.toNatClampNeg = i) (h_fp : fp i = some p) : z_Xi l G qX3_mark (z_rm 12 8 48) [.ref x, .int pane] M (fun r M' => r = po ∧ M' = z_up (z_up M p (cPn ov sa cp po li po rd)) x (cMp lr pa sp ln rf (ac + 1) kn)) (fun E M' => False) := by
  refine z_Xi_of _ _ h_st rfl rfl (Nat.le_of_ble_eq_true rfl) (fun X hl hG C ret thr prp => ?_)
  subst hl; subst hG
  have C : z_C X cX3_mark RX3 3 (z_rm 12 8 48) := C
  show z_W X M 0 0 0 [(0, .ref x), (1, .int pane)] []
  refine z_aload_n C dX3_mark_0 rfl 0 rfl ?_
  refine z_iload_n C dX3_mark_1 rfl 1 rfl ?_
  refine z_callXVr (rest := []) (k' := 1) (n' := 6) C (c_X3_paneOf (z_l X) (z_G X) h_st h_x h_pa h_p h_ip h_ij h_fp) (cs_X3_49 C (by decide)) h_x rfl rfl rfl rfl (Nat.le_of_ble_eq_true rfl) rfl rfl (by decide) (by decide) dX3_mark_2 (fun E M' hq => ?_) (fun x2 M' hq => ?_)
  · exact hq.elim
  · skip
    obtain ⟨hr2, rfl⟩ := hq
    rw [hr2]
    refine z_astore_n (lv' := [(2, .ref p), (0, .ref x), (1, .int pane)]) C dX3_mark_5 rfl (by decide) rfl ?_
    refine z_aload_n C dX3_mark_6 rfl 0 rfl ?_
    refine z_aload_n C dX3_mark_7 rfl 0 rfl ?_
    refine gf_X3_60 C h_p dX3_mark_8 ?_
    refine pf_X3_106 C h_p dX3_mark_11 ?_
    refine z_aload_n C dX3_mark_14 rfl 1 rfl ?_
    refine z_aload_n C dX3_mark_15 rfl 0 rfl ?_
    refine gf_X3_106 C (z_up_s _ _ _) dX3_mark_16 ?_
    refine z_callVi (rest := []) (k' := 1) (n' := 6) C (c_X3_done (z_l X) (z_G X) ((z_up_n _ _ (z_ne h_x h_p (by intro h; cases h))).trans h_x)) (cs_X3_66 C (by decide)) ((z_up_n _ _ (z_ne h_x h_p (by intro h; cases h))).trans h_x) rfl rfl rfl rfl (Nat.le_of_ble_eq_true rfl) rfl rfl (by decide) (by decide) dX3_mark_19 (fun x19 M' hq => ?_)
    obtain ⟨hr19, rfl⟩ := hq
    rw [hr19]
    exact ret dX3_mark_22 rfl (⟨rfl, rfl⟩) (by decide) (by decide)
set_option maxRecDepth 20000 in
theorem c_X3_back_bad (l : Launch) (G : zG) (h_st : l.stackTraces = false) {M : zM} {x : Nat} {pane : Int32} {lr : Nat} {pa : Nat} {sp : Nat} {ln : Nat} {rf : Nat} {ac : Int32} {kn : Int32} {fp : Nat → Option Nat}  (h_x : M x = some (cMp lr pa sp ln rf ac kn)) (h_pa : M pa = some (aP G 6 fp)) (h_ip : ¬ vp_in pane 6) : z_Xi l G qX3_back (z_rm 12 8 48) [.ref x, .int pane] M (fun r M' => False) (fun E M' => ((pane < 0) ∧ E = "java/lang/IndexOutOfBoundsException" ∧ M' = M) ∨ ((¬ pane < 0) ∧ E = "java/lang/IndexOutOfBoundsException" ∧ M' = M)) := by
  refine z_Xi_of _ _ h_st rfl rfl (Nat.le_of_ble_eq_true rfl) (fun X hl hG C ret thr prp => ?_)
  subst hl; subst hG
  have C : z_C X cX3_back RX3 4 (z_rm 12 8 48) := C
  show z_W X M 0 0 0 [(0, .ref x), (1, .int pane)] []
  refine z_aload_n C dX3_back_0 rfl 0 rfl ?_
  refine z_iload_n C dX3_back_1 rfl 1 rfl ?_
  refine z_callXVr (rest := []) (k' := 1) (n' := 6) C (c_X3_paneOf_bad (z_l X) (z_G X) h_st h_x h_pa h_ip) (cs_X3_49 C (by decide)) h_x rfl rfl rfl rfl (Nat.le_of_ble_eq_true rfl) rfl rfl (by decide) (by decide) dX3_back_2 (fun E M' hq => ?_) (fun x2 M' hq => ?_)
  · obtain ⟨cx2_0, rfl, rfl⟩ | ⟨cx2_0, rfl, rfl⟩ := hq
    · exact prp (Or.inl ⟨cx2_0, rfl, rfl⟩) (by decide) (by decide)
    · exact prp (Or.inr (⟨cx2_0, rfl, rfl⟩)) (by decide) (by decide)
  · skip
    exact hq.elim
set_option maxRecDepth 20000 in
theorem c_X3_back (l : Launch) (G : zG) (h_st : l.stackTraces = false) {M : zM} {x : Nat} {pane : Int32} {lr : Nat} {pa : Nat} {sp : Nat} {ln : Nat} {rf : Nat} {ac : Int32} {kn : Int32} {fr : Nat → Int32} {fp : Nat → Option Nat} {p : Nat} {ov : Nat} {sa : Int32} {cp : Int32} {po : Int32} {li : Int32} {mk : Int32} {rd : Int32} {i : Nat}  (h_x : M x = some (cMp lr pa sp ln rf ac kn)) (h_rf : M rf = some (aI G 6 fr)) (h_pa : M pa = some (aP G 6 fp)) (h_p : M p = some (cPn ov sa cp po li mk rd)) (h_ip : vp_in pane 6) (h_ij : pane.toNatClampNeg = i) (h_fp : fp i = some p) : z_Xi l G qX3_back (z_rm 12 8 48) [.ref x, .int pane] M (fun r M' => ((¬ (z_hm mk) = 0) ∧ (mk ≤ mk) ∧ r = (po - mk) ∧ M' = z_up (z_up M p (cPn ov sa cp mk li mk rd)) x (cMp lr pa sp ln rf (ac + 1) kn)) ∨ ((¬ (z_hm mk) = 0) ∧ (¬ mk ≤ mk) ∧ r = (po - mk) ∧ M' = z_up (z_up M p (cPn ov sa cp mk li (-1) rd)) x (cMp lr pa sp ln rf (ac + 1) kn)) ∨ (((z_hm mk) = 0) ∧ r = (-9) ∧ M' = z_up M rf (aI G 6 (upd fr 3 ((fr 3) + 1))))) (fun E M' => False) := by
  refine z_Xi_of _ _ h_st rfl rfl (Nat.le_of_ble_eq_true rfl) (fun X hl hG C ret thr prp => ?_)
  subst hl; subst hG
  have C : z_C X cX3_back RX3 4 (z_rm 12 8 48) := C
  show z_W X M 0 0 0 [(0, .ref x), (1, .int pane)] []
  refine z_aload_n C dX3_back_0 rfl 0 rfl ?_
  refine z_iload_n C dX3_back_1 rfl 1 rfl ?_
  refine z_callXVr (rest := []) (k' := 1) (n' := 6) C (c_X3_paneOf (z_l X) (z_G X) h_st h_x h_pa h_p h_ip h_ij h_fp) (cs_X3_49 C (by decide)) h_x rfl rfl rfl rfl (Nat.le_of_ble_eq_true rfl) rfl rfl (by decide) (by decide) dX3_back_2 (fun E M' hq => ?_) (fun x2 M' hq => ?_)
  · exact hq.elim
  · skip
    obtain ⟨hr2, rfl⟩ := hq
    rw [hr2]
    refine z_astore_n (lv' := [(2, .ref p), (0, .ref x), (1, .int pane)]) C dX3_back_5 rfl (by decide) rfl ?_
    refine z_aload_n C dX3_back_6 rfl 0 rfl ?_
    refine z_callVi (rest := []) (k' := 1) (n' := 6) C (c_X1_hasMark (z_l X) (z_G X) h_p) (cs_X3_109 C (by decide)) h_p rfl rfl rfl rfl (Nat.le_of_ble_eq_true rfl) rfl rfl (by decide) (by decide) dX3_back_7 (fun x7 M' hq => ?_)
    obtain ⟨rfl, rfl⟩ := hq
    refine z_if_ne C (tgt := 19) dX3_back_10 (by decide) (fun c10 => ?_) (fun c10 => ?_)
    · refine z_aload_n C dX3_back_19 rfl 0 rfl ?_
      refine gf_X3_60 C h_p dX3_back_20 ?_
      refine z_aload_n C dX3_back_23 rfl 0 rfl ?_
      refine gf_X3_106 C h_p dX3_back_24 ?_
      refine z_isub C dX3_back_27 ?_
      refine z_istore_n (lv' := [(3, .int (po - mk)), (2, .ref p), (0, .ref x), (1, .int pane)]) C dX3_back_28 rfl (by decide) rfl ?_
      refine z_aload_n C dX3_back_29 rfl 1 rfl ?_
      refine z_aload_n C dX3_back_30 rfl 1 rfl ?_
      refine gf_X3_106 C h_p dX3_back_31 ?_
      refine z_callVv (rest := []) (k' := 1) (n' := 6) C (c_X1_moveTo (z_l X) (z_G X) h_p) (cs_X3_97 C (by decide)) h_p rfl rfl rfl rfl (Nat.le_of_ble_eq_true rfl) rfl rfl (by decide) (by decide) dX3_back_34 (fun M' hq => ?_)
      obtain ⟨d34_0, rfl⟩ | ⟨d34_0, rfl⟩ := hq
      · refine z_aload_n C dX3_back_37 rfl 2 rfl ?_
        refine z_iload_n C dX3_back_38 rfl 0 rfl ?_
        refine z_callVi (rest := []) (k' := 1) (n' := 6) C (c_X3_done (z_l X) (z_G X) ((z_up_n _ _ (z_ne h_x h_p (by intro h; cases h))).trans h_x)) (cs_X3_66 C (by decide)) ((z_up_n _ _ (z_ne h_x h_p (by intro h; cases h))).trans h_x) rfl rfl rfl rfl (Nat.le_of_ble_eq_true rfl) rfl rfl (by decide) (by decide) dX3_back_39 (fun x39 M' hq => ?_)
        obtain ⟨rfl, rfl⟩ := hq
        exact ret dX3_back_42 rfl (Or.inl ⟨c10, d34_0, rfl, rfl⟩) (by decide) (by decide)
      · refine z_aload_n C dX3_back_37 rfl 2 rfl ?_
        refine z_iload_n C dX3_back_38 rfl 0 rfl ?_
        refine z_callVi (rest := []) (k' := 1) (n' := 6) C (c_X3_done (z_l X) (z_G X) ((z_up_n _ _ (z_ne h_x h_p (by intro h; cases h))).trans h_x)) (cs_X3_66 C (by decide)) ((z_up_n _ _ (z_ne h_x h_p (by intro h; cases h))).trans h_x) rfl rfl rfl rfl (Nat.le_of_ble_eq_true rfl) rfl rfl (by decide) (by decide) dX3_back_39 (fun x39 M' hq => ?_)
        obtain ⟨rfl, rfl⟩ := hq
        exact ret dX3_back_42 rfl (Or.inr (Or.inl ⟨c10, d34_0, rfl, rfl⟩)) (by decide) (by decide)
    · refine z_aload_n C dX3_back_13 rfl 1 rfl ?_
      refine z_iconst C (v := 3) dX3_back_14 (by decide) ?_
      refine z_callVi (rest := []) (k' := 1) (n' := 6) C (c_X3_refuse (z_l X) (z_G X) h_x h_rf (z_inL (by decide)) (show (3 : Int32).toNatClampNeg = 3 by decide)) (cs_X3_86 C (by decide)) h_x rfl rfl rfl rfl (Nat.le_of_ble_eq_true rfl) rfl rfl (by decide) (by decide) dX3_back_15 (fun x15 M' hq => ?_)
      obtain ⟨rfl, rfl⟩ := hq
      exact ret dX3_back_18 rfl (Or.inr (Or.inr (⟨c10, rfl, rfl⟩))) (by decide) (by decide)
set_option maxRecDepth 20000 in
theorem c_X3_clear_bad (l : Launch) (G : zG) (h_st : l.stackTraces = false) {M : zM} {x : Nat} {pane : Int32} {lr : Nat} {pa : Nat} {sp : Nat} {ln : Nat} {rf : Nat} {ac : Int32} {kn : Int32} {fp : Nat → Option Nat}  (h_x : M x = some (cMp lr pa sp ln rf ac kn)) (h_pa : M pa = some (aP G 6 fp)) (h_ip : ¬ vp_in pane 6) : z_Xi l G qX3_clear (z_rm 12 8 48) [.ref x, .int pane] M (fun r M' => False) (fun E M' => ((pane < 0) ∧ E = "java/lang/IndexOutOfBoundsException" ∧ M' = M) ∨ ((¬ pane < 0) ∧ E = "java/lang/IndexOutOfBoundsException" ∧ M' = M)) := by
  refine z_Xi_of _ _ h_st rfl rfl (Nat.le_of_ble_eq_true rfl) (fun X hl hG C ret thr prp => ?_)
  subst hl; subst hG
  have C : z_C X cX3_clear RX3 3 (z_rm 12 8 48) := C
  show z_W X M 0 0 0 [(0, .ref x), (1, .int pane)] []
  refine z_aload_n C dX3_clear_0 rfl 0 rfl ?_
  refine z_iload_n C dX3_clear_1 rfl 1 rfl ?_
  refine z_callXVr (rest := []) (k' := 1) (n' := 6) C (c_X3_paneOf_bad (z_l X) (z_G X) h_st h_x h_pa h_ip) (cs_X3_49 C (by decide)) h_x rfl rfl rfl rfl (Nat.le_of_ble_eq_true rfl) rfl rfl (by decide) (by decide) dX3_clear_2 (fun E M' hq => ?_) (fun x2 M' hq => ?_)
  · obtain ⟨cx2_0, rfl, rfl⟩ | ⟨cx2_0, rfl, rfl⟩ := hq
    · exact prp (Or.inl ⟨cx2_0, rfl, rfl⟩) (by decide) (by decide)
    · exact prp (Or.inr (⟨cx2_0, rfl, rfl⟩)) (by decide) (by decide)
  · skip
    exact hq.elim
set_option maxRecDepth 20000 in
theorem c_X3_clear (l : Launch) (G : zG) (h_st : l.stackTraces = false) {M : zM} {x : Nat} {pane : Int32} {lr : Nat} {pa : Nat} {sp : Nat} {ln : Nat} {rf : Nat} {ac : Int32} {kn : Int32} {fr : Nat → Int32} {fp : Nat → Option Nat} {p : Nat} {ov : Nat} {sa : Int32} {cp : Int32} {po : Int32} {li : Int32} {mk : Int32} {rd : Int32} {i : Nat}  (h_x : M x = some (cMp lr pa sp ln rf ac kn)) (h_rf : M rf = some (aI G 6 fr)) (h_pa : M pa = some (aP G 6 fp)) (h_p : M p = some (cPn ov sa cp po li mk rd)) (h_ip : vp_in pane 6) (h_ij : pane.toNatClampNeg = i) (h_fp : fp i = some p) : z_Xi l G qX3_clear (z_rm 12 8 48) [.ref x, .int pane] M (fun r M' => r = (cp - 0) ∧ M' = z_up (z_up M p (cPn ov sa cp 0 cp (-1) rd)) x (cMp lr pa sp ln rf (ac + 1) kn)) (fun E M' => False) := by
  refine z_Xi_of _ _ h_st rfl rfl (Nat.le_of_ble_eq_true rfl) (fun X hl hG C ret thr prp => ?_)
  subst hl; subst hG
  have C : z_C X cX3_clear RX3 3 (z_rm 12 8 48) := C
  show z_W X M 0 0 0 [(0, .ref x), (1, .int pane)] []
  refine z_aload_n C dX3_clear_0 rfl 0 rfl ?_
  refine z_iload_n C dX3_clear_1 rfl 1 rfl ?_
  refine z_callXVr (rest := []) (k' := 1) (n' := 6) C (c_X3_paneOf (z_l X) (z_G X) h_st h_x h_pa h_p h_ip h_ij h_fp) (cs_X3_49 C (by decide)) h_x rfl rfl rfl rfl (Nat.le_of_ble_eq_true rfl) rfl rfl (by decide) (by decide) dX3_clear_2 (fun E M' hq => ?_) (fun x2 M' hq => ?_)
  · exact hq.elim
  · skip
    obtain ⟨hr2, rfl⟩ := hq
    rw [hr2]
    refine z_astore_n (lv' := [(2, .ref p), (0, .ref x), (1, .int pane)]) C dX3_clear_5 rfl (by decide) rfl ?_
    refine z_aload_n C dX3_clear_6 rfl 0 rfl ?_
    refine z_aload_n C dX3_clear_7 rfl 0 rfl ?_
    refine gf_X3_100 C h_p dX3_clear_8 ?_
    refine z_callVv (rest := []) (k' := 1) (n' := 6) C (c_X1_beginAgain (z_l X) (z_G X) h_p) (cs_X3_113 C (by decide)) h_p rfl rfl rfl rfl (Nat.le_of_ble_eq_true rfl) rfl rfl (by decide) (by decide) dX3_clear_11 (fun M' hq => ?_)
    obtain rfl := hq
    refine z_aload_n C dX3_clear_14 rfl 1 rfl ?_
    refine z_aload_n C dX3_clear_15 rfl 0 rfl ?_
    refine z_callVi (rest := [.ref x]) (k' := 1) (n' := 6) C (c_X1_left (z_l X) (z_G X) (z_up_s _ _ _)) (cs_X3_74 C (by decide)) (z_up_s _ _ _) rfl rfl rfl rfl (Nat.le_of_ble_eq_true rfl) rfl rfl (by decide) (by decide) dX3_clear_16 (fun x16 M' hq => ?_)
    obtain ⟨rfl, rfl⟩ := hq
    refine z_callVi (rest := []) (k' := 1) (n' := 6) C (c_X3_done (z_l X) (z_G X) ((z_up_n _ _ (z_ne h_x h_p (by intro h; cases h))).trans h_x)) (cs_X3_66 C (by decide)) ((z_up_n _ _ (z_ne h_x h_p (by intro h; cases h))).trans h_x) rfl rfl rfl rfl (Nat.le_of_ble_eq_true rfl) rfl rfl (by decide) (by decide) dX3_clear_19 (fun x19 M' hq => ?_)
    obtain ⟨rfl, rfl⟩ := hq
    exact ret dX3_clear_22 rfl (⟨rfl, rfl⟩) (by decide) (by decide)
set_option maxRecDepth 20000 in
theorem c_X3_flip_bad (l : Launch) (G : zG) (h_st : l.stackTraces = false) {M : zM} {x : Nat} {pane : Int32} {lr : Nat} {pa : Nat} {sp : Nat} {ln : Nat} {rf : Nat} {ac : Int32} {kn : Int32} {fp : Nat → Option Nat}  (h_x : M x = some (cMp lr pa sp ln rf ac kn)) (h_pa : M pa = some (aP G 6 fp)) (h_ip : ¬ vp_in pane 6) : z_Xi l G qX3_flip (z_rm 12 8 48) [.ref x, .int pane] M (fun r M' => False) (fun E M' => ((pane < 0) ∧ E = "java/lang/IndexOutOfBoundsException" ∧ M' = M) ∨ ((¬ pane < 0) ∧ E = "java/lang/IndexOutOfBoundsException" ∧ M' = M)) := by
  refine z_Xi_of _ _ h_st rfl rfl (Nat.le_of_ble_eq_true rfl) (fun X hl hG C ret thr prp => ?_)
  subst hl; subst hG
  have C : z_C X cX3_flip RX3 3 (z_rm 12 8 48) := C
  show z_W X M 0 0 0 [(0, .ref x), (1, .int pane)] []
  refine z_aload_n C dX3_flip_0 rfl 0 rfl ?_
  refine z_iload_n C dX3_flip_1 rfl 1 rfl ?_
  refine z_callXVr (rest := []) (k' := 1) (n' := 6) C (c_X3_paneOf_bad (z_l X) (z_G X) h_st h_x h_pa h_ip) (cs_X3_49 C (by decide)) h_x rfl rfl rfl rfl (Nat.le_of_ble_eq_true rfl) rfl rfl (by decide) (by decide) dX3_flip_2 (fun E M' hq => ?_) (fun x2 M' hq => ?_)
  · obtain ⟨cx2_0, rfl, rfl⟩ | ⟨cx2_0, rfl, rfl⟩ := hq
    · exact prp (Or.inl ⟨cx2_0, rfl, rfl⟩) (by decide) (by decide)
    · exact prp (Or.inr (⟨cx2_0, rfl, rfl⟩)) (by decide) (by decide)
  · skip
    exact hq.elim
set_option maxRecDepth 20000 in
theorem c_X3_flip (l : Launch) (G : zG) (h_st : l.stackTraces = false) {M : zM} {x : Nat} {pane : Int32} {lr : Nat} {pa : Nat} {sp : Nat} {ln : Nat} {rf : Nat} {ac : Int32} {kn : Int32} {fr : Nat → Int32} {fp : Nat → Option Nat} {p : Nat} {ov : Nat} {sa : Int32} {cp : Int32} {po : Int32} {li : Int32} {mk : Int32} {rd : Int32} {i : Nat}  (h_x : M x = some (cMp lr pa sp ln rf ac kn)) (h_rf : M rf = some (aI G 6 fr)) (h_pa : M pa = some (aP G 6 fp)) (h_p : M p = some (cPn ov sa cp po li mk rd)) (h_ip : vp_in pane 6) (h_ij : pane.toNatClampNeg = i) (h_fp : fp i = some p) : z_Xi l G qX3_flip (z_rm 12 8 48) [.ref x, .int pane] M (fun r M' => r = (po - 0) ∧ M' = z_up (z_up M p (cPn ov sa cp 0 po (-1) rd)) x (cMp lr pa sp ln rf (ac + 1) kn)) (fun E M' => False) := by
  refine z_Xi_of _ _ h_st rfl rfl (Nat.le_of_ble_eq_true rfl) (fun X hl hG C ret thr prp => ?_)
  subst hl; subst hG
  have C : z_C X cX3_flip RX3 3 (z_rm 12 8 48) := C
  show z_W X M 0 0 0 [(0, .ref x), (1, .int pane)] []
  refine z_aload_n C dX3_flip_0 rfl 0 rfl ?_
  refine z_iload_n C dX3_flip_1 rfl 1 rfl ?_
  refine z_callXVr (rest := []) (k' := 1) (n' := 6) C (c_X3_paneOf (z_l X) (z_G X) h_st h_x h_pa h_p h_ip h_ij h_fp) (cs_X3_49 C (by decide)) h_x rfl rfl rfl rfl (Nat.le_of_ble_eq_true rfl) rfl rfl (by decide) (by decide) dX3_flip_2 (fun E M' hq => ?_) (fun x2 M' hq => ?_)
  · exact hq.elim
  · skip
    obtain ⟨hr2, rfl⟩ := hq
    rw [hr2]
    refine z_astore_n (lv' := [(2, .ref p), (0, .ref x), (1, .int pane)]) C dX3_flip_5 rfl (by decide) rfl ?_
    refine z_aload_n C dX3_flip_6 rfl 0 rfl ?_
    refine z_aload_n C dX3_flip_7 rfl 0 rfl ?_
    refine gf_X3_60 C h_p dX3_flip_8 ?_
    refine z_callVv (rest := []) (k' := 1) (n' := 6) C (c_X1_beginAgain (z_l X) (z_G X) h_p) (cs_X3_113 C (by decide)) h_p rfl rfl rfl rfl (Nat.le_of_ble_eq_true rfl) rfl rfl (by decide) (by decide) dX3_flip_11 (fun M' hq => ?_)
    obtain rfl := hq
    refine z_aload_n C dX3_flip_14 rfl 1 rfl ?_
    refine z_aload_n C dX3_flip_15 rfl 0 rfl ?_
    refine z_callVi (rest := [.ref x]) (k' := 1) (n' := 6) C (c_X1_left (z_l X) (z_G X) (z_up_s _ _ _)) (cs_X3_74 C (by decide)) (z_up_s _ _ _) rfl rfl rfl rfl (Nat.le_of_ble_eq_true rfl) rfl rfl (by decide) (by decide) dX3_flip_16 (fun x16 M' hq => ?_)
    obtain ⟨rfl, rfl⟩ := hq
    refine z_callVi (rest := []) (k' := 1) (n' := 6) C (c_X3_done (z_l X) (z_G X) ((z_up_n _ _ (z_ne h_x h_p (by intro h; cases h))).trans h_x)) (cs_X3_66 C (by decide)) ((z_up_n _ _ (z_ne h_x h_p (by intro h; cases h))).trans h_x) rfl rfl rfl rfl (Nat.le_of_ble_eq_true rfl) rfl rfl (by decide) (by decide) dX3_flip_19 (fun x19 M' hq => ?_)
    obtain ⟨rfl, rfl⟩ := hq
    exact ret dX3_flip_22 rfl (⟨rfl, rfl⟩) (by decide) (by decide)
set_option maxRecDepth 20000 in
theorem c_X3_rewind_bad (l : Launch) (G : zG) (h_st : l.stackTraces = false) {M : zM} {x : Nat} {pane : Int32} {lr : Nat} {pa : Nat} {sp : Nat} {ln : Nat} {rf : Nat} {ac : Int32} {kn : Int32} {fp : Nat → Option Nat}  (h_x : M x = some (cMp lr pa sp ln rf ac kn)) (h_pa : M pa = some (aP G 6 fp)) (h_ip : ¬ vp_in pane 6) : z_Xi l G qX3_rewind (z_rm 12 8 48) [.ref x, .int pane] M (fun r M' => False) (fun E M' => ((pane < 0) ∧ E = "java/lang/IndexOutOfBoundsException" ∧ M' = M) ∨ ((¬ pane < 0) ∧ E = "java/lang/IndexOutOfBoundsException" ∧ M' = M)) := by
  refine z_Xi_of _ _ h_st rfl rfl (Nat.le_of_ble_eq_true rfl) (fun X hl hG C ret thr prp => ?_)
  subst hl; subst hG
  have C : z_C X cX3_rewind RX3 3 (z_rm 12 8 48) := C
  show z_W X M 0 0 0 [(0, .ref x), (1, .int pane)] []
  refine z_aload_n C dX3_rewind_0 rfl 0 rfl ?_
  refine z_iload_n C dX3_rewind_1 rfl 1 rfl ?_
  refine z_callXVr (rest := []) (k' := 1) (n' := 6) C (c_X3_paneOf_bad (z_l X) (z_G X) h_st h_x h_pa h_ip) (cs_X3_49 C (by decide)) h_x rfl rfl rfl rfl (Nat.le_of_ble_eq_true rfl) rfl rfl (by decide) (by decide) dX3_rewind_2 (fun E M' hq => ?_) (fun x2 M' hq => ?_)
  · obtain ⟨cx2_0, rfl, rfl⟩ | ⟨cx2_0, rfl, rfl⟩ := hq
    · exact prp (Or.inl ⟨cx2_0, rfl, rfl⟩) (by decide) (by decide)
    · exact prp (Or.inr (⟨cx2_0, rfl, rfl⟩)) (by decide) (by decide)
  · skip
    exact hq.elim
set_option maxRecDepth 20000 in
theorem c_X3_rewind (l : Launch) (G : zG) (h_st : l.stackTraces = false) {M : zM} {x : Nat} {pane : Int32} {lr : Nat} {pa : Nat} {sp : Nat} {ln : Nat} {rf : Nat} {ac : Int32} {kn : Int32} {fr : Nat → Int32} {fp : Nat → Option Nat} {p : Nat} {ov : Nat} {sa : Int32} {cp : Int32} {po : Int32} {li : Int32} {mk : Int32} {rd : Int32} {i : Nat}  (h_x : M x = some (cMp lr pa sp ln rf ac kn)) (h_rf : M rf = some (aI G 6 fr)) (h_pa : M pa = some (aP G 6 fp)) (h_p : M p = some (cPn ov sa cp po li mk rd)) (h_ip : vp_in pane 6) (h_ij : pane.toNatClampNeg = i) (h_fp : fp i = some p) : z_Xi l G qX3_rewind (z_rm 12 8 48) [.ref x, .int pane] M (fun r M' => r = (li - 0) ∧ M' = z_up (z_up M p (cPn ov sa cp 0 li (-1) rd)) x (cMp lr pa sp ln rf (ac + 1) kn)) (fun E M' => False) := by
  refine z_Xi_of _ _ h_st rfl rfl (Nat.le_of_ble_eq_true rfl) (fun X hl hG C ret thr prp => ?_)
  subst hl; subst hG
  have C : z_C X cX3_rewind RX3 3 (z_rm 12 8 48) := C
  show z_W X M 0 0 0 [(0, .ref x), (1, .int pane)] []
  refine z_aload_n C dX3_rewind_0 rfl 0 rfl ?_
  refine z_iload_n C dX3_rewind_1 rfl 1 rfl ?_
  refine z_callXVr (rest := []) (k' := 1) (n' := 6) C (c_X3_paneOf (z_l X) (z_G X) h_st h_x h_pa h_p h_ip h_ij h_fp) (cs_X3_49 C (by decide)) h_x rfl rfl rfl rfl (Nat.le_of_ble_eq_true rfl) rfl rfl (by decide) (by decide) dX3_rewind_2 (fun E M' hq => ?_) (fun x2 M' hq => ?_)
  · exact hq.elim
  · skip
    obtain ⟨hr2, rfl⟩ := hq
    rw [hr2]
    refine z_astore_n (lv' := [(2, .ref p), (0, .ref x), (1, .int pane)]) C dX3_rewind_5 rfl (by decide) rfl ?_
    refine z_aload_n C dX3_rewind_6 rfl 0 rfl ?_
    refine z_aload_n C dX3_rewind_7 rfl 0 rfl ?_
    refine gf_X3_63 C h_p dX3_rewind_8 ?_
    refine z_callVv (rest := []) (k' := 1) (n' := 6) C (c_X1_beginAgain (z_l X) (z_G X) h_p) (cs_X3_113 C (by decide)) h_p rfl rfl rfl rfl (Nat.le_of_ble_eq_true rfl) rfl rfl (by decide) (by decide) dX3_rewind_11 (fun M' hq => ?_)
    obtain rfl := hq
    refine z_aload_n C dX3_rewind_14 rfl 1 rfl ?_
    refine z_aload_n C dX3_rewind_15 rfl 0 rfl ?_
    refine z_callVi (rest := [.ref x]) (k' := 1) (n' := 6) C (c_X1_left (z_l X) (z_G X) (z_up_s _ _ _)) (cs_X3_74 C (by decide)) (z_up_s _ _ _) rfl rfl rfl rfl (Nat.le_of_ble_eq_true rfl) rfl rfl (by decide) (by decide) dX3_rewind_16 (fun x16 M' hq => ?_)
    obtain ⟨rfl, rfl⟩ := hq
    refine z_callVi (rest := []) (k' := 1) (n' := 6) C (c_X3_done (z_l X) (z_G X) ((z_up_n _ _ (z_ne h_x h_p (by intro h; cases h))).trans h_x)) (cs_X3_66 C (by decide)) ((z_up_n _ _ (z_ne h_x h_p (by intro h; cases h))).trans h_x) rfl rfl rfl rfl (Nat.le_of_ble_eq_true rfl) rfl rfl (by decide) (by decide) dX3_rewind_19 (fun x19 M' hq => ?_)
    obtain ⟨rfl, rfl⟩ := hq
    exact ret dX3_rewind_22 rfl (⟨rfl, rfl⟩) (by decide) (by decide)
set_option maxRecDepth 20000 in
theorem c_X3_put_bad (l : Launch) (G : zG) (h_st : l.stackTraces = false) {M : zM} {x : Nat} {pane : Int32} {v : Int32} {lr : Nat} {pa : Nat} {sp : Nat} {ln : Nat} {rf : Nat} {ac : Int32} {kn : Int32} {fp : Nat → Option Nat}  (h_x : M x = some (cMp lr pa sp ln rf ac kn)) (h_pa : M pa = some (aP G 6 fp)) (h_ip : ¬ vp_in pane 6) : z_Xi l G qX3_put (z_rm 12 8 48) [.ref x, .int pane, .int v] M (fun r M' => False) (fun E M' => ((pane < 0) ∧ E = "java/lang/IndexOutOfBoundsException" ∧ M' = M) ∨ ((¬ pane < 0) ∧ E = "java/lang/IndexOutOfBoundsException" ∧ M' = M)) := by
  refine z_Xi_of _ _ h_st rfl rfl (Nat.le_of_ble_eq_true rfl) (fun X hl hG C ret thr prp => ?_)
  subst hl; subst hG
  have C : z_C X cX3_put RX3 4 (z_rm 12 8 48) := C
  show z_W X M 0 0 0 [(0, .ref x), (1, .int pane), (2, .int v)] []
  refine z_aload_n C dX3_put_0 rfl 0 rfl ?_
  refine z_iload_n C dX3_put_1 rfl 1 rfl ?_
  refine z_callXVr (rest := []) (k' := 1) (n' := 6) C (c_X3_paneOf_bad (z_l X) (z_G X) h_st h_x h_pa h_ip) (cs_X3_49 C (by decide)) h_x rfl rfl rfl rfl (Nat.le_of_ble_eq_true rfl) rfl rfl (by decide) (by decide) dX3_put_2 (fun E M' hq => ?_) (fun x2 M' hq => ?_)
  · obtain ⟨cx2_0, rfl, rfl⟩ | ⟨cx2_0, rfl, rfl⟩ := hq
    · exact prp (Or.inl ⟨cx2_0, rfl, rfl⟩) (by decide) (by decide)
    · exact prp (Or.inr (⟨cx2_0, rfl, rfl⟩)) (by decide) (by decide)
  · skip
    exact hq.elim
set_option maxRecDepth 20000 in
theorem c_X3_put (l : Launch) (G : zG) (h_st : l.stackTraces = false) {M : zM} {x : Nat} {pane : Int32} {v : Int32} {lr : Nat} {pa : Nat} {sp : Nat} {ln : Nat} {rf : Nat} {ac : Int32} {kn : Int32} {fr : Nat → Int32} {fp : Nat → Option Nat} {p : Nat} {ov : Nat} {sa : Int32} {cp : Int32} {po : Int32} {li : Int32} {mk : Int32} {rd : Int32} {vs : Nat} {nv : Nat} {fv : Nat → Int32} {i : Nat}  (h_x : M x = some (cMp lr pa sp ln rf ac kn)) (h_rf : M rf = some (aI G 6 fr)) (h_pa : M pa = some (aP G 6 fp)) (h_p : M p = some (cPn ov sa cp po li mk rd)) (h_ov : M ov = some (cRw vs)) (h_vs : M vs = some (aI G nv fv)) (h_ip : vp_in pane 6) (h_ij : pane.toNatClampNeg = i) (h_fp : fp i = some p) (n_vs_rf : vs ≠ rf) (h_ow : z_ow sa cp po li nv) : z_Xi l G qX3_put (z_rm 12 8 48) [.ref x, .int pane, .int v] M (fun r M' => ((0 ≤ v) ∧ (rd = 0) ∧ (0 < (li - po)) ∧ r = (po + 1) ∧ M' = z_up (z_up (z_up M vs (aI G nv (upd fv (sa + po).toNatClampNeg v))) p (cPn ov sa cp (po + 1) li mk rd)) x (cMp lr pa sp ln rf (ac + 1) kn)) ∨ ((0 ≤ v) ∧ (rd = 0) ∧ (¬ 0 < (li - po)) ∧ r = (-9) ∧ M' = z_up M rf (aI G 6 (upd fr 1 ((fr 1) + 1)))) ∨ ((0 ≤ v) ∧ (¬ rd = 0) ∧ r = (-9) ∧ M' = z_up M rf (aI G 6 (upd fr 4 ((fr 4) + 1))))) (fun E M' => (¬ 0 ≤ v) ∧ E = "java/lang/IllegalArgumentException" ∧ M' = M) := by
  refine z_Xi_of _ _ h_st rfl rfl (Nat.le_of_ble_eq_true rfl) (fun X hl hG C ret thr prp => ?_)
  subst hl; subst hG
  have C : z_C X cX3_put RX3 4 (z_rm 12 8 48) := C
  show z_W X M 0 0 0 [(0, .ref x), (1, .int pane), (2, .int v)] []
  refine z_aload_n C dX3_put_0 rfl 0 rfl ?_
  refine z_iload_n C dX3_put_1 rfl 1 rfl ?_
  refine z_callXVr (rest := []) (k' := 1) (n' := 6) C (c_X3_paneOf (z_l X) (z_G X) h_st h_x h_pa h_p h_ip h_ij h_fp) (cs_X3_49 C (by decide)) h_x rfl rfl rfl rfl (Nat.le_of_ble_eq_true rfl) rfl rfl (by decide) (by decide) dX3_put_2 (fun E M' hq => ?_) (fun x2 M' hq => ?_)
  · exact hq.elim
  · skip
    obtain ⟨hr2, rfl⟩ := hq
    rw [hr2]
    refine z_astore_n (lv' := [(3, .ref p), (0, .ref x), (1, .int pane), (2, .int v)]) C dX3_put_5 rfl (by decide) rfl ?_
    refine z_iload_n C dX3_put_6 rfl 3 rfl ?_
    refine z_callXSv (rest := []) (k' := 2) (n' := 12) C (c_X3_needValue (z_l X) (z_G X) h_st) (cs_X3_116 C (by decide)) rfl rfl (Nat.le_of_ble_eq_true rfl) rfl rfl (by decide) (by decide) dX3_put_7 (fun E M' hq => ?_) (fun M' hq => ?_)
    · obtain ⟨cx7_0, rfl, rfl⟩ := hq
      exact prp (⟨cx7_0, rfl, rfl⟩) (by decide) (by decide)
    · skip
      obtain ⟨d7_0, rfl⟩ := hq
      refine z_aload_n C dX3_put_10 rfl 1 rfl ?_
      refine z_aload_n C dX3_put_11 rfl 0 rfl ?_
      refine z_iload_n C dX3_put_12 rfl 3 rfl ?_
      refine z_callVi (rest := []) (k' := 2) (n' := 12) C (c_X3_tryPut (z_l X) (z_G X) h_x h_rf h_p h_ov h_vs n_vs_rf h_ow) (cs_X3_119 C (by decide)) h_x rfl rfl rfl rfl (Nat.le_of_ble_eq_true rfl) rfl rfl (by decide) (by decide) dX3_put_13 (fun x13 M' hq => ?_)
      obtain ⟨d13_0, d13_1, rfl, rfl⟩ | ⟨d13_0, d13_1, rfl, rfl⟩ | ⟨d13_0, rfl, rfl⟩ := hq
      · refine z_if_ne C (tgt := 22) dX3_put_16 (by decide) (fun _ => ?_) (fun c16 => absurd c16 (by decide))
        refine z_aload_n C dX3_put_22 rfl 1 rfl ?_
        refine z_aload_n C dX3_put_23 rfl 0 rfl ?_
        refine gf_X3_60 C (z_up_s _ _ _) dX3_put_24 ?_
        refine z_callVi (rest := []) (k' := 2) (n' := 12) C (c_X3_done (z_l X) (z_G X) ((z_up_n _ _ (z_ne h_x h_p (by intro h; cases h))).trans ((z_up_n _ _ (z_ne h_x h_vs (by intro h; cases h))).trans h_x))) (cs_X3_66 C (by decide)) ((z_up_n _ _ (z_ne h_x h_p (by intro h; cases h))).trans ((z_up_n _ _ (z_ne h_x h_vs (by intro h; cases h))).trans h_x)) rfl rfl rfl rfl (Nat.le_of_ble_eq_true rfl) rfl rfl (by decide) (by decide) dX3_put_27 (fun x27 M' hq => ?_)
        obtain ⟨rfl, rfl⟩ := hq
        exact ret dX3_put_30 rfl (Or.inl ⟨d7_0, d13_0, d13_1, rfl, rfl⟩) (by decide) (by decide)
      · refine z_if_ne C (tgt := 22) dX3_put_16 (by decide) (fun c16 => absurd (by decide) c16) (fun _ => ?_)
        refine z_bipush C (v := (-9)) dX3_put_19 (by decide) ?_
        exact ret dX3_put_21 rfl (Or.inr (Or.inl ⟨d7_0, d13_0, d13_1, rfl, rfl⟩)) (by decide) (by decide)
      · refine z_if_ne C (tgt := 22) dX3_put_16 (by decide) (fun c16 => absurd (by decide) c16) (fun _ => ?_)
        refine z_bipush C (v := (-9)) dX3_put_19 (by decide) ?_
        exact ret dX3_put_21 rfl (Or.inr (Or.inr (⟨d7_0, d13_0, rfl, rfl⟩))) (by decide) (by decide)
set_option maxRecDepth 20000 in
theorem c_X3_putAt_bad (l : Launch) (G : zG) (h_st : l.stackTraces = false) {M : zM} {x : Nat} {pane : Int32} {ix : Int32} {v : Int32} {lr : Nat} {pa : Nat} {sp : Nat} {ln : Nat} {rf : Nat} {ac : Int32} {kn : Int32} {fp : Nat → Option Nat}  (h_x : M x = some (cMp lr pa sp ln rf ac kn)) (h_pa : M pa = some (aP G 6 fp)) (h_ip : ¬ vp_in pane 6) : z_Xi l G qX3_putAt (z_rm 12 8 48) [.ref x, .int pane, .int ix, .int v] M (fun r M' => False) (fun E M' => ((pane < 0) ∧ E = "java/lang/IndexOutOfBoundsException" ∧ M' = M) ∨ ((¬ pane < 0) ∧ E = "java/lang/IndexOutOfBoundsException" ∧ M' = M)) := by
  refine z_Xi_of _ _ h_st rfl rfl (Nat.le_of_ble_eq_true rfl) (fun X hl hG C ret thr prp => ?_)
  subst hl; subst hG
  have C : z_C X cX3_putAt RX3 5 (z_rm 12 8 48) := C
  show z_W X M 0 0 0 [(0, .ref x), (1, .int pane), (2, .int ix), (3, .int v)] []
  refine z_aload_n C dX3_putAt_0 rfl 0 rfl ?_
  refine z_iload_n C dX3_putAt_1 rfl 1 rfl ?_
  refine z_callXVr (rest := []) (k' := 1) (n' := 6) C (c_X3_paneOf_bad (z_l X) (z_G X) h_st h_x h_pa h_ip) (cs_X3_49 C (by decide)) h_x rfl rfl rfl rfl (Nat.le_of_ble_eq_true rfl) rfl rfl (by decide) (by decide) dX3_putAt_2 (fun E M' hq => ?_) (fun x2 M' hq => ?_)
  · obtain ⟨cx2_0, rfl, rfl⟩ | ⟨cx2_0, rfl, rfl⟩ := hq
    · exact prp (Or.inl ⟨cx2_0, rfl, rfl⟩) (by decide) (by decide)
    · exact prp (Or.inr (⟨cx2_0, rfl, rfl⟩)) (by decide) (by decide)
  · skip
    exact hq.elim
set_option maxRecDepth 20000 in
theorem c_X3_putAt (l : Launch) (G : zG) (h_st : l.stackTraces = false) {M : zM} {x : Nat} {pane : Int32} {ix : Int32} {v : Int32} {lr : Nat} {pa : Nat} {sp : Nat} {ln : Nat} {rf : Nat} {ac : Int32} {kn : Int32} {fr : Nat → Int32} {fp : Nat → Option Nat} {p : Nat} {ov : Nat} {sa : Int32} {cp : Int32} {po : Int32} {li : Int32} {mk : Int32} {rd : Int32} {vs : Nat} {nv : Nat} {fv : Nat → Int32} {i : Nat}  (h_x : M x = some (cMp lr pa sp ln rf ac kn)) (h_rf : M rf = some (aI G 6 fr)) (h_pa : M pa = some (aP G 6 fp)) (h_p : M p = some (cPn ov sa cp po li mk rd)) (h_ov : M ov = some (cRw vs)) (h_vs : M vs = some (aI G nv fv)) (h_ip : vp_in pane 6) (h_ij : pane.toNatClampNeg = i) (h_fp : fp i = some p) (n_vs_rf : vs ≠ rf) (h_ow : z_ow sa cp po li nv) : z_Xi l G qX3_putAt (z_rm 12 8 48) [.ref x, .int pane, .int ix, .int v] M (fun r M' => ((0 ≤ v) ∧ (¬ (z_hi ix li) = 0) ∧ (rd = 0) ∧ r = (fv (sa + ix).toNatClampNeg) ∧ M' = z_up (z_up M vs (aI G nv (upd fv (sa + ix).toNatClampNeg v))) x (cMp lr pa sp ln rf (ac + 1) kn)) ∨ ((0 ≤ v) ∧ (¬ (z_hi ix li) = 0) ∧ (¬ rd = 0) ∧ r = (-9) ∧ M' = z_up M rf (aI G 6 (upd fr 4 ((fr 4) + 1)))) ∨ ((0 ≤ v) ∧ ((z_hi ix li) = 0) ∧ r = (-9) ∧ M' = z_up M rf (aI G 6 (upd fr 5 ((fr 5) + 1))))) (fun E M' => (¬ 0 ≤ v) ∧ E = "java/lang/IllegalArgumentException" ∧ M' = M) := by
  refine z_Xi_of _ _ h_st rfl rfl (Nat.le_of_ble_eq_true rfl) (fun X hl hG C ret thr prp => ?_)
  subst hl; subst hG
  have C : z_C X cX3_putAt RX3 5 (z_rm 12 8 48) := C
  show z_W X M 0 0 0 [(0, .ref x), (1, .int pane), (2, .int ix), (3, .int v)] []
  refine z_aload_n C dX3_putAt_0 rfl 0 rfl ?_
  refine z_iload_n C dX3_putAt_1 rfl 1 rfl ?_
  refine z_callXVr (rest := []) (k' := 1) (n' := 6) C (c_X3_paneOf (z_l X) (z_G X) h_st h_x h_pa h_p h_ip h_ij h_fp) (cs_X3_49 C (by decide)) h_x rfl rfl rfl rfl (Nat.le_of_ble_eq_true rfl) rfl rfl (by decide) (by decide) dX3_putAt_2 (fun E M' hq => ?_) (fun x2 M' hq => ?_)
  · exact hq.elim
  · skip
    obtain ⟨hr2, rfl⟩ := hq
    rw [hr2]
    refine z_astore (lv' := [(4, .ref p), (0, .ref x), (1, .int pane), (2, .int ix), (3, .int v)]) C dX3_putAt_5 (by decide) rfl ?_
    refine z_iload_n C dX3_putAt_7 rfl 4 rfl ?_
    refine z_callXSv (rest := []) (k' := 2) (n' := 12) C (c_X3_needValue (z_l X) (z_G X) h_st) (cs_X3_116 C (by decide)) rfl rfl (Nat.le_of_ble_eq_true rfl) rfl rfl (by decide) (by decide) dX3_putAt_8 (fun E M' hq => ?_) (fun M' hq => ?_)
    · obtain ⟨cx8_0, rfl, rfl⟩ := hq
      exact prp (⟨cx8_0, rfl, rfl⟩) (by decide) (by decide)
    · skip
      obtain ⟨d8_0, rfl⟩ := hq
      refine z_aload C dX3_putAt_11 0 rfl ?_
      refine z_iload_n C dX3_putAt_13 rfl 3 rfl ?_
      refine z_callVi (rest := []) (k' := 2) (n' := 12) C (c_X1_hasIndex (z_l X) (z_G X) h_p) (cs_X3_123 C (by decide)) h_p rfl rfl rfl rfl (Nat.le_of_ble_eq_true rfl) rfl rfl (by decide) (by decide) dX3_putAt_14 (fun x14 M' hq => ?_)
      obtain ⟨rfl, rfl⟩ := hq
      refine z_if_ne C (tgt := 26) dX3_putAt_17 (by decide) (fun c17 => ?_) (fun c17 => ?_)
      · refine z_aload C dX3_putAt_26 0 rfl ?_
        refine gf_X3_89 C h_p dX3_putAt_28 ?_
        refine z_if_eq C (tgt := 40) dX3_putAt_31 (by decide) (fun c31 => ?_) (fun c31 => ?_)
        · refine z_aload_n C dX3_putAt_40 rfl 1 rfl ?_
          refine z_aload C dX3_putAt_41 0 rfl ?_
          refine z_iload_n C dX3_putAt_43 rfl 3 rfl ?_
          refine z_iload_n C dX3_putAt_44 rfl 4 rfl ?_
          refine z_callVi (rest := [.ref x]) (k' := 2) (n' := 12) C (c_X1_replace (z_l X) (z_G X) h_p h_ov h_vs (z_owL h_ow c17) (z_owN h_ow)) (cs_X3_127 C (by decide)) h_p rfl rfl rfl rfl (Nat.le_of_ble_eq_true rfl) rfl rfl (by decide) (by decide) dX3_putAt_45 (fun x45 M' hq => ?_)
          obtain ⟨rfl, rfl⟩ := hq
          refine z_callVi (rest := []) (k' := 2) (n' := 12) C (c_X3_done (z_l X) (z_G X) ((z_up_n _ _ (z_ne h_x h_vs (by intro h; cases h))).trans h_x)) (cs_X3_66 C (by decide)) ((z_up_n _ _ (z_ne h_x h_vs (by intro h; cases h))).trans h_x) rfl rfl rfl rfl (Nat.le_of_ble_eq_true rfl) rfl rfl (by decide) (by decide) dX3_putAt_48 (fun x48 M' hq => ?_)
          obtain ⟨rfl, rfl⟩ := hq
          exact ret dX3_putAt_51 rfl (Or.inl ⟨d8_0, c17, c31, rfl, rfl⟩) (by decide) (by decide)
        · refine z_aload_n C dX3_putAt_34 rfl 1 rfl ?_
          refine z_iconst C (v := 4) dX3_putAt_35 (by decide) ?_
          refine z_callVi (rest := []) (k' := 2) (n' := 12) C (c_X3_refuse (z_l X) (z_G X) h_x h_rf (z_inL (by decide)) (show (4 : Int32).toNatClampNeg = 4 by decide)) (cs_X3_86 C (by decide)) h_x rfl rfl rfl rfl (Nat.le_of_ble_eq_true rfl) rfl rfl (by decide) (by decide) dX3_putAt_36 (fun x36 M' hq => ?_)
          obtain ⟨rfl, rfl⟩ := hq
          exact ret dX3_putAt_39 rfl (Or.inr (Or.inl ⟨d8_0, c17, c31, rfl, rfl⟩)) (by decide) (by decide)
      · refine z_aload_n C dX3_putAt_20 rfl 1 rfl ?_
        refine z_iconst C (v := 5) dX3_putAt_21 (by decide) ?_
        refine z_callVi (rest := []) (k' := 2) (n' := 12) C (c_X3_refuse (z_l X) (z_G X) h_x h_rf (z_inL (by decide)) (show (5 : Int32).toNatClampNeg = 5 by decide)) (cs_X3_86 C (by decide)) h_x rfl rfl rfl rfl (Nat.le_of_ble_eq_true rfl) rfl rfl (by decide) (by decide) dX3_putAt_22 (fun x22 M' hq => ?_)
        obtain ⟨rfl, rfl⟩ := hq
        exact ret dX3_putAt_25 rfl (Or.inr (Or.inr (⟨d8_0, c17, rfl, rfl⟩))) (by decide) (by decide)
set_option maxRecDepth 20000 in
theorem c_X3_reach_bad (l : Launch) (G : zG) (h_st : l.stackTraces = false) {M : zM} {x : Nat} {pane : Int32} {ix : Int32} {v : Int32} {lr : Nat} {pa : Nat} {sp : Nat} {ln : Nat} {rf : Nat} {ac : Int32} {kn : Int32} {fp : Nat → Option Nat}  (h_x : M x = some (cMp lr pa sp ln rf ac kn)) (h_pa : M pa = some (aP G 6 fp)) (h_ip : ¬ vp_in pane 6) : z_Xi l G qX3_reach (z_rm 12 8 48) [.ref x, .int pane, .int ix, .int v] M (fun r M' => False) (fun E M' => ((pane < 0) ∧ E = "java/lang/IndexOutOfBoundsException" ∧ M' = M) ∨ ((¬ pane < 0) ∧ E = "java/lang/IndexOutOfBoundsException" ∧ M' = M)) := by
  refine z_Xi_of _ _ h_st rfl rfl (Nat.le_of_ble_eq_true rfl) (fun X hl hG C ret thr prp => ?_)
  subst hl; subst hG
  have C : z_C X cX3_reach RX3 5 (z_rm 12 8 48) := C
  show z_W X M 0 0 0 [(0, .ref x), (1, .int pane), (2, .int ix), (3, .int v)] []
  refine z_aload_n C dX3_reach_0 rfl 0 rfl ?_
  refine z_iload_n C dX3_reach_1 rfl 1 rfl ?_
  refine z_callXVr (rest := []) (k' := 1) (n' := 6) C (c_X3_paneOf_bad (z_l X) (z_G X) h_st h_x h_pa h_ip) (cs_X3_49 C (by decide)) h_x rfl rfl rfl rfl (Nat.le_of_ble_eq_true rfl) rfl rfl (by decide) (by decide) dX3_reach_2 (fun E M' hq => ?_) (fun x2 M' hq => ?_)
  · obtain ⟨cx2_0, rfl, rfl⟩ | ⟨cx2_0, rfl, rfl⟩ := hq
    · exact prp (Or.inl ⟨cx2_0, rfl, rfl⟩) (by decide) (by decide)
    · exact prp (Or.inr (⟨cx2_0, rfl, rfl⟩)) (by decide) (by decide)
  · skip
    exact hq.elim
set_option maxRecDepth 20000 in
theorem c_X3_reach (l : Launch) (G : zG) (h_st : l.stackTraces = false) {M : zM} {x : Nat} {pane : Int32} {ix : Int32} {v : Int32} {lr : Nat} {pa : Nat} {sp : Nat} {ln : Nat} {rf : Nat} {ac : Int32} {kn : Int32} {fr : Nat → Int32} {fp : Nat → Option Nat} {p : Nat} {ov : Nat} {sa : Int32} {cp : Int32} {po : Int32} {li : Int32} {mk : Int32} {rd : Int32} {vs : Nat} {nv : Nat} {fv : Nat → Int32} {i : Nat}  (h_x : M x = some (cMp lr pa sp ln rf ac kn)) (h_rf : M rf = some (aI G 6 fr)) (h_pa : M pa = some (aP G 6 fp)) (h_p : M p = some (cPn ov sa cp po li mk rd)) (h_ov : M ov = some (cRw vs)) (h_vs : M vs = some (aI G nv fv)) (h_ip : vp_in pane 6) (h_ij : pane.toNatClampNeg = i) (h_fp : fp i = some p) (n_vs_rf : vs ≠ rf) (h_ow : z_ow sa cp po li nv) : z_Xi l G qX3_reach (z_rm 12 8 48) [.ref x, .int pane, .int ix, .int v] M (fun r M' => ((0 ≤ v) ∧ (rd = 0) ∧ (¬ (z_hi ix cp) = 0) ∧ r = (fv (sa + ix).toNatClampNeg) ∧ M' = z_up (z_up M vs (aI G nv (upd fv (sa + ix).toNatClampNeg v))) x (cMp lr pa sp ln rf (ac + 1) kn)) ∨ ((0 ≤ v) ∧ (rd = 0) ∧ ((z_hi ix cp) = 0) ∧ r = (-9) ∧ M' = z_up M rf (aI G 6 (upd fr 5 ((fr 5) + 1)))) ∨ ((0 ≤ v) ∧ (¬ rd = 0) ∧ r = (-9) ∧ M' = z_up M rf (aI G 6 (upd fr 4 ((fr 4) + 1))))) (fun E M' => (¬ 0 ≤ v) ∧ E = "java/lang/IllegalArgumentException" ∧ M' = M) := by
  refine z_Xi_of _ _ h_st rfl rfl (Nat.le_of_ble_eq_true rfl) (fun X hl hG C ret thr prp => ?_)
  subst hl; subst hG
  have C : z_C X cX3_reach RX3 5 (z_rm 12 8 48) := C
  show z_W X M 0 0 0 [(0, .ref x), (1, .int pane), (2, .int ix), (3, .int v)] []
  refine z_aload_n C dX3_reach_0 rfl 0 rfl ?_
  refine z_iload_n C dX3_reach_1 rfl 1 rfl ?_
  refine z_callXVr (rest := []) (k' := 1) (n' := 6) C (c_X3_paneOf (z_l X) (z_G X) h_st h_x h_pa h_p h_ip h_ij h_fp) (cs_X3_49 C (by decide)) h_x rfl rfl rfl rfl (Nat.le_of_ble_eq_true rfl) rfl rfl (by decide) (by decide) dX3_reach_2 (fun E M' hq => ?_) (fun x2 M' hq => ?_)
  · exact hq.elim
  · skip
    obtain ⟨hr2, rfl⟩ := hq
    rw [hr2]
    refine z_astore (lv' := [(4, .ref p), (0, .ref x), (1, .int pane), (2, .int ix), (3, .int v)]) C dX3_reach_5 (by decide) rfl ?_
    refine z_iload_n C dX3_reach_7 rfl 4 rfl ?_
    refine z_callXSv (rest := []) (k' := 2) (n' := 12) C (c_X3_needValue (z_l X) (z_G X) h_st) (cs_X3_116 C (by decide)) rfl rfl (Nat.le_of_ble_eq_true rfl) rfl rfl (by decide) (by decide) dX3_reach_8 (fun E M' hq => ?_) (fun M' hq => ?_)
    · obtain ⟨cx8_0, rfl, rfl⟩ := hq
      exact prp (⟨cx8_0, rfl, rfl⟩) (by decide) (by decide)
    · skip
      obtain ⟨d8_0, rfl⟩ := hq
      refine z_aload C dX3_reach_11 0 rfl ?_
      refine gf_X3_89 C h_p dX3_reach_13 ?_
      refine z_if_eq C (tgt := 25) dX3_reach_16 (by decide) (fun c16 => ?_) (fun c16 => ?_)
      · refine z_aload C dX3_reach_25 0 rfl ?_
        refine z_iload_n C dX3_reach_27 rfl 3 rfl ?_
        refine z_callVi (rest := []) (k' := 2) (n' := 12) C (c_X1_shows (z_l X) (z_G X) h_p) (cs_X3_152 C (by decide)) h_p rfl rfl rfl rfl (Nat.le_of_ble_eq_true rfl) rfl rfl (by decide) (by decide) dX3_reach_28 (fun x28 M' hq => ?_)
        obtain ⟨rfl, rfl⟩ := hq
        refine z_if_ne C (tgt := 40) dX3_reach_31 (by decide) (fun c31 => ?_) (fun c31 => ?_)
        · refine z_aload_n C dX3_reach_40 rfl 1 rfl ?_
          refine z_aload C dX3_reach_41 0 rfl ?_
          refine z_iload_n C dX3_reach_43 rfl 3 rfl ?_
          refine z_iload_n C dX3_reach_44 rfl 4 rfl ?_
          refine z_callVi (rest := [.ref x]) (k' := 2) (n' := 12) C (c_X1_replace (z_l X) (z_G X) h_p h_ov h_vs (z_owC h_ow c31) (z_owN h_ow)) (cs_X3_127 C (by decide)) h_p rfl rfl rfl rfl (Nat.le_of_ble_eq_true rfl) rfl rfl (by decide) (by decide) dX3_reach_45 (fun x45 M' hq => ?_)
          obtain ⟨rfl, rfl⟩ := hq
          refine z_callVi (rest := []) (k' := 2) (n' := 12) C (c_X3_done (z_l X) (z_G X) ((z_up_n _ _ (z_ne h_x h_vs (by intro h; cases h))).trans h_x)) (cs_X3_66 C (by decide)) ((z_up_n _ _ (z_ne h_x h_vs (by intro h; cases h))).trans h_x) rfl rfl rfl rfl (Nat.le_of_ble_eq_true rfl) rfl rfl (by decide) (by decide) dX3_reach_48 (fun x48 M' hq => ?_)
          obtain ⟨rfl, rfl⟩ := hq
          exact ret dX3_reach_51 rfl (Or.inl ⟨d8_0, c16, c31, rfl, rfl⟩) (by decide) (by decide)
        · refine z_aload_n C dX3_reach_34 rfl 1 rfl ?_
          refine z_iconst C (v := 5) dX3_reach_35 (by decide) ?_
          refine z_callVi (rest := []) (k' := 2) (n' := 12) C (c_X3_refuse (z_l X) (z_G X) h_x h_rf (z_inL (by decide)) (show (5 : Int32).toNatClampNeg = 5 by decide)) (cs_X3_86 C (by decide)) h_x rfl rfl rfl rfl (Nat.le_of_ble_eq_true rfl) rfl rfl (by decide) (by decide) dX3_reach_36 (fun x36 M' hq => ?_)
          obtain ⟨rfl, rfl⟩ := hq
          exact ret dX3_reach_39 rfl (Or.inr (Or.inl ⟨d8_0, c16, c31, rfl, rfl⟩)) (by decide) (by decide)
      · refine z_aload_n C dX3_reach_19 rfl 1 rfl ?_
        refine z_iconst C (v := 4) dX3_reach_20 (by decide) ?_
        refine z_callVi (rest := []) (k' := 2) (n' := 12) C (c_X3_refuse (z_l X) (z_G X) h_x h_rf (z_inL (by decide)) (show (4 : Int32).toNatClampNeg = 4 by decide)) (cs_X3_86 C (by decide)) h_x rfl rfl rfl rfl (Nat.le_of_ble_eq_true rfl) rfl rfl (by decide) (by decide) dX3_reach_21 (fun x21 M' hq => ?_)
        obtain ⟨rfl, rfl⟩ := hq
        exact ret dX3_reach_24 rfl (Or.inr (Or.inr (⟨d8_0, c16, rfl, rfl⟩))) (by decide) (by decide)
set_option maxRecDepth 20000 in
theorem c_X3_get_bad (l : Launch) (G : zG) (h_st : l.stackTraces = false) {M : zM} {x : Nat} {pane : Int32} {lr : Nat} {pa : Nat} {sp : Nat} {ln : Nat} {rf : Nat} {ac : Int32} {kn : Int32} {fp : Nat → Option Nat}  (h_x : M x = some (cMp lr pa sp ln rf ac kn)) (h_pa : M pa = some (aP G 6 fp)) (h_ip : ¬ vp_in pane 6) : z_Xi l G qX3_get (z_rm 12 8 48) [.ref x, .int pane] M (fun r M' => False) (fun E M' => ((pane < 0) ∧ E = "java/lang/IndexOutOfBoundsException" ∧ M' = M) ∨ ((¬ pane < 0) ∧ E = "java/lang/IndexOutOfBoundsException" ∧ M' = M)) := by
  refine z_Xi_of _ _ h_st rfl rfl (Nat.le_of_ble_eq_true rfl) (fun X hl hG C ret thr prp => ?_)
  subst hl; subst hG
  have C : z_C X cX3_get RX3 3 (z_rm 12 8 48) := C
  show z_W X M 0 0 0 [(0, .ref x), (1, .int pane)] []
  refine z_aload_n C dX3_get_0 rfl 0 rfl ?_
  refine z_iload_n C dX3_get_1 rfl 1 rfl ?_
  refine z_callXVr (rest := []) (k' := 1) (n' := 6) C (c_X3_paneOf_bad (z_l X) (z_G X) h_st h_x h_pa h_ip) (cs_X3_49 C (by decide)) h_x rfl rfl rfl rfl (Nat.le_of_ble_eq_true rfl) rfl rfl (by decide) (by decide) dX3_get_2 (fun E M' hq => ?_) (fun x2 M' hq => ?_)
  · obtain ⟨cx2_0, rfl, rfl⟩ | ⟨cx2_0, rfl, rfl⟩ := hq
    · exact prp (Or.inl ⟨cx2_0, rfl, rfl⟩) (by decide) (by decide)
    · exact prp (Or.inr (⟨cx2_0, rfl, rfl⟩)) (by decide) (by decide)
  · skip
    exact hq.elim
set_option maxRecDepth 20000 in
theorem c_X3_get (l : Launch) (G : zG) (h_st : l.stackTraces = false) {M : zM} {x : Nat} {pane : Int32} {lr : Nat} {pa : Nat} {sp : Nat} {ln : Nat} {rf : Nat} {ac : Int32} {kn : Int32} {fr : Nat → Int32} {fp : Nat → Option Nat} {p : Nat} {ov : Nat} {sa : Int32} {cp : Int32} {po : Int32} {li : Int32} {mk : Int32} {rd : Int32} {vs : Nat} {nv : Nat} {fv : Nat → Int32} {i : Nat}  (h_x : M x = some (cMp lr pa sp ln rf ac kn)) (h_rf : M rf = some (aI G 6 fr)) (h_pa : M pa = some (aP G 6 fp)) (h_p : M p = some (cPn ov sa cp po li mk rd)) (h_ov : M ov = some (cRw vs)) (h_vs : M vs = some (aI G nv fv)) (h_ip : vp_in pane 6) (h_ij : pane.toNatClampNeg = i) (h_fp : fp i = some p) (n_vs_rf : vs ≠ rf) (h_ow : z_ow sa cp po li nv) : z_Xi l G qX3_get (z_rm 12 8 48) [.ref x, .int pane] M (fun r M' => ((0 < (li - po)) ∧ r = (fv (sa + po).toNatClampNeg) ∧ M' = z_up (z_up M p (cPn ov sa cp (po + 1) li mk rd)) x (cMp lr pa sp ln rf (ac + 1) kn)) ∨ ((¬ 0 < (li - po)) ∧ r = (-9) ∧ M' = z_up M rf (aI G 6 (upd fr 2 ((fr 2) + 1))))) (fun E M' => False) := by
  refine z_Xi_of _ _ h_st rfl rfl (Nat.le_of_ble_eq_true rfl) (fun X hl hG C ret thr prp => ?_)
  subst hl; subst hG
  have C : z_C X cX3_get RX3 3 (z_rm 12 8 48) := C
  show z_W X M 0 0 0 [(0, .ref x), (1, .int pane)] []
  refine z_aload_n C dX3_get_0 rfl 0 rfl ?_
  refine z_iload_n C dX3_get_1 rfl 1 rfl ?_
  refine z_callXVr (rest := []) (k' := 1) (n' := 6) C (c_X3_paneOf (z_l X) (z_G X) h_st h_x h_pa h_p h_ip h_ij h_fp) (cs_X3_49 C (by decide)) h_x rfl rfl rfl rfl (Nat.le_of_ble_eq_true rfl) rfl rfl (by decide) (by decide) dX3_get_2 (fun E M' hq => ?_) (fun x2 M' hq => ?_)
  · exact hq.elim
  · skip
    obtain ⟨hr2, rfl⟩ := hq
    rw [hr2]
    refine z_astore_n (lv' := [(2, .ref p), (0, .ref x), (1, .int pane)]) C dX3_get_5 rfl (by decide) rfl ?_
    refine z_aload_n C dX3_get_6 rfl 0 rfl ?_
    refine z_callVi (rest := []) (k' := 1) (n' := 6) C (c_X1_left (z_l X) (z_G X) h_p) (cs_X3_74 C (by decide)) h_p rfl rfl rfl rfl (Nat.le_of_ble_eq_true rfl) rfl rfl (by decide) (by decide) dX3_get_7 (fun x7 M' hq => ?_)
    obtain ⟨rfl, rfl⟩ := hq
    refine z_if_gt C (tgt := 19) dX3_get_10 (by decide) (fun c10 => ?_) (fun c10 => ?_)
    · refine z_aload_n C dX3_get_19 rfl 1 rfl ?_
      refine z_aload_n C dX3_get_20 rfl 0 rfl ?_
      refine z_callVi (rest := [.ref x]) (k' := 1) (n' := 6) C (c_X1_takeNext (z_l X) (z_G X) h_p h_ov h_vs (z_owP h_ow c10) (z_owN h_ow)) (cs_X3_155 C (by decide)) h_p rfl rfl rfl rfl (Nat.le_of_ble_eq_true rfl) rfl rfl (by decide) (by decide) dX3_get_21 (fun x21 M' hq => ?_)
      obtain ⟨rfl, rfl⟩ := hq
      refine z_callVi (rest := []) (k' := 1) (n' := 6) C (c_X3_done (z_l X) (z_G X) ((z_up_n _ _ (z_ne h_x h_p (by intro h; cases h))).trans h_x)) (cs_X3_66 C (by decide)) ((z_up_n _ _ (z_ne h_x h_p (by intro h; cases h))).trans h_x) rfl rfl rfl rfl (Nat.le_of_ble_eq_true rfl) rfl rfl (by decide) (by decide) dX3_get_24 (fun x24 M' hq => ?_)
      obtain ⟨rfl, rfl⟩ := hq
      exact ret dX3_get_27 rfl (Or.inl ⟨c10, rfl, rfl⟩) (by decide) (by decide)
    · refine z_aload_n C dX3_get_13 rfl 1 rfl ?_
      refine z_iconst C (v := 2) dX3_get_14 (by decide) ?_
      refine z_callVi (rest := []) (k' := 1) (n' := 6) C (c_X3_refuse (z_l X) (z_G X) h_x h_rf (z_inL (by decide)) (show (2 : Int32).toNatClampNeg = 2 by decide)) (cs_X3_86 C (by decide)) h_x rfl rfl rfl rfl (Nat.le_of_ble_eq_true rfl) rfl rfl (by decide) (by decide) dX3_get_15 (fun x15 M' hq => ?_)
      obtain ⟨rfl, rfl⟩ := hq
      exact ret dX3_get_18 rfl (Or.inr (⟨c10, rfl, rfl⟩)) (by decide) (by decide)
set_option maxRecDepth 20000 in
theorem c_X3_pop_bad (l : Launch) (G : zG) (h_st : l.stackTraces = false) {M : zM} {x : Nat} {pane : Int32} {lr : Nat} {pa : Nat} {sp : Nat} {ln : Nat} {rf : Nat} {ac : Int32} {kn : Int32} {fp : Nat → Option Nat}  (h_x : M x = some (cMp lr pa sp ln rf ac kn)) (h_pa : M pa = some (aP G 6 fp)) (h_ip : ¬ vp_in pane 6) : z_Xi l G qX3_pop (z_rm 12 8 48) [.ref x, .int pane] M (fun r M' => False) (fun E M' => ((pane < 0) ∧ E = "java/lang/IndexOutOfBoundsException" ∧ M' = M) ∨ ((¬ pane < 0) ∧ E = "java/lang/IndexOutOfBoundsException" ∧ M' = M)) := by
  refine z_Xi_of _ _ h_st rfl rfl (Nat.le_of_ble_eq_true rfl) (fun X hl hG C ret thr prp => ?_)
  subst hl; subst hG
  have C : z_C X cX3_pop RX3 3 (z_rm 12 8 48) := C
  show z_W X M 0 0 0 [(0, .ref x), (1, .int pane)] []
  refine z_aload_n C dX3_pop_0 rfl 0 rfl ?_
  refine z_iload_n C dX3_pop_1 rfl 1 rfl ?_
  refine z_callXVr (rest := []) (k' := 1) (n' := 6) C (c_X3_paneOf_bad (z_l X) (z_G X) h_st h_x h_pa h_ip) (cs_X3_49 C (by decide)) h_x rfl rfl rfl rfl (Nat.le_of_ble_eq_true rfl) rfl rfl (by decide) (by decide) dX3_pop_2 (fun E M' hq => ?_) (fun x2 M' hq => ?_)
  · obtain ⟨cx2_0, rfl, rfl⟩ | ⟨cx2_0, rfl, rfl⟩ := hq
    · exact prp (Or.inl ⟨cx2_0, rfl, rfl⟩) (by decide) (by decide)
    · exact prp (Or.inr (⟨cx2_0, rfl, rfl⟩)) (by decide) (by decide)
  · skip
    exact hq.elim
set_option maxRecDepth 20000 in
theorem c_X3_pop (l : Launch) (G : zG) (h_st : l.stackTraces = false) {M : zM} {x : Nat} {pane : Int32} {lr : Nat} {pa : Nat} {sp : Nat} {ln : Nat} {rf : Nat} {ac : Int32} {kn : Int32} {fr : Nat → Int32} {fp : Nat → Option Nat} {p : Nat} {ov : Nat} {sa : Int32} {cp : Int32} {po : Int32} {li : Int32} {mk : Int32} {rd : Int32} {vs : Nat} {nv : Nat} {fv : Nat → Int32} {i : Nat}  (h_x : M x = some (cMp lr pa sp ln rf ac kn)) (h_rf : M rf = some (aI G 6 fr)) (h_pa : M pa = some (aP G 6 fp)) (h_p : M p = some (cPn ov sa cp po li mk rd)) (h_ov : M ov = some (cRw vs)) (h_vs : M vs = some (aI G nv fv)) (h_ip : vp_in pane 6) (h_ij : pane.toNatClampNeg = i) (h_fp : fp i = some p) (n_vs_rf : vs ≠ rf) (h_ow : z_ow sa cp po li nv) : z_Xi l G qX3_pop (z_rm 12 8 48) [.ref x, .int pane] M (fun r M' => ((0 < po) ∧ (mk ≤ (po - 1)) ∧ r = (fv (sa + (po - 1)).toNatClampNeg) ∧ M' = z_up (z_up M p (cPn ov sa cp (po - 1) li mk rd)) x (cMp lr pa sp ln rf (ac + 1) kn)) ∨ ((0 < po) ∧ (¬ mk ≤ (po - 1)) ∧ r = (fv (sa + (po - 1)).toNatClampNeg) ∧ M' = z_up (z_up M p (cPn ov sa cp (po - 1) li (-1) rd)) x (cMp lr pa sp ln rf (ac + 1) kn)) ∨ ((¬ 0 < po) ∧ r = (-9) ∧ M' = z_up M rf (aI G 6 (upd fr 5 ((fr 5) + 1))))) (fun E M' => False) := by
  refine z_Xi_of _ _ h_st rfl rfl (Nat.le_of_ble_eq_true rfl) (fun X hl hG C ret thr prp => ?_)
  subst hl; subst hG
  have C : z_C X cX3_pop RX3 3 (z_rm 12 8 48) := C
  show z_W X M 0 0 0 [(0, .ref x), (1, .int pane)] []
  refine z_aload_n C dX3_pop_0 rfl 0 rfl ?_
  refine z_iload_n C dX3_pop_1 rfl 1 rfl ?_
  refine z_callXVr (rest := []) (k' := 1) (n' := 6) C (c_X3_paneOf (z_l X) (z_G X) h_st h_x h_pa h_p h_ip h_ij h_fp) (cs_X3_49 C (by decide)) h_x rfl rfl rfl rfl (Nat.le_of_ble_eq_true rfl) rfl rfl (by decide) (by decide) dX3_pop_2 (fun E M' hq => ?_) (fun x2 M' hq => ?_)
  · exact hq.elim
  · skip
    obtain ⟨hr2, rfl⟩ := hq
    rw [hr2]
    refine z_astore_n (lv' := [(2, .ref p), (0, .ref x), (1, .int pane)]) C dX3_pop_5 rfl (by decide) rfl ?_
    refine z_aload_n C dX3_pop_6 rfl 0 rfl ?_
    refine gf_X3_60 C h_p dX3_pop_7 ?_
    refine z_if_gt C (tgt := 19) dX3_pop_10 (by decide) (fun c10 => ?_) (fun c10 => ?_)
    · refine z_aload_n C dX3_pop_19 rfl 0 rfl ?_
      refine z_aload_n C dX3_pop_20 rfl 0 rfl ?_
      refine gf_X3_60 C h_p dX3_pop_21 ?_
      refine z_iconst C (v := 1) dX3_pop_24 (by decide) ?_
      refine z_isub C dX3_pop_25 ?_
      refine z_callVv (rest := []) (k' := 1) (n' := 6) C (c_X1_moveTo (z_l X) (z_G X) h_p) (cs_X3_97 C (by decide)) h_p rfl rfl rfl rfl (Nat.le_of_ble_eq_true rfl) rfl rfl (by decide) (by decide) dX3_pop_26 (fun M' hq => ?_)
      obtain ⟨d26_0, rfl⟩ | ⟨d26_0, rfl⟩ := hq
      · refine z_aload_n C dX3_pop_29 rfl 1 rfl ?_
        refine z_aload_n C dX3_pop_30 rfl 0 rfl ?_
        refine z_aload_n C dX3_pop_31 rfl 0 rfl ?_
        refine gf_X3_60 C (z_up_s _ _ _) dX3_pop_32 ?_
        refine z_callVi (rest := [.ref x]) (k' := 1) (n' := 6) C (c_X1_valueAt (z_l X) (z_G X) (z_up_s _ _ _) ((z_up_n _ _ (z_ne h_ov h_p (by intro h; cases h))).trans h_ov) ((z_up_n _ _ (z_ne h_vs h_p (by intro h; cases h))).trans h_vs) (z_owQ' h_ow c10) (z_owN h_ow)) (cs_X3_131 C (by decide)) (z_up_s _ _ _) rfl rfl rfl rfl (Nat.le_of_ble_eq_true rfl) rfl rfl (by decide) (by decide) dX3_pop_35 (fun x35 M' hq => ?_)
        obtain ⟨rfl, rfl⟩ := hq
        refine z_callVi (rest := []) (k' := 1) (n' := 6) C (c_X3_done (z_l X) (z_G X) ((z_up_n _ _ (z_ne h_x h_p (by intro h; cases h))).trans h_x)) (cs_X3_66 C (by decide)) ((z_up_n _ _ (z_ne h_x h_p (by intro h; cases h))).trans h_x) rfl rfl rfl rfl (Nat.le_of_ble_eq_true rfl) rfl rfl (by decide) (by decide) dX3_pop_38 (fun x38 M' hq => ?_)
        obtain ⟨rfl, rfl⟩ := hq
        exact ret dX3_pop_41 rfl (Or.inl ⟨c10, d26_0, rfl, rfl⟩) (by decide) (by decide)
      · refine z_aload_n C dX3_pop_29 rfl 1 rfl ?_
        refine z_aload_n C dX3_pop_30 rfl 0 rfl ?_
        refine z_aload_n C dX3_pop_31 rfl 0 rfl ?_
        refine gf_X3_60 C (z_up_s _ _ _) dX3_pop_32 ?_
        refine z_callVi (rest := [.ref x]) (k' := 1) (n' := 6) C (c_X1_valueAt (z_l X) (z_G X) (z_up_s _ _ _) ((z_up_n _ _ (z_ne h_ov h_p (by intro h; cases h))).trans h_ov) ((z_up_n _ _ (z_ne h_vs h_p (by intro h; cases h))).trans h_vs) (z_owQ' h_ow c10) (z_owN h_ow)) (cs_X3_131 C (by decide)) (z_up_s _ _ _) rfl rfl rfl rfl (Nat.le_of_ble_eq_true rfl) rfl rfl (by decide) (by decide) dX3_pop_35 (fun x35 M' hq => ?_)
        obtain ⟨rfl, rfl⟩ := hq
        refine z_callVi (rest := []) (k' := 1) (n' := 6) C (c_X3_done (z_l X) (z_G X) ((z_up_n _ _ (z_ne h_x h_p (by intro h; cases h))).trans h_x)) (cs_X3_66 C (by decide)) ((z_up_n _ _ (z_ne h_x h_p (by intro h; cases h))).trans h_x) rfl rfl rfl rfl (Nat.le_of_ble_eq_true rfl) rfl rfl (by decide) (by decide) dX3_pop_38 (fun x38 M' hq => ?_)
        obtain ⟨rfl, rfl⟩ := hq
        exact ret dX3_pop_41 rfl (Or.inr (Or.inl ⟨c10, d26_0, rfl, rfl⟩)) (by decide) (by decide)
    · refine z_aload_n C dX3_pop_13 rfl 1 rfl ?_
      refine z_iconst C (v := 5) dX3_pop_14 (by decide) ?_
      refine z_callVi (rest := []) (k' := 1) (n' := 6) C (c_X3_refuse (z_l X) (z_G X) h_x h_rf (z_inL (by decide)) (show (5 : Int32).toNatClampNeg = 5 by decide)) (cs_X3_86 C (by decide)) h_x rfl rfl rfl rfl (Nat.le_of_ble_eq_true rfl) rfl rfl (by decide) (by decide) dX3_pop_15 (fun x15 M' hq => ?_)
      obtain ⟨rfl, rfl⟩ := hq
      exact ret dX3_pop_18 rfl (Or.inr (Or.inr (⟨c10, rfl, rfl⟩))) (by decide) (by decide)
set_option maxRecDepth 20000 in
theorem c_X3_at_bad (l : Launch) (G : zG) (h_st : l.stackTraces = false) {M : zM} {x : Nat} {pane : Int32} {ix : Int32} {lr : Nat} {pa : Nat} {sp : Nat} {ln : Nat} {rf : Nat} {ac : Int32} {kn : Int32} {fp : Nat → Option Nat}  (h_x : M x = some (cMp lr pa sp ln rf ac kn)) (h_pa : M pa = some (aP G 6 fp)) (h_ip : ¬ vp_in pane 6) : z_Xi l G qX3_at (z_rm 12 8 48) [.ref x, .int pane, .int ix] M (fun r M' => False) (fun E M' => ((pane < 0) ∧ E = "java/lang/IndexOutOfBoundsException" ∧ M' = M) ∨ ((¬ pane < 0) ∧ E = "java/lang/IndexOutOfBoundsException" ∧ M' = M)) := by
  refine z_Xi_of _ _ h_st rfl rfl (Nat.le_of_ble_eq_true rfl) (fun X hl hG C ret thr prp => ?_)
  subst hl; subst hG
  have C : z_C X cX3_at RX3 4 (z_rm 12 8 48) := C
  show z_W X M 0 0 0 [(0, .ref x), (1, .int pane), (2, .int ix)] []
  refine z_aload_n C dX3_at_0 rfl 0 rfl ?_
  refine z_iload_n C dX3_at_1 rfl 1 rfl ?_
  refine z_callXVr (rest := []) (k' := 1) (n' := 6) C (c_X3_paneOf_bad (z_l X) (z_G X) h_st h_x h_pa h_ip) (cs_X3_49 C (by decide)) h_x rfl rfl rfl rfl (Nat.le_of_ble_eq_true rfl) rfl rfl (by decide) (by decide) dX3_at_2 (fun E M' hq => ?_) (fun x2 M' hq => ?_)
  · obtain ⟨cx2_0, rfl, rfl⟩ | ⟨cx2_0, rfl, rfl⟩ := hq
    · exact prp (Or.inl ⟨cx2_0, rfl, rfl⟩) (by decide) (by decide)
    · exact prp (Or.inr (⟨cx2_0, rfl, rfl⟩)) (by decide) (by decide)
  · skip
    exact hq.elim
set_option maxRecDepth 20000 in
theorem c_X3_at (l : Launch) (G : zG) (h_st : l.stackTraces = false) {M : zM} {x : Nat} {pane : Int32} {ix : Int32} {lr : Nat} {pa : Nat} {sp : Nat} {ln : Nat} {rf : Nat} {ac : Int32} {kn : Int32} {fp : Nat → Option Nat} {p : Nat} {ov : Nat} {sa : Int32} {cp : Int32} {po : Int32} {li : Int32} {mk : Int32} {rd : Int32} {vs : Nat} {nv : Nat} {fv : Nat → Int32} {i : Nat}  (h_x : M x = some (cMp lr pa sp ln rf ac kn)) (h_pa : M pa = some (aP G 6 fp)) (h_p : M p = some (cPn ov sa cp po li mk rd)) (h_ov : M ov = some (cRw vs)) (h_vs : M vs = some (aI G nv fv)) (h_ip : vp_in pane 6) (h_ij : pane.toNatClampNeg = i) (h_fp : fp i = some p) (h_ow : z_ow sa cp po li nv) : z_Xi l G qX3_at (z_rm 12 8 48) [.ref x, .int pane, .int ix] M (fun r M' => (((z_hi ix li) = 0) ∧ r = (-9) ∧ M' = M) ∨ ((¬ (z_hi ix li) = 0) ∧ r = fv (sa + ix).toNatClampNeg ∧ M' = M)) (fun E M' => False) := by
  refine z_Xi_of _ _ h_st rfl rfl (Nat.le_of_ble_eq_true rfl) (fun X hl hG C ret thr prp => ?_)
  subst hl; subst hG
  have C : z_C X cX3_at RX3 4 (z_rm 12 8 48) := C
  show z_W X M 0 0 0 [(0, .ref x), (1, .int pane), (2, .int ix)] []
  refine z_aload_n C dX3_at_0 rfl 0 rfl ?_
  refine z_iload_n C dX3_at_1 rfl 1 rfl ?_
  refine z_callXVr (rest := []) (k' := 1) (n' := 6) C (c_X3_paneOf (z_l X) (z_G X) h_st h_x h_pa h_p h_ip h_ij h_fp) (cs_X3_49 C (by decide)) h_x rfl rfl rfl rfl (Nat.le_of_ble_eq_true rfl) rfl rfl (by decide) (by decide) dX3_at_2 (fun E M' hq => ?_) (fun x2 M' hq => ?_)
  · exact hq.elim
  · skip
    obtain ⟨hr2, rfl⟩ := hq
    rw [hr2]
    refine z_astore_n (lv' := [(3, .ref p), (0, .ref x), (1, .int pane), (2, .int ix)]) C dX3_at_5 rfl (by decide) rfl ?_
    refine z_aload_n C dX3_at_6 rfl 0 rfl ?_
    refine z_iload_n C dX3_at_7 rfl 3 rfl ?_
    refine z_callVi (rest := []) (k' := 1) (n' := 6) C (c_X1_hasIndex (z_l X) (z_G X) h_p) (cs_X3_123 C (by decide)) h_p rfl rfl rfl rfl (Nat.le_of_ble_eq_true rfl) rfl rfl (by decide) (by decide) dX3_at_8 (fun x8 M' hq => ?_)
    obtain ⟨rfl, rfl⟩ := hq
    refine z_if_eq C (tgt := 22) dX3_at_11 (by decide) (fun c11 => ?_) (fun c11 => ?_)
    · refine z_bipush C (v := (-9)) dX3_at_22 (by decide) ?_
      exact ret dX3_at_24 rfl (Or.inl ⟨c11, rfl, rfl⟩) (by decide) (by decide)
    · refine z_aload_n C dX3_at_14 rfl 0 rfl ?_
      refine z_iload_n C dX3_at_15 rfl 3 rfl ?_
      refine z_callVi (rest := []) (k' := 1) (n' := 6) C (c_X1_valueAt (z_l X) (z_G X) h_p h_ov h_vs (z_owL h_ow c11) (z_owN h_ow)) (cs_X3_131 C (by decide)) h_p rfl rfl rfl rfl (Nat.le_of_ble_eq_true rfl) rfl rfl (by decide) (by decide) dX3_at_16 (fun x16 M' hq => ?_)
      obtain ⟨rfl, rfl⟩ := hq
      refine z_goto C (tgt := 24) dX3_at_19 (by decide) ?_
      exact ret dX3_at_24 rfl (Or.inr (⟨c11, rfl, rfl⟩)) (by decide) (by decide)
set_option maxRecDepth 20000 in
theorem c_X3_peek_bad (l : Launch) (G : zG) (h_st : l.stackTraces = false) {M : zM} {x : Nat} {pane : Int32} {lr : Nat} {pa : Nat} {sp : Nat} {ln : Nat} {rf : Nat} {ac : Int32} {kn : Int32} {fp : Nat → Option Nat}  (h_x : M x = some (cMp lr pa sp ln rf ac kn)) (h_pa : M pa = some (aP G 6 fp)) (h_ip : ¬ vp_in pane 6) : z_Xi l G qX3_peek (z_rm 12 8 48) [.ref x, .int pane] M (fun r M' => False) (fun E M' => ((pane < 0) ∧ E = "java/lang/IndexOutOfBoundsException" ∧ M' = M) ∨ ((¬ pane < 0) ∧ E = "java/lang/IndexOutOfBoundsException" ∧ M' = M)) := by
  refine z_Xi_of _ _ h_st rfl rfl (Nat.le_of_ble_eq_true rfl) (fun X hl hG C ret thr prp => ?_)
  subst hl; subst hG
  have C : z_C X cX3_peek RX3 3 (z_rm 12 8 48) := C
  show z_W X M 0 0 0 [(0, .ref x), (1, .int pane)] []
  refine z_aload_n C dX3_peek_0 rfl 0 rfl ?_
  refine z_iload_n C dX3_peek_1 rfl 1 rfl ?_
  refine z_callXVr (rest := []) (k' := 1) (n' := 6) C (c_X3_paneOf_bad (z_l X) (z_G X) h_st h_x h_pa h_ip) (cs_X3_49 C (by decide)) h_x rfl rfl rfl rfl (Nat.le_of_ble_eq_true rfl) rfl rfl (by decide) (by decide) dX3_peek_2 (fun E M' hq => ?_) (fun x2 M' hq => ?_)
  · obtain ⟨cx2_0, rfl, rfl⟩ | ⟨cx2_0, rfl, rfl⟩ := hq
    · exact prp (Or.inl ⟨cx2_0, rfl, rfl⟩) (by decide) (by decide)
    · exact prp (Or.inr (⟨cx2_0, rfl, rfl⟩)) (by decide) (by decide)
  · skip
    exact hq.elim
set_option maxRecDepth 20000 in
theorem c_X3_peek (l : Launch) (G : zG) (h_st : l.stackTraces = false) {M : zM} {x : Nat} {pane : Int32} {lr : Nat} {pa : Nat} {sp : Nat} {ln : Nat} {rf : Nat} {ac : Int32} {kn : Int32} {fp : Nat → Option Nat} {p : Nat} {ov : Nat} {sa : Int32} {cp : Int32} {po : Int32} {li : Int32} {mk : Int32} {rd : Int32} {vs : Nat} {nv : Nat} {fv : Nat → Int32} {i : Nat}  (h_x : M x = some (cMp lr pa sp ln rf ac kn)) (h_pa : M pa = some (aP G 6 fp)) (h_p : M p = some (cPn ov sa cp po li mk rd)) (h_ov : M ov = some (cRw vs)) (h_vs : M vs = some (aI G nv fv)) (h_ip : vp_in pane 6) (h_ij : pane.toNatClampNeg = i) (h_fp : fp i = some p) (h_ow : z_ow sa cp po li nv) : z_Xi l G qX3_peek (z_rm 12 8 48) [.ref x, .int pane] M (fun r M' => (((li - po) ≤ 0) ∧ r = (-9) ∧ M' = M) ∨ ((¬ (li - po) ≤ 0) ∧ r = fv (sa + po).toNatClampNeg ∧ M' = M)) (fun E M' => False) := by
  refine z_Xi_of _ _ h_st rfl rfl (Nat.le_of_ble_eq_true rfl) (fun X hl hG C ret thr prp => ?_)
  subst hl; subst hG
  have C : z_C X cX3_peek RX3 3 (z_rm 12 8 48) := C
  show z_W X M 0 0 0 [(0, .ref x), (1, .int pane)] []
  refine z_aload_n C dX3_peek_0 rfl 0 rfl ?_
  refine z_iload_n C dX3_peek_1 rfl 1 rfl ?_
  refine z_callXVr (rest := []) (k' := 1) (n' := 6) C (c_X3_paneOf (z_l X) (z_G X) h_st h_x h_pa h_p h_ip h_ij h_fp) (cs_X3_49 C (by decide)) h_x rfl rfl rfl rfl (Nat.le_of_ble_eq_true rfl) rfl rfl (by decide) (by decide) dX3_peek_2 (fun E M' hq => ?_) (fun x2 M' hq => ?_)
  · exact hq.elim
  · skip
    obtain ⟨hr2, rfl⟩ := hq
    rw [hr2]
    refine z_astore_n (lv' := [(2, .ref p), (0, .ref x), (1, .int pane)]) C dX3_peek_5 rfl (by decide) rfl ?_
    refine z_aload_n C dX3_peek_6 rfl 0 rfl ?_
    refine z_callVi (rest := []) (k' := 1) (n' := 6) C (c_X1_left (z_l X) (z_G X) h_p) (cs_X3_74 C (by decide)) h_p rfl rfl rfl rfl (Nat.le_of_ble_eq_true rfl) rfl rfl (by decide) (by decide) dX3_peek_7 (fun x7 M' hq => ?_)
    obtain ⟨rfl, rfl⟩ := hq
    refine z_if_le C (tgt := 24) dX3_peek_10 (by decide) (fun c10 => ?_) (fun c10 => ?_)
    · refine z_bipush C (v := (-9)) dX3_peek_24 (by decide) ?_
      exact ret dX3_peek_26 rfl (Or.inl ⟨c10, rfl, rfl⟩) (by decide) (by decide)
    · refine z_aload_n C dX3_peek_13 rfl 0 rfl ?_
      refine z_aload_n C dX3_peek_14 rfl 0 rfl ?_
      refine gf_X3_60 C h_p dX3_peek_15 ?_
      refine z_callVi (rest := []) (k' := 1) (n' := 6) C (c_X1_valueAt (z_l X) (z_G X) h_p h_ov h_vs (z_owP' h_ow c10) (z_owN h_ow)) (cs_X3_131 C (by decide)) h_p rfl rfl rfl rfl (Nat.le_of_ble_eq_true rfl) rfl rfl (by decide) (by decide) dX3_peek_18 (fun x18 M' hq => ?_)
      obtain ⟨rfl, rfl⟩ := hq
      refine z_goto C (tgt := 26) dX3_peek_21 (by decide) ?_
      exact ret dX3_peek_26 rfl (Or.inr (⟨c10, rfl, rfl⟩)) (by decide) (by decide)
set_option maxRecDepth 20000 in
theorem c_X3_would_bad (l : Launch) (G : zG) (h_st : l.stackTraces = false) {M : zM} {x : Nat} {pane : Int32} {wh : Int32} {lr : Nat} {pa : Nat} {sp : Nat} {ln : Nat} {rf : Nat} {ac : Int32} {kn : Int32} {fp : Nat → Option Nat}  (h_x : M x = some (cMp lr pa sp ln rf ac kn)) (h_pa : M pa = some (aP G 6 fp)) (h_ip : ¬ vp_in pane 6) : z_Xi l G qX3_would (z_rm 12 8 48) [.ref x, .int pane, .int wh] M (fun r M' => False) (fun E M' => ((pane < 0) ∧ E = "java/lang/IndexOutOfBoundsException" ∧ M' = M) ∨ ((¬ pane < 0) ∧ E = "java/lang/IndexOutOfBoundsException" ∧ M' = M)) := by
  refine z_Xi_of _ _ h_st rfl rfl (Nat.le_of_ble_eq_true rfl) (fun X hl hG C ret thr prp => ?_)
  subst hl; subst hG
  have C : z_C X cX3_would RX3 4 (z_rm 12 8 48) := C
  show z_W X M 0 0 0 [(0, .ref x), (1, .int pane), (2, .int wh)] []
  refine z_aload_n C dX3_would_0 rfl 0 rfl ?_
  refine z_iload_n C dX3_would_1 rfl 1 rfl ?_
  refine z_callXVr (rest := []) (k' := 1) (n' := 6) C (c_X3_paneOf_bad (z_l X) (z_G X) h_st h_x h_pa h_ip) (cs_X3_49 C (by decide)) h_x rfl rfl rfl rfl (Nat.le_of_ble_eq_true rfl) rfl rfl (by decide) (by decide) dX3_would_2 (fun E M' hq => ?_) (fun x2 M' hq => ?_)
  · obtain ⟨cx2_0, rfl, rfl⟩ | ⟨cx2_0, rfl, rfl⟩ := hq
    · exact prp (Or.inl ⟨cx2_0, rfl, rfl⟩) (by decide) (by decide)
    · exact prp (Or.inr (⟨cx2_0, rfl, rfl⟩)) (by decide) (by decide)
  · skip
    exact hq.elim
set_option maxRecDepth 20000 in
theorem c_X3_would (l : Launch) (G : zG) (h_st : l.stackTraces = false) {M : zM} {x : Nat} {pane : Int32} {wh : Int32} {lr : Nat} {pa : Nat} {sp : Nat} {ln : Nat} {rf : Nat} {ac : Int32} {kn : Int32} {fp : Nat → Option Nat} {p : Nat} {ov : Nat} {sa : Int32} {cp : Int32} {po : Int32} {li : Int32} {mk : Int32} {rd : Int32} {i : Nat}  (h_x : M x = some (cMp lr pa sp ln rf ac kn)) (h_pa : M pa = some (aP G 6 fp)) (h_p : M p = some (cPn ov sa cp po li mk rd)) (h_ip : vp_in pane 6) (h_ij : pane.toNatClampNeg = i) (h_fp : fp i = some p) : z_Xi l G qX3_would (z_rm 12 8 48) [.ref x, .int pane, .int wh] M (fun r M' => ((¬ (z_is wh 0 3) = 0) ∧ (wh = 0) ∧ r = cp ∧ M' = M) ∨ ((¬ (z_is wh 0 3) = 0) ∧ (wh = 1) ∧ r = po ∧ M' = M) ∨ ((¬ (z_is wh 0 3) = 0) ∧ (wh = 2) ∧ r = li ∧ M' = M) ∨ ((¬ (z_is wh 0 3) = 0) ∧ (¬ wh = 0 ∧ ¬ wh = 1 ∧ ¬ wh = 2) ∧ ((z_hm mk) = 0) ∧ r = (-9) ∧ M' = M) ∨ ((¬ (z_is wh 0 3) = 0) ∧ (¬ wh = 0 ∧ ¬ wh = 1 ∧ ¬ wh = 2) ∧ (¬ (z_hm mk) = 0) ∧ r = li - mk ∧ M' = M)) (fun E M' => ((z_is wh 0 3) = 0) ∧ E = "java/lang/IllegalArgumentException" ∧ M' = M) := by
  refine z_Xi_of _ _ h_st rfl rfl (Nat.le_of_ble_eq_true rfl) (fun X hl hG C ret thr prp => ?_)
  subst hl; subst hG
  have C : z_C X cX3_would RX3 4 (z_rm 12 8 48) := C
  show z_W X M 0 0 0 [(0, .ref x), (1, .int pane), (2, .int wh)] []
  refine z_aload_n C dX3_would_0 rfl 0 rfl ?_
  refine z_iload_n C dX3_would_1 rfl 1 rfl ?_
  refine z_callXVr (rest := []) (k' := 1) (n' := 6) C (c_X3_paneOf (z_l X) (z_G X) h_st h_x h_pa h_p h_ip h_ij h_fp) (cs_X3_49 C (by decide)) h_x rfl rfl rfl rfl (Nat.le_of_ble_eq_true rfl) rfl rfl (by decide) (by decide) dX3_would_2 (fun E M' hq => ?_) (fun x2 M' hq => ?_)
  · exact hq.elim
  · skip
    obtain ⟨hr2, rfl⟩ := hq
    rw [hr2]
    refine z_astore_n (lv' := [(3, .ref p), (0, .ref x), (1, .int pane), (2, .int wh)]) C dX3_would_5 rfl (by decide) rfl ?_
    refine z_iload_n C dX3_would_6 rfl 3 rfl ?_
    refine z_iconst C (v := 0) dX3_would_7 (by decide) ?_
    refine z_iconst C (v := 3) dX3_would_8 (by decide) ?_
    refine z_callXSv (rest := []) (k' := 2) (n' := 12) C (c_X3_needWithin (z_l X) (z_G X) h_st) (cs_X3_53 C (by decide)) rfl rfl (Nat.le_of_ble_eq_true rfl) rfl rfl (by decide) (by decide) dX3_would_9 (fun E M' hq => ?_) (fun M' hq => ?_)
    · obtain ⟨cx9_0, rfl, rfl⟩ := hq
      exact prp (⟨cx9_0, rfl, rfl⟩) (by decide) (by decide)
    · skip
      obtain ⟨d9_0, rfl⟩ := hq
      refine z_iload_n C dX3_would_12 rfl 3 rfl ?_
      refine z_swi (fun x13 e13 => ?_)
      by_cases c13_0 : x13 = 0
      · refine z_tin C (v := 0) (tgt := 40) dX3_would_13 c13_0 (by decide) (by decide) (by decide) (by decide) ?_
        refine z_aload_n C dX3_would_40 rfl 0 rfl ?_
        refine gf_X3_100 C h_p dX3_would_41 ?_
        exact ret dX3_would_44 rfl (Or.inl ⟨d9_0, (z_swe e13 c13_0), rfl, rfl⟩) (by decide) (by decide)
      by_cases c13_1 : x13 = 1
      · refine z_tin C (v := 1) (tgt := 45) dX3_would_13 c13_1 (by decide) (by decide) (by decide) (by decide) ?_
        refine z_aload_n C dX3_would_45 rfl 0 rfl ?_
        refine gf_X3_60 C h_p dX3_would_46 ?_
        exact ret dX3_would_49 rfl (Or.inr (Or.inl ⟨d9_0, (z_swe e13 c13_1), rfl, rfl⟩)) (by decide) (by decide)
      by_cases c13_2 : x13 = 2
      · refine z_tin C (v := 2) (tgt := 50) dX3_would_13 c13_2 (by decide) (by decide) (by decide) (by decide) ?_
        refine z_aload_n C dX3_would_50 rfl 0 rfl ?_
        refine gf_X3_63 C h_p dX3_would_51 ?_
        exact ret dX3_would_54 rfl (Or.inr (Or.inr (Or.inl ⟨d9_0, (z_swe e13 c13_2), rfl, rfl⟩))) (by decide) (by decide)
      refine z_tout C (tgt := 55) dX3_would_13 (z_ou3 c13_0 c13_1 c13_2) (by decide) ?_
      have g13_0 : ¬ wh = 0 := fun q => c13_0 (e13.trans q)
      have g13_1 : ¬ wh = 1 := fun q => c13_1 (e13.trans q)
      have g13_2 : ¬ wh = 2 := fun q => c13_2 (e13.trans q)
      refine z_aload_n C dX3_would_55 rfl 0 rfl ?_
      refine z_callVi (rest := []) (k' := 2) (n' := 12) C (c_X1_hasMark (z_l X) (z_G X) h_p) (cs_X3_109 C (by decide)) h_p rfl rfl rfl rfl (Nat.le_of_ble_eq_true rfl) rfl rfl (by decide) (by decide) dX3_would_56 (fun x56 M' hq => ?_)
      obtain ⟨rfl, rfl⟩ := hq
      refine z_if_eq C (tgt := 74) dX3_would_59 (by decide) (fun c59 => ?_) (fun c59 => ?_)
      · refine z_bipush C (v := (-9)) dX3_would_74 (by decide) ?_
        exact ret dX3_would_76 rfl (Or.inr (Or.inr (Or.inr (Or.inl ⟨d9_0, ⟨g13_0, g13_1, g13_2⟩, c59, rfl, rfl⟩)))) (by decide) (by decide)
      · refine z_aload_n C dX3_would_62 rfl 0 rfl ?_
        refine gf_X3_63 C h_p dX3_would_63 ?_
        refine z_aload_n C dX3_would_66 rfl 0 rfl ?_
        refine gf_X3_106 C h_p dX3_would_67 ?_
        refine z_isub C dX3_would_70 ?_
        refine z_goto C (tgt := 76) dX3_would_71 (by decide) ?_
        exact ret dX3_would_76 rfl (Or.inr (Or.inr (Or.inr (Or.inr (⟨d9_0, ⟨g13_0, g13_1, g13_2⟩, c59, rfl, rfl⟩))))) (by decide) (by decide)
set_option maxRecDepth 20000 in
theorem c_X3_ofPane_bad (l : Launch) (G : zG) (h_st : l.stackTraces = false) {M : zM} {x : Nat} {pane : Int32} {wh : Int32} {lr : Nat} {pa : Nat} {sp : Nat} {ln : Nat} {rf : Nat} {ac : Int32} {kn : Int32} {fp : Nat → Option Nat}  (h_x : M x = some (cMp lr pa sp ln rf ac kn)) (h_pa : M pa = some (aP G 6 fp)) (h_ip : ¬ vp_in pane 6) : z_Xi l G qX3_ofPane (z_rm 12 8 48) [.ref x, .int pane, .int wh] M (fun r M' => False) (fun E M' => ((pane < 0) ∧ E = "java/lang/IndexOutOfBoundsException" ∧ M' = M) ∨ ((¬ pane < 0) ∧ E = "java/lang/IndexOutOfBoundsException" ∧ M' = M)) := by
  refine z_Xi_of _ _ h_st rfl rfl (Nat.le_of_ble_eq_true rfl) (fun X hl hG C ret thr prp => ?_)
  subst hl; subst hG
  have C : z_C X cX3_ofPane RX3 4 (z_rm 12 8 48) := C
  show z_W X M 0 0 0 [(0, .ref x), (1, .int pane), (2, .int wh)] []
  refine z_aload_n C dX3_ofPane_0 rfl 0 rfl ?_
  refine z_iload_n C dX3_ofPane_1 rfl 1 rfl ?_
  refine z_callXVr (rest := []) (k' := 1) (n' := 6) C (c_X3_paneOf_bad (z_l X) (z_G X) h_st h_x h_pa h_ip) (cs_X3_49 C (by decide)) h_x rfl rfl rfl rfl (Nat.le_of_ble_eq_true rfl) rfl rfl (by decide) (by decide) dX3_ofPane_2 (fun E M' hq => ?_) (fun x2 M' hq => ?_)
  · obtain ⟨cx2_0, rfl, rfl⟩ | ⟨cx2_0, rfl, rfl⟩ := hq
    · exact prp (Or.inl ⟨cx2_0, rfl, rfl⟩) (by decide) (by decide)
    · exact prp (Or.inr (⟨cx2_0, rfl, rfl⟩)) (by decide) (by decide)
  · skip
    exact hq.elim
set_option maxRecDepth 20000 in
theorem c_X3_ofPane (l : Launch) (G : zG) (h_st : l.stackTraces = false) {M : zM} {x : Nat} {pane : Int32} {wh : Int32} {lr : Nat} {pa : Nat} {sp : Nat} {ln : Nat} {rf : Nat} {ac : Int32} {kn : Int32} {fp : Nat → Option Nat} {p : Nat} {ov : Nat} {sa : Int32} {cp : Int32} {po : Int32} {li : Int32} {mk : Int32} {rd : Int32} {i : Nat}  (h_x : M x = some (cMp lr pa sp ln rf ac kn)) (h_pa : M pa = some (aP G 6 fp)) (h_p : M p = some (cPn ov sa cp po li mk rd)) (h_ip : vp_in pane 6) (h_ij : pane.toNatClampNeg = i) (h_fp : fp i = some p) : z_Xi l G qX3_ofPane (z_rm 12 8 48) [.ref x, .int pane, .int wh] M (fun r M' => ((¬ (z_is wh 0 9) = 0) ∧ (wh = 0) ∧ r = po ∧ M' = M) ∨ ((¬ (z_is wh 0 9) = 0) ∧ (wh = 1) ∧ r = li ∧ M' = M) ∨ ((¬ (z_is wh 0 9) = 0) ∧ (wh = 2) ∧ r = cp ∧ M' = M) ∨ ((¬ (z_is wh 0 9) = 0) ∧ (wh = 3) ∧ r = li - po ∧ M' = M) ∨ ((¬ (z_is wh 0 9) = 0) ∧ (wh = 4) ∧ r = mk ∧ M' = M) ∨ ((¬ (z_is wh 0 9) = 0) ∧ (wh = 5) ∧ (rd = 0) ∧ r = sa ∧ M' = M) ∨ ((¬ (z_is wh 0 9) = 0) ∧ (wh = 5) ∧ (¬ rd = 0) ∧ r = (-9) ∧ M' = M) ∨ ((¬ (z_is wh 0 9) = 0) ∧ (wh = 6) ∧ ((li - po) ≤ 0) ∧ r = 0 ∧ M' = M) ∨ ((¬ (z_is wh 0 9) = 0) ∧ (wh = 6) ∧ (¬ (li - po) ≤ 0) ∧ r = 1 ∧ M' = M) ∨ ((¬ (z_is wh 0 9) = 0) ∧ (wh = 7) ∧ (rd = 0) ∧ r = 0 ∧ M' = M) ∨ ((¬ (z_is wh 0 9) = 0) ∧ (wh = 7) ∧ (¬ rd = 0) ∧ r = 1 ∧ M' = M) ∨ ((¬ (z_is wh 0 9) = 0) ∧ (wh = 8) ∧ (rd = 0) ∧ r = 1 ∧ M' = M) ∨ ((¬ (z_is wh 0 9) = 0) ∧ (wh = 8) ∧ (¬ rd = 0) ∧ r = 0 ∧ M' = M) ∨ ((¬ (z_is wh 0 9) = 0) ∧ (¬ wh = 0 ∧ ¬ wh = 1 ∧ ¬ wh = 2 ∧ ¬ wh = 3 ∧ ¬ wh = 4 ∧ ¬ wh = 5 ∧ ¬ wh = 6 ∧ ¬ wh = 7 ∧ ¬ wh = 8) ∧ r = cp - li ∧ M' = M)) (fun E M' => ((z_is wh 0 9) = 0) ∧ E = "java/lang/IllegalArgumentException" ∧ M' = M) := by
  refine z_Xi_of _ _ h_st rfl rfl (Nat.le_of_ble_eq_true rfl) (fun X hl hG C ret thr prp => ?_)
  subst hl; subst hG
  have C : z_C X cX3_ofPane RX3 4 (z_rm 12 8 48) := C
  show z_W X M 0 0 0 [(0, .ref x), (1, .int pane), (2, .int wh)] []
  refine z_aload_n C dX3_ofPane_0 rfl 0 rfl ?_
  refine z_iload_n C dX3_ofPane_1 rfl 1 rfl ?_
  refine z_callXVr (rest := []) (k' := 1) (n' := 6) C (c_X3_paneOf (z_l X) (z_G X) h_st h_x h_pa h_p h_ip h_ij h_fp) (cs_X3_49 C (by decide)) h_x rfl rfl rfl rfl (Nat.le_of_ble_eq_true rfl) rfl rfl (by decide) (by decide) dX3_ofPane_2 (fun E M' hq => ?_) (fun x2 M' hq => ?_)
  · exact hq.elim
  · skip
    obtain ⟨hr2, rfl⟩ := hq
    rw [hr2]
    refine z_astore_n (lv' := [(3, .ref p), (0, .ref x), (1, .int pane), (2, .int wh)]) C dX3_ofPane_5 rfl (by decide) rfl ?_
    refine z_iload_n C dX3_ofPane_6 rfl 3 rfl ?_
    refine z_iconst C (v := 0) dX3_ofPane_7 (by decide) ?_
    refine z_bipush C (v := 9) dX3_ofPane_8 (by decide) ?_
    refine z_callXSv (rest := []) (k' := 2) (n' := 12) C (c_X3_needWithin (z_l X) (z_G X) h_st) (cs_X3_53 C (by decide)) rfl rfl (Nat.le_of_ble_eq_true rfl) rfl rfl (by decide) (by decide) dX3_ofPane_10 (fun E M' hq => ?_) (fun M' hq => ?_)
    · obtain ⟨cx10_0, rfl, rfl⟩ := hq
      exact prp (⟨cx10_0, rfl, rfl⟩) (by decide) (by decide)
    · skip
      obtain ⟨d10_0, rfl⟩ := hq
      refine z_aload_n C dX3_ofPane_13 rfl 0 rfl ?_
      refine z_iload_n C dX3_ofPane_14 rfl 3 rfl ?_
      refine z_callVi (rest := []) (k' := 2) (n' := 12) C (c_X1_numberOf (z_l X) (z_G X) h_p) (cs_X3_158 C (by decide)) h_p rfl rfl rfl rfl (Nat.le_of_ble_eq_true rfl) rfl rfl (by decide) (by decide) dX3_ofPane_15 (fun x15 M' hq => ?_)
      obtain ⟨d15_0, hr15, rfl⟩ | ⟨d15_0, hr15, rfl⟩ | ⟨d15_0, hr15, rfl⟩ | ⟨d15_0, rfl, rfl⟩ | ⟨d15_0, hr15, rfl⟩ | ⟨d15_0, d15_1, hr15, rfl⟩ | ⟨d15_0, d15_1, rfl, rfl⟩ | ⟨d15_0, d15_1, rfl, rfl⟩ | ⟨d15_0, d15_1, rfl, rfl⟩ | ⟨d15_0, d15_1, rfl, rfl⟩ | ⟨d15_0, d15_1, rfl, rfl⟩ | ⟨d15_0, d15_1, rfl, rfl⟩ | ⟨d15_0, d15_1, rfl, rfl⟩ | ⟨d15_0, rfl, rfl⟩ := hq
      · rw [hr15]
        exact ret dX3_ofPane_18 rfl (Or.inl ⟨d10_0, d15_0, rfl, rfl⟩) (by decide) (by decide)
      · rw [hr15]
        exact ret dX3_ofPane_18 rfl (Or.inr (Or.inl ⟨d10_0, d15_0, rfl, rfl⟩)) (by decide) (by decide)
      · rw [hr15]
        exact ret dX3_ofPane_18 rfl (Or.inr (Or.inr (Or.inl ⟨d10_0, d15_0, rfl, rfl⟩))) (by decide) (by decide)
      · exact ret dX3_ofPane_18 rfl (Or.inr (Or.inr (Or.inr (Or.inl ⟨d10_0, d15_0, rfl, rfl⟩)))) (by decide) (by decide)
      · rw [hr15]
        exact ret dX3_ofPane_18 rfl (Or.inr (Or.inr (Or.inr (Or.inr (Or.inl ⟨d10_0, d15_0, rfl, rfl⟩))))) (by decide) (by decide)
      · rw [hr15]
        exact ret dX3_ofPane_18 rfl (Or.inr (Or.inr (Or.inr (Or.inr (Or.inr (Or.inl ⟨d10_0, d15_0, d15_1, rfl, rfl⟩)))))) (by decide) (by decide)
      · exact ret dX3_ofPane_18 rfl (Or.inr (Or.inr (Or.inr (Or.inr (Or.inr (Or.inr (Or.inl ⟨d10_0, d15_0, d15_1, rfl, rfl⟩))))))) (by decide) (by decide)
      · exact ret dX3_ofPane_18 rfl (Or.inr (Or.inr (Or.inr (Or.inr (Or.inr (Or.inr (Or.inr (Or.inl ⟨d10_0, d15_0, d15_1, rfl, rfl⟩)))))))) (by decide) (by decide)
      · exact ret dX3_ofPane_18 rfl (Or.inr (Or.inr (Or.inr (Or.inr (Or.inr (Or.inr (Or.inr (Or.inr (Or.inl ⟨d10_0, d15_0, d15_1, rfl, rfl⟩))))))))) (by decide) (by decide)
      · exact ret dX3_ofPane_18 rfl (Or.inr (Or.inr (Or.inr (Or.inr (Or.inr (Or.inr (Or.inr (Or.inr (Or.inr (Or.inl ⟨d10_0, d15_0, d15_1, rfl, rfl⟩)))))))))) (by decide) (by decide)
      · exact ret dX3_ofPane_18 rfl (Or.inr (Or.inr (Or.inr (Or.inr (Or.inr (Or.inr (Or.inr (Or.inr (Or.inr (Or.inr (Or.inl ⟨d10_0, d15_0, d15_1, rfl, rfl⟩))))))))))) (by decide) (by decide)
      · exact ret dX3_ofPane_18 rfl (Or.inr (Or.inr (Or.inr (Or.inr (Or.inr (Or.inr (Or.inr (Or.inr (Or.inr (Or.inr (Or.inr (Or.inl ⟨d10_0, d15_0, d15_1, rfl, rfl⟩)))))))))))) (by decide) (by decide)
      · exact ret dX3_ofPane_18 rfl (Or.inr (Or.inr (Or.inr (Or.inr (Or.inr (Or.inr (Or.inr (Or.inr (Or.inr (Or.inr (Or.inr (Or.inr (Or.inl ⟨d10_0, d15_0, d15_1, rfl, rfl⟩))))))))))))) (by decide) (by decide)
      · exact ret dX3_ofPane_18 rfl (Or.inr (Or.inr (Or.inr (Or.inr (Or.inr (Or.inr (Or.inr (Or.inr (Or.inr (Or.inr (Or.inr (Or.inr (Or.inr (⟨d10_0, d15_0, rfl, rfl⟩)))))))))))))) (by decide) (by decide)
set_option maxRecDepth 20000 in
theorem c_X3_knock (l : Launch) (G : zG) {M : zM} {x : Nat} {lr : Nat} {pa : Nat} {sp : Nat} {ln : Nat} {rf : Nat} {ac : Int32} {kn : Int32}  (h_x : M x = some (cMp lr pa sp ln rf ac kn))  : z_Mi l G qX3_knock (z_rm 1 0 0) [.ref x] M (fun r M' => r = kn + 1 ∧ M' = z_up M x (cMp lr pa sp ln rf ac (kn + 1)))  := by
  refine z_Mi_of _ (plainFor_of_name rfl) rfl (Nat.le_of_ble_eq_true rfl) (fun X hl hG hnm C ret => ?_)
  subst hl; subst hG
  have C : z_C X cX3_knock RX3 1 (z_rm 1 0 0) := C
  show z_W X M 0 0 0 [(0, .ref x)] []
  refine z_aload_n C dX3_knock_0 rfl 0 rfl ?_
  refine z_dup C dX3_knock_1 rfl ?_
  refine gf_X3_46 C h_x dX3_knock_2 ?_
  refine z_iconst C (v := 1) dX3_knock_5 (by decide) ?_
  refine z_iadd C dX3_knock_6 ?_
  refine pf_X3_46 C h_x dX3_knock_7 ?_
  refine z_aload_n C dX3_knock_10 rfl 0 rfl ?_
  refine gf_X3_46 C (z_up_s _ _ _) dX3_knock_11 ?_
  exact ret dX3_knock_14 rfl (⟨rfl, rfl⟩) (by decide) (by decide)
end
section
theorem dX3_setPane_0 : decode cX3_setPane 0 = .ok (.iload_n 1, 1) := by decide +kernel
theorem dX3_setPane_1 : decode cX3_setPane 1 = .ok (.ifCond .lt 19, 3) := by decide +kernel
theorem dX3_setPane_4 : decode cX3_setPane 4 = .ok (.iload_n 1, 1) := by decide +kernel
theorem dX3_setPane_5 : decode cX3_setPane 5 = .ok (.aload_n 0, 1) := by decide +kernel
theorem dX3_setPane_6 : decode cX3_setPane 6 = .ok (.getfield 20, 3) := by decide +kernel
theorem dX3_setPane_9 : decode cX3_setPane 9 = .ok (.arraylength, 1) := by decide +kernel
theorem dX3_setPane_10 : decode cX3_setPane 10 = .ok (.if_icmp .ge 10, 3) := by decide +kernel
theorem dX3_setPane_13 : decode cX3_setPane 13 = .ok (.aload_n 0, 1) := by decide +kernel
theorem dX3_setPane_14 : decode cX3_setPane 14 = .ok (.getfield 20, 3) := by decide +kernel
theorem dX3_setPane_17 : decode cX3_setPane 17 = .ok (.iload_n 1, 1) := by decide +kernel
theorem dX3_setPane_18 : decode cX3_setPane 18 = .ok (.aload_n 2, 1) := by decide +kernel
theorem dX3_setPane_19 : decode cX3_setPane 19 = .ok (.aastore, 1) := by decide +kernel
theorem dX3_setPane_20 : decode cX3_setPane 20 = .ok (.return_, 1) := by decide +kernel
theorem dX3_twin_0 : decode cX3_twin 0 = .ok (.aload_n 0, 1) := by decide +kernel
theorem dX3_twin_1 : decode cX3_twin 1 = .ok (.iload_n 1, 1) := by decide +kernel
theorem dX3_twin_2 : decode cX3_twin 2 = .ok (.invokevirtual 49, 3) := by decide +kernel
theorem dX3_twin_5 : decode cX3_twin 5 = .ok (.astore_n 3, 1) := by decide +kernel
theorem dX3_twin_6 : decode cX3_twin 6 = .ok (.aload_n 0, 1) := by decide +kernel
theorem dX3_twin_7 : decode cX3_twin 7 = .ok (.iload_n 2, 1) := by decide +kernel
theorem dX3_twin_8 : decode cX3_twin 8 = .ok (.invokevirtual 49, 3) := by decide +kernel
theorem dX3_twin_11 : decode cX3_twin 11 = .ok (.astore 4, 2) := by decide +kernel
theorem dX3_twin_13 : decode cX3_twin 13 = .ok (.aload_n 3, 1) := by decide +kernel
theorem dX3_twin_14 : decode cX3_twin 14 = .ok (.aload 4, 2) := by decide +kernel
theorem dX3_twin_16 : decode cX3_twin 16 = .ok (.invokevirtual 70, 3) := by decide +kernel
theorem dX3_twin_19 : decode cX3_twin 19 = .ok (.aload_n 0, 1) := by decide +kernel
theorem dX3_twin_20 : decode cX3_twin 20 = .ok (.aload_n 3, 1) := by decide +kernel
theorem dX3_twin_21 : decode cX3_twin 21 = .ok (.invokevirtual 74, 3) := by decide +kernel
theorem dX3_twin_24 : decode cX3_twin 24 = .ok (.invokevirtual 66, 3) := by decide +kernel
theorem dX3_twin_27 : decode cX3_twin 27 = .ok (.ireturn, 1) := by decide +kernel
theorem dX3_reader_0 : decode cX3_reader 0 = .ok (.aload_n 0, 1) := by decide +kernel
theorem dX3_reader_1 : decode cX3_reader 1 = .ok (.iload_n 1, 1) := by decide +kernel
theorem dX3_reader_2 : decode cX3_reader 2 = .ok (.invokevirtual 49, 3) := by decide +kernel
theorem dX3_reader_5 : decode cX3_reader 5 = .ok (.astore_n 3, 1) := by decide +kernel
theorem dX3_reader_6 : decode cX3_reader 6 = .ok (.aload_n 0, 1) := by decide +kernel
theorem dX3_reader_7 : decode cX3_reader 7 = .ok (.iload_n 2, 1) := by decide +kernel
theorem dX3_reader_8 : decode cX3_reader 8 = .ok (.invokevirtual 49, 3) := by decide +kernel
theorem dX3_reader_11 : decode cX3_reader 11 = .ok (.astore 4, 2) := by decide +kernel
theorem dX3_reader_13 : decode cX3_reader 13 = .ok (.aload_n 3, 1) := by decide +kernel
theorem dX3_reader_14 : decode cX3_reader 14 = .ok (.aload 4, 2) := by decide +kernel
theorem dX3_reader_16 : decode cX3_reader 16 = .ok (.invokevirtual 70, 3) := by decide +kernel
theorem dX3_reader_19 : decode cX3_reader 19 = .ok (.aload_n 3, 1) := by decide +kernel
theorem dX3_reader_20 : decode cX3_reader 20 = .ok (.iconst 1, 1) := by decide +kernel
theorem dX3_reader_21 : decode cX3_reader 21 = .ok (.putfield 89, 3) := by decide +kernel
theorem dX3_reader_24 : decode cX3_reader 24 = .ok (.aload_n 0, 1) := by decide +kernel
theorem dX3_reader_25 : decode cX3_reader 25 = .ok (.aload_n 3, 1) := by decide +kernel
theorem dX3_reader_26 : decode cX3_reader 26 = .ok (.invokevirtual 74, 3) := by decide +kernel
theorem dX3_reader_29 : decode cX3_reader 29 = .ok (.invokevirtual 66, 3) := by decide +kernel
theorem dX3_reader_32 : decode cX3_reader 32 = .ok (.ireturn, 1) := by decide +kernel
theorem dX3_rest_0 : decode cX3_rest 0 = .ok (.aload_n 0, 1) := by decide +kernel
theorem dX3_rest_1 : decode cX3_rest 1 = .ok (.iload_n 1, 1) := by decide +kernel
theorem dX3_rest_2 : decode cX3_rest 2 = .ok (.invokevirtual 49, 3) := by decide +kernel
theorem dX3_rest_5 : decode cX3_rest 5 = .ok (.astore_n 3, 1) := by decide +kernel
theorem dX3_rest_6 : decode cX3_rest 6 = .ok (.aload_n 0, 1) := by decide +kernel
theorem dX3_rest_7 : decode cX3_rest 7 = .ok (.iload_n 2, 1) := by decide +kernel
theorem dX3_rest_8 : decode cX3_rest 8 = .ok (.invokevirtual 49, 3) := by decide +kernel
theorem dX3_rest_11 : decode cX3_rest 11 = .ok (.astore 4, 2) := by decide +kernel
theorem dX3_rest_13 : decode cX3_rest 13 = .ok (.aload_n 3, 1) := by decide +kernel
theorem dX3_rest_14 : decode cX3_rest 14 = .ok (.aload 4, 2) := by decide +kernel
theorem dX3_rest_16 : decode cX3_rest 16 = .ok (.aload 4, 2) := by decide +kernel
theorem dX3_rest_18 : decode cX3_rest 18 = .ok (.getfield 60, 3) := by decide +kernel
theorem dX3_rest_21 : decode cX3_rest 21 = .ok (.aload 4, 2) := by decide +kernel
theorem dX3_rest_23 : decode cX3_rest 23 = .ok (.invokevirtual 74, 3) := by decide +kernel
theorem dX3_rest_26 : decode cX3_rest 26 = .ok (.invokevirtual 78, 3) := by decide +kernel
theorem dX3_rest_29 : decode cX3_rest 29 = .ok (.aload_n 0, 1) := by decide +kernel
theorem dX3_rest_30 : decode cX3_rest 30 = .ok (.aload_n 3, 1) := by decide +kernel
theorem dX3_rest_31 : decode cX3_rest 31 = .ok (.getfield 63, 3) := by decide +kernel
theorem dX3_rest_34 : decode cX3_rest 34 = .ok (.invokevirtual 66, 3) := by decide +kernel
theorem dX3_rest_37 : decode cX3_rest 37 = .ok (.ireturn, 1) := by decide +kernel
theorem dX3_part_0 : decode cX3_part 0 = .ok (.aload_n 0, 1) := by decide +kernel
theorem dX3_part_1 : decode cX3_part 1 = .ok (.iload_n 1, 1) := by decide +kernel
theorem dX3_part_2 : decode cX3_part 2 = .ok (.invokevirtual 49, 3) := by decide +kernel
theorem dX3_part_5 : decode cX3_part 5 = .ok (.astore 5, 2) := by decide +kernel
theorem dX3_part_7 : decode cX3_part 7 = .ok (.aload_n 0, 1) := by decide +kernel
theorem dX3_part_8 : decode cX3_part 8 = .ok (.iload_n 2, 1) := by decide +kernel
theorem dX3_part_9 : decode cX3_part 9 = .ok (.invokevirtual 49, 3) := by decide +kernel
theorem dX3_part_12 : decode cX3_part 12 = .ok (.astore 6, 2) := by decide +kernel
theorem dX3_part_14 : decode cX3_part 14 = .ok (.iload_n 3, 1) := by decide +kernel
theorem dX3_part_15 : decode cX3_part 15 = .ok (.iconst 0, 1) := by decide +kernel
theorem dX3_part_16 : decode cX3_part 16 = .ok (.aload 6, 2) := by decide +kernel
theorem dX3_part_18 : decode cX3_part 18 = .ok (.getfield 63, 3) := by decide +kernel
theorem dX3_part_21 : decode cX3_part 21 = .ok (.invokestatic 82, 3) := by decide +kernel
theorem dX3_part_24 : decode cX3_part 24 = .ok (.ifCond .eq 19, 3) := by decide +kernel
theorem dX3_part_27 : decode cX3_part 27 = .ok (.iload 4, 2) := by decide +kernel
theorem dX3_part_29 : decode cX3_part 29 = .ok (.iconst 0, 1) := by decide +kernel
theorem dX3_part_30 : decode cX3_part 30 = .ok (.aload 6, 2) := by decide +kernel
theorem dX3_part_32 : decode cX3_part 32 = .ok (.getfield 63, 3) := by decide +kernel
theorem dX3_part_35 : decode cX3_part 35 = .ok (.iload_n 3, 1) := by decide +kernel
theorem dX3_part_36 : decode cX3_part 36 = .ok (.isub, 1) := by decide +kernel
theorem dX3_part_37 : decode cX3_part 37 = .ok (.invokestatic 82, 3) := by decide +kernel
theorem dX3_part_40 : decode cX3_part 40 = .ok (.ifCond .ne 9, 3) := by decide +kernel
theorem dX3_part_43 : decode cX3_part 43 = .ok (.aload_n 0, 1) := by decide +kernel
theorem dX3_part_44 : decode cX3_part 44 = .ok (.iconst 5, 1) := by decide +kernel
theorem dX3_part_45 : decode cX3_part 45 = .ok (.invokevirtual 86, 3) := by decide +kernel
theorem dX3_part_48 : decode cX3_part 48 = .ok (.ireturn, 1) := by decide +kernel
theorem dX3_part_49 : decode cX3_part 49 = .ok (.aload 5, 2) := by decide +kernel
theorem dX3_part_51 : decode cX3_part 51 = .ok (.aload 6, 2) := by decide +kernel
theorem dX3_part_53 : decode cX3_part 53 = .ok (.iload_n 3, 1) := by decide +kernel
theorem dX3_part_54 : decode cX3_part 54 = .ok (.iload 4, 2) := by decide +kernel
theorem dX3_part_56 : decode cX3_part 56 = .ok (.invokevirtual 78, 3) := by decide +kernel
theorem dX3_part_59 : decode cX3_part 59 = .ok (.aload_n 0, 1) := by decide +kernel
theorem dX3_part_60 : decode cX3_part 60 = .ok (.aload 5, 2) := by decide +kernel
theorem dX3_part_62 : decode cX3_part 62 = .ok (.getfield 63, 3) := by decide +kernel
theorem dX3_part_65 : decode cX3_part 65 = .ok (.invokevirtual 66, 3) := by decide +kernel
theorem dX3_part_68 : decode cX3_part 68 = .ok (.ireturn, 1) := by decide +kernel
theorem dX3_exchange_0 : decode cX3_exchange 0 = .ok (.aload_n 0, 1) := by decide +kernel
theorem dX3_exchange_1 : decode cX3_exchange 1 = .ok (.iload_n 1, 1) := by decide +kernel
theorem dX3_exchange_2 : decode cX3_exchange 2 = .ok (.invokevirtual 49, 3) := by decide +kernel
theorem dX3_exchange_5 : decode cX3_exchange 5 = .ok (.astore_n 3, 1) := by decide +kernel
theorem dX3_exchange_6 : decode cX3_exchange 6 = .ok (.aload_n 0, 1) := by decide +kernel
theorem dX3_exchange_7 : decode cX3_exchange 7 = .ok (.iload_n 2, 1) := by decide +kernel
theorem dX3_exchange_8 : decode cX3_exchange 8 = .ok (.invokevirtual 49, 3) := by decide +kernel
theorem dX3_exchange_11 : decode cX3_exchange 11 = .ok (.astore 4, 2) := by decide +kernel
theorem dX3_exchange_13 : decode cX3_exchange 13 = .ok (.aload_n 0, 1) := by decide +kernel
theorem dX3_exchange_14 : decode cX3_exchange 14 = .ok (.iload_n 1, 1) := by decide +kernel
theorem dX3_exchange_15 : decode cX3_exchange 15 = .ok (.aload 4, 2) := by decide +kernel
theorem dX3_exchange_17 : decode cX3_exchange 17 = .ok (.invokevirtual 93, 3) := by decide +kernel
theorem dX3_exchange_20 : decode cX3_exchange 20 = .ok (.aload_n 0, 1) := by decide +kernel
theorem dX3_exchange_21 : decode cX3_exchange 21 = .ok (.iload_n 2, 1) := by decide +kernel
theorem dX3_exchange_22 : decode cX3_exchange 22 = .ok (.aload_n 3, 1) := by decide +kernel
theorem dX3_exchange_23 : decode cX3_exchange 23 = .ok (.invokevirtual 93, 3) := by decide +kernel
theorem dX3_exchange_26 : decode cX3_exchange 26 = .ok (.aload_n 0, 1) := by decide +kernel
theorem dX3_exchange_27 : decode cX3_exchange 27 = .ok (.aload 4, 2) := by decide +kernel
theorem dX3_exchange_29 : decode cX3_exchange 29 = .ok (.getfield 60, 3) := by decide +kernel
theorem dX3_exchange_32 : decode cX3_exchange 32 = .ok (.invokevirtual 66, 3) := by decide +kernel
theorem dX3_exchange_35 : decode cX3_exchange 35 = .ok (.ireturn, 1) := by decide +kernel
theorem dX3_isKin_0 : decode cX3_isKin 0 = .ok (.aload_n 0, 1) := by decide +kernel
theorem dX3_isKin_1 : decode cX3_isKin 1 = .ok (.iload_n 1, 1) := by decide +kernel
theorem dX3_isKin_2 : decode cX3_isKin 2 = .ok (.invokevirtual 49, 3) := by decide +kernel
theorem dX3_isKin_5 : decode cX3_isKin 5 = .ok (.aload_n 0, 1) := by decide +kernel
theorem dX3_isKin_6 : decode cX3_isKin 6 = .ok (.iload_n 2, 1) := by decide +kernel
theorem dX3_isKin_7 : decode cX3_isKin 7 = .ok (.invokevirtual 49, 3) := by decide +kernel
theorem dX3_isKin_10 : decode cX3_isKin 10 = .ok (.invokestatic 177, 3) := by decide +kernel
theorem dX3_isKin_13 : decode cX3_isKin 13 = .ok (.ireturn, 1) := by decide +kernel
theorem dX3_sees_0 : decode cX3_sees 0 = .ok (.aload_n 0, 1) := by decide +kernel
theorem dX3_sees_1 : decode cX3_sees 1 = .ok (.iload_n 1, 1) := by decide +kernel
theorem dX3_sees_2 : decode cX3_sees 2 = .ok (.invokevirtual 49, 3) := by decide +kernel
theorem dX3_sees_5 : decode cX3_sees 5 = .ok (.iload_n 2, 1) := by decide +kernel
theorem dX3_sees_6 : decode cX3_sees 6 = .ok (.aload_n 0, 1) := by decide +kernel
theorem dX3_sees_7 : decode cX3_sees 7 = .ok (.iload_n 3, 1) := by decide +kernel
theorem dX3_sees_8 : decode cX3_sees 8 = .ok (.invokevirtual 49, 3) := by decide +kernel
theorem dX3_sees_11 : decode cX3_sees 11 = .ok (.invokestatic 181, 3) := by decide +kernel
theorem dX3_sees_14 : decode cX3_sees 14 = .ok (.ireturn, 1) := by decide +kernel
set_option maxRecDepth 20000 in
theorem c_X3_setPane (l : Launch) (G : zG) {M : zM} {x : Nat} {pane : Int32} {q : Nat} {lr : Nat} {pa : Nat} {sp : Nat} {ln : Nat} {rf : Nat} {ac : Int32} {kn : Int32} {fp : Nat → Option Nat} {ov9 : Nat} {sa9 : Int32} {cp9 : Int32} {po9 : Int32} {li9 : Int32} {mk9 : Int32} {rd9 : Int32} {i : Nat} (h_x : M x = some (cMp lr pa sp ln rf ac kn)) (h_pa : M pa = some (aP G 6 fp)) (h_q : M q = some (cPn ov9 sa9 cp9 po9 li9 mk9 rd9)) (h_ip : vp_in pane 6) (h_ij : pane.toNatClampNeg = i) : z_Mv l G qX3_setPane (z_rm 1 0 0) [.ref x, .int pane, .ref q] M (fun M' => M' = z_up M pa (aP G 6 (va_up fp i (some q))))  := by
  refine z_Mv_of _ (plainFor_of_name rfl) rfl (Nat.le_of_ble_eq_true rfl) (fun X hl hG hnm C ret => ?_)
  subst hl; subst hG
  have C : z_C X cX3_setPane RX3 3 (z_rm 1 0 0) := C
  show z_W X M 0 0 0 [(0, .ref x), (1, .int pane), (2, .ref q)] []
  refine z_iload_n C dX3_setPane_0 rfl 1 rfl ?_
  refine z_if_lt C (tgt := 20) dX3_setPane_1 (by decide) (fun c1 => absurd c1 (z_ge0 h_ip)) (fun _ => ?_)
  refine z_iload_n C dX3_setPane_4 rfl 1 rfl ?_
  refine z_aload_n C dX3_setPane_5 rfl 0 rfl ?_
  refine gf_X3_20 C h_x dX3_setPane_6 ?_
  refine z_alenP C (v := Int32.ofNat 6) h_pa rfl dX3_setPane_9 ?_
  refine z_icmp_ge C (tgt := 20) dX3_setPane_10 (by decide) (fun c10 => absurd c10 (z_nIn h_ip (by decide))) (fun _ => ?_)
  refine z_aload_n C dX3_setPane_13 rfl 0 rfl ?_
  refine gf_X3_20 C h_x dX3_setPane_14 ?_
  refine z_iload_n C dX3_setPane_17 rfl 1 rfl ?_
  refine z_aload_n C dX3_setPane_18 rfl 2 rfl ?_
  refine z_aastP (j := i) C h_pa h_q h_ip h_ij dX3_setPane_19 ?_
  exact ret dX3_setPane_20 (rfl) (by decide) (by decide)
set_option maxRecDepth 20000 in
theorem c_X3_twin_bad (l : Launch) (G : zG) (h_st : l.stackTraces = false) {M : zM} {x : Nat} {pane : Int32} {other : Int32} {lr : Nat} {pa : Nat} {sp : Nat} {ln : Nat} {rf : Nat} {ac : Int32} {kn : Int32} {fp : Nat → Option Nat}  (h_x : M x = some (cMp lr pa sp ln rf ac kn)) (h_pa : M pa = some (aP G 6 fp)) (h_ip : ¬ vp_in pane 6) : z_Xi l G qX3_twin (z_rm 12 8 48) [.ref x, .int pane, .int other] M (fun r M' => False) (fun E M' => ((pane < 0) ∧ E = "java/lang/IndexOutOfBoundsException" ∧ M' = M) ∨ ((¬ pane < 0) ∧ E = "java/lang/IndexOutOfBoundsException" ∧ M' = M)) := by
  refine z_Xi_of _ _ h_st rfl rfl (Nat.le_of_ble_eq_true rfl) (fun X hl hG C ret thr prp => ?_)
  subst hl; subst hG
  have C : z_C X cX3_twin RX3 5 (z_rm 12 8 48) := C
  show z_W X M 0 0 0 [(0, .ref x), (1, .int pane), (2, .int other)] []
  refine z_aload_n C dX3_twin_0 rfl 0 rfl ?_
  refine z_iload_n C dX3_twin_1 rfl 1 rfl ?_
  refine z_callXVr (rest := []) (k' := 1) (n' := 6) C (c_X3_paneOf_bad (z_l X) (z_G X) h_st h_x h_pa h_ip) (cs_X3_49 C (by decide)) h_x rfl rfl rfl rfl (Nat.le_of_ble_eq_true rfl) rfl rfl (by decide) (by decide) dX3_twin_2 (fun E M' hq => ?_) (fun x2 M' hq => ?_)
  · obtain ⟨cx2_0, rfl, rfl⟩ | ⟨cx2_0, rfl, rfl⟩ := hq
    · exact prp (Or.inl ⟨cx2_0, rfl, rfl⟩) (by decide) (by decide)
    · exact prp (Or.inr (⟨cx2_0, rfl, rfl⟩)) (by decide) (by decide)
  · skip
    exact hq.elim
set_option maxRecDepth 20000 in
theorem c_X3_twin_bad2 (l : Launch) (G : zG) (h_st : l.stackTraces = false) {M : zM} {x : Nat} {pane : Int32} {other : Int32} {lr : Nat} {pa : Nat} {sp : Nat} {ln : Nat} {rf : Nat} {ac : Int32} {kn : Int32} {fp : Nat → Option Nat} {p : Nat} {ov : Nat} {sa : Int32} {cp : Int32} {po : Int32} {li : Int32} {mk : Int32} {rd : Int32} {i : Nat} (h_x : M x = some (cMp lr pa sp ln rf ac kn)) (h_pa : M pa = some (aP G 6 fp)) (h_p : M p = some (cPn ov sa cp po li mk rd)) (h_ip : vp_in pane 6) (h_ij : pane.toNatClampNeg = i) (h_fp : fp i = some p) (h_ip2 : ¬ vp_in other 6) : z_Xi l G qX3_twin (z_rm 12 8 48) [.ref x, .int pane, .int other] M (fun r M' => False) (fun E M' => ((other < 0) ∧ E = "java/lang/IndexOutOfBoundsException" ∧ M' = M) ∨ ((¬ other < 0) ∧ E = "java/lang/IndexOutOfBoundsException" ∧ M' = M)) := by
  refine z_Xi_of _ _ h_st rfl rfl (Nat.le_of_ble_eq_true rfl) (fun X hl hG C ret thr prp => ?_)
  subst hl; subst hG
  have C : z_C X cX3_twin RX3 5 (z_rm 12 8 48) := C
  show z_W X M 0 0 0 [(0, .ref x), (1, .int pane), (2, .int other)] []
  refine z_aload_n C dX3_twin_0 rfl 0 rfl ?_
  refine z_iload_n C dX3_twin_1 rfl 1 rfl ?_
  refine z_callXVr (rest := []) (k' := 1) (n' := 6) C (c_X3_paneOf (z_l X) (z_G X) h_st h_x h_pa h_p h_ip h_ij h_fp) (cs_X3_49 C (by decide)) h_x rfl rfl rfl rfl (Nat.le_of_ble_eq_true rfl) rfl rfl (by decide) (by decide) dX3_twin_2 (fun E M' hq => ?_) (fun x2 M' hq => ?_)
  · exact hq.elim
  · skip
    obtain ⟨hr2, rfl⟩ := hq
    rw [hr2]
    refine z_astore_n (lv' := [(3, .ref p), (0, .ref x), (1, .int pane), (2, .int other)]) C dX3_twin_5 rfl (by decide) rfl ?_
    refine z_aload_n C dX3_twin_6 rfl 1 rfl ?_
    refine z_iload_n C dX3_twin_7 rfl 3 rfl ?_
    refine z_callXVr (rest := []) (k' := 2) (n' := 12) C (c_X3_paneOf_bad (z_l X) (z_G X) h_st h_x h_pa h_ip2) (cs_X3_49 C (by decide)) h_x rfl rfl rfl rfl (Nat.le_of_ble_eq_true rfl) rfl rfl (by decide) (by decide) dX3_twin_8 (fun E M' hq => ?_) (fun x8 M' hq => ?_)
    · obtain ⟨cx8_0, rfl, rfl⟩ | ⟨cx8_0, rfl, rfl⟩ := hq
      · exact prp (Or.inl ⟨cx8_0, rfl, rfl⟩) (by decide) (by decide)
      · exact prp (Or.inr (⟨cx8_0, rfl, rfl⟩)) (by decide) (by decide)
    · skip
      exact hq.elim
set_option maxRecDepth 20000 in
theorem c_X3_twin (l : Launch) (G : zG) (h_st : l.stackTraces = false) {M : zM} {x : Nat} {pane : Int32} {other : Int32} {lr : Nat} {pa : Nat} {sp : Nat} {ln : Nat} {rf : Nat} {ac : Int32} {kn : Int32} {fr : Nat → Int32} {fp : Nat → Option Nat} {p : Nat} {ov : Nat} {sa : Int32} {cp : Int32} {po : Int32} {li : Int32} {mk : Int32} {rd : Int32} {o : Nat} {ov2 : Nat} {sa2 : Int32} {cp2 : Int32} {po2 : Int32} {li2 : Int32} {mk2 : Int32} {rd2 : Int32} {i i2 : Nat}  (h_x : M x = some (cMp lr pa sp ln rf ac kn)) (h_rf : M rf = some (aI G 6 fr)) (h_pa : M pa = some (aP G 6 fp)) (h_p : M p = some (cPn ov sa cp po li mk rd)) (h_o : M o = some (cPn ov2 sa2 cp2 po2 li2 mk2 rd2)) (h_ip : vp_in pane 6) (h_ij : pane.toNatClampNeg = i) (h_fp : fp i = some p) (h_ip2 : vp_in other 6) (h_ij2 : other.toNatClampNeg = i2) (h_fp2 : fp i2 = some o) (h_po : p ≠ o) (h_b1 : narrow .boolean (.int rd2) = .int rd2) (h_b2 : fits .boolean (.int rd2) = true) : z_Xi l G qX3_twin (z_rm 12 8 48) [.ref x, .int pane, .int other] M (fun r M' => r = (li2 - po2) ∧ M' = z_up (z_up M p (cPn ov2 sa2 cp2 po2 li2 mk2 rd2)) x (cMp lr pa sp ln rf (ac + 1) kn)) (fun E M' => False) := by
  refine z_Xi_of _ _ h_st rfl rfl (Nat.le_of_ble_eq_true rfl) (fun X hl hG C ret thr prp => ?_)
  subst hl; subst hG
  have C : z_C X cX3_twin RX3 5 (z_rm 12 8 48) := C
  show z_W X M 0 0 0 [(0, .ref x), (1, .int pane), (2, .int other)] []
  refine z_aload_n C dX3_twin_0 rfl 0 rfl ?_
  refine z_iload_n C dX3_twin_1 rfl 1 rfl ?_
  refine z_callXVr (rest := []) (k' := 1) (n' := 6) C (c_X3_paneOf (z_l X) (z_G X) h_st h_x h_pa h_p h_ip h_ij h_fp) (cs_X3_49 C (by decide)) h_x rfl rfl rfl rfl (Nat.le_of_ble_eq_true rfl) rfl rfl (by decide) (by decide) dX3_twin_2 (fun E M' hq => ?_) (fun x2 M' hq => ?_)
  · exact hq.elim
  · skip
    obtain ⟨hr2, rfl⟩ := hq
    rw [hr2]
    refine z_astore_n (lv' := [(3, .ref p), (0, .ref x), (1, .int pane), (2, .int other)]) C dX3_twin_5 rfl (by decide) rfl ?_
    refine z_aload_n C dX3_twin_6 rfl 1 rfl ?_
    refine z_iload_n C dX3_twin_7 rfl 3 rfl ?_
    refine z_callXVr (rest := []) (k' := 2) (n' := 12) C (c_X3_paneOf (z_l X) (z_G X) h_st h_x h_pa h_o h_ip2 h_ij2 h_fp2) (cs_X3_49 C (by decide)) h_x rfl rfl rfl rfl (Nat.le_of_ble_eq_true rfl) rfl rfl (by decide) (by decide) dX3_twin_8 (fun E M' hq => ?_) (fun x8 M' hq => ?_)
    · exact hq.elim
    · skip
      obtain ⟨hr8, rfl⟩ := hq
      rw [hr8]
      refine z_astore (lv' := [(4, .ref o), (3, .ref p), (0, .ref x), (1, .int pane), (2, .int other)]) C dX3_twin_11 (by decide) rfl ?_
      refine z_aload_n C dX3_twin_13 rfl 1 rfl ?_
      refine z_aload C dX3_twin_14 0 rfl ?_
      refine z_callVv (rest := []) (k' := 2) (n' := 12) C (c_X1_becomeTwin (z_l X) (z_G X) h_p h_o h_po h_b1 h_b2) (cs_X3_70 C (by decide)) h_p rfl rfl rfl rfl (Nat.le_of_ble_eq_true rfl) rfl rfl (by decide) (by decide) dX3_twin_16 (fun M' hq => ?_)
      obtain rfl := hq
      refine z_aload_n C dX3_twin_19 rfl 2 rfl ?_
      refine z_aload_n C dX3_twin_20 rfl 1 rfl ?_
      refine z_callVi (rest := [.ref x]) (k' := 2) (n' := 12) C (c_X1_left (z_l X) (z_G X) (z_up_s _ _ _)) (cs_X3_74 C (by decide)) (z_up_s _ _ _) rfl rfl rfl rfl (Nat.le_of_ble_eq_true rfl) rfl rfl (by decide) (by decide) dX3_twin_21 (fun x21 M' hq => ?_)
      obtain ⟨rfl, rfl⟩ := hq
      refine z_callVi (rest := []) (k' := 2) (n' := 12) C (c_X3_done (z_l X) (z_G X) ((z_up_n _ _ (z_ne h_x h_p (by intro h; cases h))).trans h_x)) (cs_X3_66 C (by decide)) ((z_up_n _ _ (z_ne h_x h_p (by intro h; cases h))).trans h_x) rfl rfl rfl rfl (Nat.le_of_ble_eq_true rfl) rfl rfl (by decide) (by decide) dX3_twin_24 (fun x24 M' hq => ?_)
      obtain ⟨rfl, rfl⟩ := hq
      exact ret dX3_twin_27 rfl (⟨rfl, rfl⟩) (by decide) (by decide)
set_option maxRecDepth 20000 in
theorem c_X3_twin_s (l : Launch) (G : zG) (h_st : l.stackTraces = false) {M : zM} {x : Nat} {pane : Int32} {other : Int32} {lr : Nat} {pa : Nat} {sp : Nat} {ln : Nat} {rf : Nat} {ac : Int32} {kn : Int32} {fr : Nat → Int32} {fp : Nat → Option Nat} {p : Nat} {ov : Nat} {sa : Int32} {cp : Int32} {po : Int32} {li : Int32} {mk : Int32} {rd : Int32} {i i2 : Nat}  (h_x : M x = some (cMp lr pa sp ln rf ac kn)) (h_rf : M rf = some (aI G 6 fr)) (h_pa : M pa = some (aP G 6 fp)) (h_p : M p = some (cPn ov sa cp po li mk rd)) (h_ip : vp_in pane 6) (h_ij : pane.toNatClampNeg = i) (h_fp : fp i = some p) (h_ip2 : vp_in other 6) (h_ij2 : other.toNatClampNeg = i2) (h_fp2 : fp i2 = some p) (h_b1 : narrow .boolean (.int rd) = .int rd) (h_b2 : fits .boolean (.int rd) = true) : z_Xi l G qX3_twin (z_rm 12 8 48) [.ref x, .int pane, .int other] M (fun r M' => r = (li - po) ∧ M' = z_up (z_up M p (cPn ov sa cp po li mk rd)) x (cMp lr pa sp ln rf (ac + 1) kn)) (fun E M' => False) := by
  refine z_Xi_of _ _ h_st rfl rfl (Nat.le_of_ble_eq_true rfl) (fun X hl hG C ret thr prp => ?_)
  subst hl; subst hG
  have C : z_C X cX3_twin RX3 5 (z_rm 12 8 48) := C
  show z_W X M 0 0 0 [(0, .ref x), (1, .int pane), (2, .int other)] []
  refine z_aload_n C dX3_twin_0 rfl 0 rfl ?_
  refine z_iload_n C dX3_twin_1 rfl 1 rfl ?_
  refine z_callXVr (rest := []) (k' := 1) (n' := 6) C (c_X3_paneOf (z_l X) (z_G X) h_st h_x h_pa h_p h_ip h_ij h_fp) (cs_X3_49 C (by decide)) h_x rfl rfl rfl rfl (Nat.le_of_ble_eq_true rfl) rfl rfl (by decide) (by decide) dX3_twin_2 (fun E M' hq => ?_) (fun x2 M' hq => ?_)
  · exact hq.elim
  · skip
    obtain ⟨hr2, rfl⟩ := hq
    rw [hr2]
    refine z_astore_n (lv' := [(3, .ref p), (0, .ref x), (1, .int pane), (2, .int other)]) C dX3_twin_5 rfl (by decide) rfl ?_
    refine z_aload_n C dX3_twin_6 rfl 1 rfl ?_
    refine z_iload_n C dX3_twin_7 rfl 3 rfl ?_
    refine z_callXVr (rest := []) (k' := 2) (n' := 12) C (c_X3_paneOf (z_l X) (z_G X) h_st h_x h_pa h_p h_ip2 h_ij2 h_fp2) (cs_X3_49 C (by decide)) h_x rfl rfl rfl rfl (Nat.le_of_ble_eq_true rfl) rfl rfl (by decide) (by decide) dX3_twin_8 (fun E M' hq => ?_) (fun x8 M' hq => ?_)
    · exact hq.elim
    · skip
      obtain ⟨hr8, rfl⟩ := hq
      rw [hr8]
      refine z_astore (lv' := [(4, .ref p), (3, .ref p), (0, .ref x), (1, .int pane), (2, .int other)]) C dX3_twin_11 (by decide) rfl ?_
      refine z_aload_n C dX3_twin_13 rfl 1 rfl ?_
      refine z_aload C dX3_twin_14 0 rfl ?_
      refine z_callVv (rest := []) (k' := 2) (n' := 12) C (c_X1_becomeTwin_s (z_l X) (z_G X) h_p h_b1 h_b2) (cs_X3_70 C (by decide)) h_p rfl rfl rfl rfl (Nat.le_of_ble_eq_true rfl) rfl rfl (by decide) (by decide) dX3_twin_16 (fun M' hq => ?_)
      obtain rfl := hq
      refine z_aload_n C dX3_twin_19 rfl 2 rfl ?_
      refine z_aload_n C dX3_twin_20 rfl 1 rfl ?_
      refine z_callVi (rest := [.ref x]) (k' := 2) (n' := 12) C (c_X1_left (z_l X) (z_G X) (z_up_s _ _ _)) (cs_X3_74 C (by decide)) (z_up_s _ _ _) rfl rfl rfl rfl (Nat.le_of_ble_eq_true rfl) rfl rfl (by decide) (by decide) dX3_twin_21 (fun x21 M' hq => ?_)
      obtain ⟨rfl, rfl⟩ := hq
      refine z_callVi (rest := []) (k' := 2) (n' := 12) C (c_X3_done (z_l X) (z_G X) ((z_up_n _ _ (z_ne h_x h_p (by intro h; cases h))).trans h_x)) (cs_X3_66 C (by decide)) ((z_up_n _ _ (z_ne h_x h_p (by intro h; cases h))).trans h_x) rfl rfl rfl rfl (Nat.le_of_ble_eq_true rfl) rfl rfl (by decide) (by decide) dX3_twin_24 (fun x24 M' hq => ?_)
      obtain ⟨rfl, rfl⟩ := hq
      exact ret dX3_twin_27 rfl (⟨rfl, rfl⟩) (by decide) (by decide)
set_option maxRecDepth 20000 in
theorem c_X3_reader_bad (l : Launch) (G : zG) (h_st : l.stackTraces = false) {M : zM} {x : Nat} {pane : Int32} {other : Int32} {lr : Nat} {pa : Nat} {sp : Nat} {ln : Nat} {rf : Nat} {ac : Int32} {kn : Int32} {fp : Nat → Option Nat}  (h_x : M x = some (cMp lr pa sp ln rf ac kn)) (h_pa : M pa = some (aP G 6 fp)) (h_ip : ¬ vp_in pane 6) : z_Xi l G qX3_reader (z_rm 12 8 48) [.ref x, .int pane, .int other] M (fun r M' => False) (fun E M' => ((pane < 0) ∧ E = "java/lang/IndexOutOfBoundsException" ∧ M' = M) ∨ ((¬ pane < 0) ∧ E = "java/lang/IndexOutOfBoundsException" ∧ M' = M)) := by
  refine z_Xi_of _ _ h_st rfl rfl (Nat.le_of_ble_eq_true rfl) (fun X hl hG C ret thr prp => ?_)
  subst hl; subst hG
  have C : z_C X cX3_reader RX3 5 (z_rm 12 8 48) := C
  show z_W X M 0 0 0 [(0, .ref x), (1, .int pane), (2, .int other)] []
  refine z_aload_n C dX3_reader_0 rfl 0 rfl ?_
  refine z_iload_n C dX3_reader_1 rfl 1 rfl ?_
  refine z_callXVr (rest := []) (k' := 1) (n' := 6) C (c_X3_paneOf_bad (z_l X) (z_G X) h_st h_x h_pa h_ip) (cs_X3_49 C (by decide)) h_x rfl rfl rfl rfl (Nat.le_of_ble_eq_true rfl) rfl rfl (by decide) (by decide) dX3_reader_2 (fun E M' hq => ?_) (fun x2 M' hq => ?_)
  · obtain ⟨cx2_0, rfl, rfl⟩ | ⟨cx2_0, rfl, rfl⟩ := hq
    · exact prp (Or.inl ⟨cx2_0, rfl, rfl⟩) (by decide) (by decide)
    · exact prp (Or.inr (⟨cx2_0, rfl, rfl⟩)) (by decide) (by decide)
  · skip
    exact hq.elim
set_option maxRecDepth 20000 in
theorem c_X3_reader_bad2 (l : Launch) (G : zG) (h_st : l.stackTraces = false) {M : zM} {x : Nat} {pane : Int32} {other : Int32} {lr : Nat} {pa : Nat} {sp : Nat} {ln : Nat} {rf : Nat} {ac : Int32} {kn : Int32} {fp : Nat → Option Nat} {p : Nat} {ov : Nat} {sa : Int32} {cp : Int32} {po : Int32} {li : Int32} {mk : Int32} {rd : Int32} {i : Nat} (h_x : M x = some (cMp lr pa sp ln rf ac kn)) (h_pa : M pa = some (aP G 6 fp)) (h_p : M p = some (cPn ov sa cp po li mk rd)) (h_ip : vp_in pane 6) (h_ij : pane.toNatClampNeg = i) (h_fp : fp i = some p) (h_ip2 : ¬ vp_in other 6) : z_Xi l G qX3_reader (z_rm 12 8 48) [.ref x, .int pane, .int other] M (fun r M' => False) (fun E M' => ((other < 0) ∧ E = "java/lang/IndexOutOfBoundsException" ∧ M' = M) ∨ ((¬ other < 0) ∧ E = "java/lang/IndexOutOfBoundsException" ∧ M' = M)) := by
  refine z_Xi_of _ _ h_st rfl rfl (Nat.le_of_ble_eq_true rfl) (fun X hl hG C ret thr prp => ?_)
  subst hl; subst hG
  have C : z_C X cX3_reader RX3 5 (z_rm 12 8 48) := C
  show z_W X M 0 0 0 [(0, .ref x), (1, .int pane), (2, .int other)] []
  refine z_aload_n C dX3_reader_0 rfl 0 rfl ?_
  refine z_iload_n C dX3_reader_1 rfl 1 rfl ?_
  refine z_callXVr (rest := []) (k' := 1) (n' := 6) C (c_X3_paneOf (z_l X) (z_G X) h_st h_x h_pa h_p h_ip h_ij h_fp) (cs_X3_49 C (by decide)) h_x rfl rfl rfl rfl (Nat.le_of_ble_eq_true rfl) rfl rfl (by decide) (by decide) dX3_reader_2 (fun E M' hq => ?_) (fun x2 M' hq => ?_)
  · exact hq.elim
  · skip
    obtain ⟨hr2, rfl⟩ := hq
    rw [hr2]
    refine z_astore_n (lv' := [(3, .ref p), (0, .ref x), (1, .int pane), (2, .int other)]) C dX3_reader_5 rfl (by decide) rfl ?_
    refine z_aload_n C dX3_reader_6 rfl 1 rfl ?_
    refine z_iload_n C dX3_reader_7 rfl 3 rfl ?_
    refine z_callXVr (rest := []) (k' := 2) (n' := 12) C (c_X3_paneOf_bad (z_l X) (z_G X) h_st h_x h_pa h_ip2) (cs_X3_49 C (by decide)) h_x rfl rfl rfl rfl (Nat.le_of_ble_eq_true rfl) rfl rfl (by decide) (by decide) dX3_reader_8 (fun E M' hq => ?_) (fun x8 M' hq => ?_)
    · obtain ⟨cx8_0, rfl, rfl⟩ | ⟨cx8_0, rfl, rfl⟩ := hq
      · exact prp (Or.inl ⟨cx8_0, rfl, rfl⟩) (by decide) (by decide)
      · exact prp (Or.inr (⟨cx8_0, rfl, rfl⟩)) (by decide) (by decide)
    · skip
      exact hq.elim
set_option maxRecDepth 20000 in
theorem c_X3_reader (l : Launch) (G : zG) (h_st : l.stackTraces = false) {M : zM} {x : Nat} {pane : Int32} {other : Int32} {lr : Nat} {pa : Nat} {sp : Nat} {ln : Nat} {rf : Nat} {ac : Int32} {kn : Int32} {fr : Nat → Int32} {fp : Nat → Option Nat} {p : Nat} {ov : Nat} {sa : Int32} {cp : Int32} {po : Int32} {li : Int32} {mk : Int32} {rd : Int32} {o : Nat} {ov2 : Nat} {sa2 : Int32} {cp2 : Int32} {po2 : Int32} {li2 : Int32} {mk2 : Int32} {rd2 : Int32} {i i2 : Nat}  (h_x : M x = some (cMp lr pa sp ln rf ac kn)) (h_rf : M rf = some (aI G 6 fr)) (h_pa : M pa = some (aP G 6 fp)) (h_p : M p = some (cPn ov sa cp po li mk rd)) (h_o : M o = some (cPn ov2 sa2 cp2 po2 li2 mk2 rd2)) (h_ip : vp_in pane 6) (h_ij : pane.toNatClampNeg = i) (h_fp : fp i = some p) (h_ip2 : vp_in other 6) (h_ij2 : other.toNatClampNeg = i2) (h_fp2 : fp i2 = some o) (h_po : p ≠ o) (h_b1 : narrow .boolean (.int rd2) = .int rd2) (h_b2 : fits .boolean (.int rd2) = true) : z_Xi l G qX3_reader (z_rm 12 8 48) [.ref x, .int pane, .int other] M (fun r M' => r = (li2 - po2) ∧ M' = z_up (z_up M p (cPn ov2 sa2 cp2 po2 li2 mk2 1)) x (cMp lr pa sp ln rf (ac + 1) kn)) (fun E M' => False) := by
  refine z_Xi_of _ _ h_st rfl rfl (Nat.le_of_ble_eq_true rfl) (fun X hl hG C ret thr prp => ?_)
  subst hl; subst hG
  have C : z_C X cX3_reader RX3 5 (z_rm 12 8 48) := C
  show z_W X M 0 0 0 [(0, .ref x), (1, .int pane), (2, .int other)] []
  refine z_aload_n C dX3_reader_0 rfl 0 rfl ?_
  refine z_iload_n C dX3_reader_1 rfl 1 rfl ?_
  refine z_callXVr (rest := []) (k' := 1) (n' := 6) C (c_X3_paneOf (z_l X) (z_G X) h_st h_x h_pa h_p h_ip h_ij h_fp) (cs_X3_49 C (by decide)) h_x rfl rfl rfl rfl (Nat.le_of_ble_eq_true rfl) rfl rfl (by decide) (by decide) dX3_reader_2 (fun E M' hq => ?_) (fun x2 M' hq => ?_)
  · exact hq.elim
  · skip
    obtain ⟨hr2, rfl⟩ := hq
    rw [hr2]
    refine z_astore_n (lv' := [(3, .ref p), (0, .ref x), (1, .int pane), (2, .int other)]) C dX3_reader_5 rfl (by decide) rfl ?_
    refine z_aload_n C dX3_reader_6 rfl 1 rfl ?_
    refine z_iload_n C dX3_reader_7 rfl 3 rfl ?_
    refine z_callXVr (rest := []) (k' := 2) (n' := 12) C (c_X3_paneOf (z_l X) (z_G X) h_st h_x h_pa h_o h_ip2 h_ij2 h_fp2) (cs_X3_49 C (by decide)) h_x rfl rfl rfl rfl (Nat.le_of_ble_eq_true rfl) rfl rfl (by decide) (by decide) dX3_reader_8 (fun E M' hq => ?_) (fun x8 M' hq => ?_)
    · exact hq.elim
    · skip
      obtain ⟨hr8, rfl⟩ := hq
      rw [hr8]
      refine z_astore (lv' := [(4, .ref o), (3, .ref p), (0, .ref x), (1, .int pane), (2, .int other)]) C dX3_reader_11 (by decide) rfl ?_
      refine z_aload_n C dX3_reader_13 rfl 1 rfl ?_
      refine z_aload C dX3_reader_14 0 rfl ?_
      refine z_callVv (rest := []) (k' := 2) (n' := 12) C (c_X1_becomeTwin (z_l X) (z_G X) h_p h_o h_po h_b1 h_b2) (cs_X3_70 C (by decide)) h_p rfl rfl rfl rfl (Nat.le_of_ble_eq_true rfl) rfl rfl (by decide) (by decide) dX3_reader_16 (fun M' hq => ?_)
      obtain rfl := hq
      refine z_aload_n C dX3_reader_19 rfl 1 rfl ?_
      refine z_iconst C (v := 1) dX3_reader_20 (by decide) ?_
      refine pg_X3_89 C rfl rfl dX3_reader_21 ?_
      refine z_aload_n C dX3_reader_24 rfl 2 rfl ?_
      refine z_aload_n C dX3_reader_25 rfl 1 rfl ?_
      refine z_callVi (rest := [.ref x]) (k' := 2) (n' := 12) C (c_X1_left (z_l X) (z_G X) (z_up_s _ _ _)) (cs_X3_74 C (by decide)) (z_up_s _ _ _) rfl rfl rfl rfl (Nat.le_of_ble_eq_true rfl) rfl rfl (by decide) (by decide) dX3_reader_26 (fun x26 M' hq => ?_)
      obtain ⟨rfl, rfl⟩ := hq
      refine z_callVi (rest := []) (k' := 2) (n' := 12) C (c_X3_done (z_l X) (z_G X) ((z_up_n _ _ (z_ne h_x h_p (by intro h; cases h))).trans h_x)) (cs_X3_66 C (by decide)) ((z_up_n _ _ (z_ne h_x h_p (by intro h; cases h))).trans h_x) rfl rfl rfl rfl (Nat.le_of_ble_eq_true rfl) rfl rfl (by decide) (by decide) dX3_reader_29 (fun x29 M' hq => ?_)
      obtain ⟨rfl, rfl⟩ := hq
      exact ret dX3_reader_32 rfl (⟨rfl, rfl⟩) (by decide) (by decide)
set_option maxRecDepth 20000 in
theorem c_X3_reader_s (l : Launch) (G : zG) (h_st : l.stackTraces = false) {M : zM} {x : Nat} {pane : Int32} {other : Int32} {lr : Nat} {pa : Nat} {sp : Nat} {ln : Nat} {rf : Nat} {ac : Int32} {kn : Int32} {fr : Nat → Int32} {fp : Nat → Option Nat} {p : Nat} {ov : Nat} {sa : Int32} {cp : Int32} {po : Int32} {li : Int32} {mk : Int32} {rd : Int32} {i i2 : Nat}  (h_x : M x = some (cMp lr pa sp ln rf ac kn)) (h_rf : M rf = some (aI G 6 fr)) (h_pa : M pa = some (aP G 6 fp)) (h_p : M p = some (cPn ov sa cp po li mk rd)) (h_ip : vp_in pane 6) (h_ij : pane.toNatClampNeg = i) (h_fp : fp i = some p) (h_ip2 : vp_in other 6) (h_ij2 : other.toNatClampNeg = i2) (h_fp2 : fp i2 = some p) (h_b1 : narrow .boolean (.int rd) = .int rd) (h_b2 : fits .boolean (.int rd) = true) : z_Xi l G qX3_reader (z_rm 12 8 48) [.ref x, .int pane, .int other] M (fun r M' => r = (li - po) ∧ M' = z_up (z_up M p (cPn ov sa cp po li mk 1)) x (cMp lr pa sp ln rf (ac + 1) kn)) (fun E M' => False) := by
  refine z_Xi_of _ _ h_st rfl rfl (Nat.le_of_ble_eq_true rfl) (fun X hl hG C ret thr prp => ?_)
  subst hl; subst hG
  have C : z_C X cX3_reader RX3 5 (z_rm 12 8 48) := C
  show z_W X M 0 0 0 [(0, .ref x), (1, .int pane), (2, .int other)] []
  refine z_aload_n C dX3_reader_0 rfl 0 rfl ?_
  refine z_iload_n C dX3_reader_1 rfl 1 rfl ?_
  refine z_callXVr (rest := []) (k' := 1) (n' := 6) C (c_X3_paneOf (z_l X) (z_G X) h_st h_x h_pa h_p h_ip h_ij h_fp) (cs_X3_49 C (by decide)) h_x rfl rfl rfl rfl (Nat.le_of_ble_eq_true rfl) rfl rfl (by decide) (by decide) dX3_reader_2 (fun E M' hq => ?_) (fun x2 M' hq => ?_)
  · exact hq.elim
  · skip
    obtain ⟨hr2, rfl⟩ := hq
    rw [hr2]
    refine z_astore_n (lv' := [(3, .ref p), (0, .ref x), (1, .int pane), (2, .int other)]) C dX3_reader_5 rfl (by decide) rfl ?_
    refine z_aload_n C dX3_reader_6 rfl 1 rfl ?_
    refine z_iload_n C dX3_reader_7 rfl 3 rfl ?_
    refine z_callXVr (rest := []) (k' := 2) (n' := 12) C (c_X3_paneOf (z_l X) (z_G X) h_st h_x h_pa h_p h_ip2 h_ij2 h_fp2) (cs_X3_49 C (by decide)) h_x rfl rfl rfl rfl (Nat.le_of_ble_eq_true rfl) rfl rfl (by decide) (by decide) dX3_reader_8 (fun E M' hq => ?_) (fun x8 M' hq => ?_)
    · exact hq.elim
    · skip
      obtain ⟨hr8, rfl⟩ := hq
      rw [hr8]
      refine z_astore (lv' := [(4, .ref p), (3, .ref p), (0, .ref x), (1, .int pane), (2, .int other)]) C dX3_reader_11 (by decide) rfl ?_
      refine z_aload_n C dX3_reader_13 rfl 1 rfl ?_
      refine z_aload C dX3_reader_14 0 rfl ?_
      refine z_callVv (rest := []) (k' := 2) (n' := 12) C (c_X1_becomeTwin_s (z_l X) (z_G X) h_p h_b1 h_b2) (cs_X3_70 C (by decide)) h_p rfl rfl rfl rfl (Nat.le_of_ble_eq_true rfl) rfl rfl (by decide) (by decide) dX3_reader_16 (fun M' hq => ?_)
      obtain rfl := hq
      refine z_aload_n C dX3_reader_19 rfl 1 rfl ?_
      refine z_iconst C (v := 1) dX3_reader_20 (by decide) ?_
      refine pg_X3_89 C rfl rfl dX3_reader_21 ?_
      refine z_aload_n C dX3_reader_24 rfl 2 rfl ?_
      refine z_aload_n C dX3_reader_25 rfl 1 rfl ?_
      refine z_callVi (rest := [.ref x]) (k' := 2) (n' := 12) C (c_X1_left (z_l X) (z_G X) (z_up_s _ _ _)) (cs_X3_74 C (by decide)) (z_up_s _ _ _) rfl rfl rfl rfl (Nat.le_of_ble_eq_true rfl) rfl rfl (by decide) (by decide) dX3_reader_26 (fun x26 M' hq => ?_)
      obtain ⟨rfl, rfl⟩ := hq
      refine z_callVi (rest := []) (k' := 2) (n' := 12) C (c_X3_done (z_l X) (z_G X) ((z_up_n _ _ (z_ne h_x h_p (by intro h; cases h))).trans h_x)) (cs_X3_66 C (by decide)) ((z_up_n _ _ (z_ne h_x h_p (by intro h; cases h))).trans h_x) rfl rfl rfl rfl (Nat.le_of_ble_eq_true rfl) rfl rfl (by decide) (by decide) dX3_reader_29 (fun x29 M' hq => ?_)
      obtain ⟨rfl, rfl⟩ := hq
      exact ret dX3_reader_32 rfl (⟨rfl, rfl⟩) (by decide) (by decide)
set_option maxRecDepth 20000 in
theorem c_X3_rest_bad (l : Launch) (G : zG) (h_st : l.stackTraces = false) {M : zM} {x : Nat} {pane : Int32} {other : Int32} {lr : Nat} {pa : Nat} {sp : Nat} {ln : Nat} {rf : Nat} {ac : Int32} {kn : Int32} {fp : Nat → Option Nat}  (h_x : M x = some (cMp lr pa sp ln rf ac kn)) (h_pa : M pa = some (aP G 6 fp)) (h_ip : ¬ vp_in pane 6) : z_Xi l G qX3_rest (z_rm 12 8 48) [.ref x, .int pane, .int other] M (fun r M' => False) (fun E M' => ((pane < 0) ∧ E = "java/lang/IndexOutOfBoundsException" ∧ M' = M) ∨ ((¬ pane < 0) ∧ E = "java/lang/IndexOutOfBoundsException" ∧ M' = M)) := by
  refine z_Xi_of _ _ h_st rfl rfl (Nat.le_of_ble_eq_true rfl) (fun X hl hG C ret thr prp => ?_)
  subst hl; subst hG
  have C : z_C X cX3_rest RX3 5 (z_rm 12 8 48) := C
  show z_W X M 0 0 0 [(0, .ref x), (1, .int pane), (2, .int other)] []
  refine z_aload_n C dX3_rest_0 rfl 0 rfl ?_
  refine z_iload_n C dX3_rest_1 rfl 1 rfl ?_
  refine z_callXVr (rest := []) (k' := 1) (n' := 6) C (c_X3_paneOf_bad (z_l X) (z_G X) h_st h_x h_pa h_ip) (cs_X3_49 C (by decide)) h_x rfl rfl rfl rfl (Nat.le_of_ble_eq_true rfl) rfl rfl (by decide) (by decide) dX3_rest_2 (fun E M' hq => ?_) (fun x2 M' hq => ?_)
  · obtain ⟨cx2_0, rfl, rfl⟩ | ⟨cx2_0, rfl, rfl⟩ := hq
    · exact prp (Or.inl ⟨cx2_0, rfl, rfl⟩) (by decide) (by decide)
    · exact prp (Or.inr (⟨cx2_0, rfl, rfl⟩)) (by decide) (by decide)
  · skip
    exact hq.elim
set_option maxRecDepth 20000 in
theorem c_X3_rest_bad2 (l : Launch) (G : zG) (h_st : l.stackTraces = false) {M : zM} {x : Nat} {pane : Int32} {other : Int32} {lr : Nat} {pa : Nat} {sp : Nat} {ln : Nat} {rf : Nat} {ac : Int32} {kn : Int32} {fp : Nat → Option Nat} {p : Nat} {ov : Nat} {sa : Int32} {cp : Int32} {po : Int32} {li : Int32} {mk : Int32} {rd : Int32} {i : Nat} (h_x : M x = some (cMp lr pa sp ln rf ac kn)) (h_pa : M pa = some (aP G 6 fp)) (h_p : M p = some (cPn ov sa cp po li mk rd)) (h_ip : vp_in pane 6) (h_ij : pane.toNatClampNeg = i) (h_fp : fp i = some p) (h_ip2 : ¬ vp_in other 6) : z_Xi l G qX3_rest (z_rm 12 8 48) [.ref x, .int pane, .int other] M (fun r M' => False) (fun E M' => ((other < 0) ∧ E = "java/lang/IndexOutOfBoundsException" ∧ M' = M) ∨ ((¬ other < 0) ∧ E = "java/lang/IndexOutOfBoundsException" ∧ M' = M)) := by
  refine z_Xi_of _ _ h_st rfl rfl (Nat.le_of_ble_eq_true rfl) (fun X hl hG C ret thr prp => ?_)
  subst hl; subst hG
  have C : z_C X cX3_rest RX3 5 (z_rm 12 8 48) := C
  show z_W X M 0 0 0 [(0, .ref x), (1, .int pane), (2, .int other)] []
  refine z_aload_n C dX3_rest_0 rfl 0 rfl ?_
  refine z_iload_n C dX3_rest_1 rfl 1 rfl ?_
  refine z_callXVr (rest := []) (k' := 1) (n' := 6) C (c_X3_paneOf (z_l X) (z_G X) h_st h_x h_pa h_p h_ip h_ij h_fp) (cs_X3_49 C (by decide)) h_x rfl rfl rfl rfl (Nat.le_of_ble_eq_true rfl) rfl rfl (by decide) (by decide) dX3_rest_2 (fun E M' hq => ?_) (fun x2 M' hq => ?_)
  · exact hq.elim
  · skip
    obtain ⟨hr2, rfl⟩ := hq
    rw [hr2]
    refine z_astore_n (lv' := [(3, .ref p), (0, .ref x), (1, .int pane), (2, .int other)]) C dX3_rest_5 rfl (by decide) rfl ?_
    refine z_aload_n C dX3_rest_6 rfl 1 rfl ?_
    refine z_iload_n C dX3_rest_7 rfl 3 rfl ?_
    refine z_callXVr (rest := []) (k' := 2) (n' := 12) C (c_X3_paneOf_bad (z_l X) (z_G X) h_st h_x h_pa h_ip2) (cs_X3_49 C (by decide)) h_x rfl rfl rfl rfl (Nat.le_of_ble_eq_true rfl) rfl rfl (by decide) (by decide) dX3_rest_8 (fun E M' hq => ?_) (fun x8 M' hq => ?_)
    · obtain ⟨cx8_0, rfl, rfl⟩ | ⟨cx8_0, rfl, rfl⟩ := hq
      · exact prp (Or.inl ⟨cx8_0, rfl, rfl⟩) (by decide) (by decide)
      · exact prp (Or.inr (⟨cx8_0, rfl, rfl⟩)) (by decide) (by decide)
    · skip
      exact hq.elim
set_option maxRecDepth 20000 in
theorem c_X3_rest (l : Launch) (G : zG) (h_st : l.stackTraces = false) {M : zM} {x : Nat} {pane : Int32} {other : Int32} {lr : Nat} {pa : Nat} {sp : Nat} {ln : Nat} {rf : Nat} {ac : Int32} {kn : Int32} {fr : Nat → Int32} {fp : Nat → Option Nat} {p : Nat} {ov : Nat} {sa : Int32} {cp : Int32} {po : Int32} {li : Int32} {mk : Int32} {rd : Int32} {o : Nat} {ov2 : Nat} {sa2 : Int32} {cp2 : Int32} {po2 : Int32} {li2 : Int32} {mk2 : Int32} {rd2 : Int32} {i i2 : Nat}  (h_x : M x = some (cMp lr pa sp ln rf ac kn)) (h_rf : M rf = some (aI G 6 fr)) (h_pa : M pa = some (aP G 6 fp)) (h_p : M p = some (cPn ov sa cp po li mk rd)) (h_o : M o = some (cPn ov2 sa2 cp2 po2 li2 mk2 rd2)) (h_ip : vp_in pane 6) (h_ij : pane.toNatClampNeg = i) (h_fp : fp i = some p) (h_ip2 : vp_in other 6) (h_ij2 : other.toNatClampNeg = i2) (h_fp2 : fp i2 = some o) (h_po : p ≠ o) (h_b1 : narrow .boolean (.int rd2) = .int rd2) (h_b2 : fits .boolean (.int rd2) = true) : z_Xi l G qX3_rest (z_rm 12 8 48) [.ref x, .int pane, .int other] M (fun r M' => r = (li2 - po2) ∧ M' = z_up (z_up M p (cPn ov2 (sa2 + po2) (li2 - po2) 0 (li2 - po2) (-1) rd2)) x (cMp lr pa sp ln rf (ac + 1) kn)) (fun E M' => False) := by
  refine z_Xi_of _ _ h_st rfl rfl (Nat.le_of_ble_eq_true rfl) (fun X hl hG C ret thr prp => ?_)
  subst hl; subst hG
  have C : z_C X cX3_rest RX3 5 (z_rm 12 8 48) := C
  show z_W X M 0 0 0 [(0, .ref x), (1, .int pane), (2, .int other)] []
  refine z_aload_n C dX3_rest_0 rfl 0 rfl ?_
  refine z_iload_n C dX3_rest_1 rfl 1 rfl ?_
  refine z_callXVr (rest := []) (k' := 1) (n' := 6) C (c_X3_paneOf (z_l X) (z_G X) h_st h_x h_pa h_p h_ip h_ij h_fp) (cs_X3_49 C (by decide)) h_x rfl rfl rfl rfl (Nat.le_of_ble_eq_true rfl) rfl rfl (by decide) (by decide) dX3_rest_2 (fun E M' hq => ?_) (fun x2 M' hq => ?_)
  · exact hq.elim
  · skip
    obtain ⟨hr2, rfl⟩ := hq
    rw [hr2]
    refine z_astore_n (lv' := [(3, .ref p), (0, .ref x), (1, .int pane), (2, .int other)]) C dX3_rest_5 rfl (by decide) rfl ?_
    refine z_aload_n C dX3_rest_6 rfl 1 rfl ?_
    refine z_iload_n C dX3_rest_7 rfl 3 rfl ?_
    refine z_callXVr (rest := []) (k' := 2) (n' := 12) C (c_X3_paneOf (z_l X) (z_G X) h_st h_x h_pa h_o h_ip2 h_ij2 h_fp2) (cs_X3_49 C (by decide)) h_x rfl rfl rfl rfl (Nat.le_of_ble_eq_true rfl) rfl rfl (by decide) (by decide) dX3_rest_8 (fun E M' hq => ?_) (fun x8 M' hq => ?_)
    · exact hq.elim
    · skip
      obtain ⟨hr8, rfl⟩ := hq
      rw [hr8]
      refine z_astore (lv' := [(4, .ref o), (3, .ref p), (0, .ref x), (1, .int pane), (2, .int other)]) C dX3_rest_11 (by decide) rfl ?_
      refine z_aload_n C dX3_rest_13 rfl 1 rfl ?_
      refine z_aload C dX3_rest_14 0 rfl ?_
      refine z_aload C dX3_rest_16 0 rfl ?_
      refine gf_X3_60 C h_o dX3_rest_18 ?_
      refine z_aload C dX3_rest_21 0 rfl ?_
      refine z_callVi (rest := [.int po2, .ref o, .ref p]) (k' := 2) (n' := 12) C (c_X1_left (z_l X) (z_G X) h_o) (cs_X3_74 C (by decide)) h_o rfl rfl rfl rfl (Nat.le_of_ble_eq_true rfl) rfl rfl (by decide) (by decide) dX3_rest_23 (fun x23 M' hq => ?_)
      obtain ⟨rfl, rfl⟩ := hq
      refine z_callVv (rest := []) (k' := 2) (n' := 12) C (c_X1_becomePart (z_l X) (z_G X) h_p h_o h_po h_b1 h_b2) (cs_X3_78 C (by decide)) h_p rfl rfl rfl rfl (Nat.le_of_ble_eq_true rfl) rfl rfl (by decide) (by decide) dX3_rest_26 (fun M' hq => ?_)
      obtain rfl := hq
      refine z_aload_n C dX3_rest_29 rfl 2 rfl ?_
      refine z_aload_n C dX3_rest_30 rfl 1 rfl ?_
      refine gf_X3_63 C (z_up_s _ _ _) dX3_rest_31 ?_
      refine z_callVi (rest := []) (k' := 2) (n' := 12) C (c_X3_done (z_l X) (z_G X) ((z_up_n _ _ (z_ne h_x h_p (by intro h; cases h))).trans h_x)) (cs_X3_66 C (by decide)) ((z_up_n _ _ (z_ne h_x h_p (by intro h; cases h))).trans h_x) rfl rfl rfl rfl (Nat.le_of_ble_eq_true rfl) rfl rfl (by decide) (by decide) dX3_rest_34 (fun x34 M' hq => ?_)
      obtain ⟨rfl, rfl⟩ := hq
      exact ret dX3_rest_37 rfl (⟨rfl, rfl⟩) (by decide) (by decide)
set_option maxRecDepth 20000 in
theorem c_X3_rest_s (l : Launch) (G : zG) (h_st : l.stackTraces = false) {M : zM} {x : Nat} {pane : Int32} {other : Int32} {lr : Nat} {pa : Nat} {sp : Nat} {ln : Nat} {rf : Nat} {ac : Int32} {kn : Int32} {fr : Nat → Int32} {fp : Nat → Option Nat} {p : Nat} {ov : Nat} {sa : Int32} {cp : Int32} {po : Int32} {li : Int32} {mk : Int32} {rd : Int32} {i i2 : Nat}  (h_x : M x = some (cMp lr pa sp ln rf ac kn)) (h_rf : M rf = some (aI G 6 fr)) (h_pa : M pa = some (aP G 6 fp)) (h_p : M p = some (cPn ov sa cp po li mk rd)) (h_ip : vp_in pane 6) (h_ij : pane.toNatClampNeg = i) (h_fp : fp i = some p) (h_ip2 : vp_in other 6) (h_ij2 : other.toNatClampNeg = i2) (h_fp2 : fp i2 = some p) (h_b1 : narrow .boolean (.int rd) = .int rd) (h_b2 : fits .boolean (.int rd) = true) : z_Xi l G qX3_rest (z_rm 12 8 48) [.ref x, .int pane, .int other] M (fun r M' => r = (li - po) ∧ M' = z_up (z_up M p (cPn ov (sa + po) (li - po) 0 (li - po) (-1) rd)) x (cMp lr pa sp ln rf (ac + 1) kn)) (fun E M' => False) := by
  refine z_Xi_of _ _ h_st rfl rfl (Nat.le_of_ble_eq_true rfl) (fun X hl hG C ret thr prp => ?_)
  subst hl; subst hG
  have C : z_C X cX3_rest RX3 5 (z_rm 12 8 48) := C
  show z_W X M 0 0 0 [(0, .ref x), (1, .int pane), (2, .int other)] []
  refine z_aload_n C dX3_rest_0 rfl 0 rfl ?_
  refine z_iload_n C dX3_rest_1 rfl 1 rfl ?_
  refine z_callXVr (rest := []) (k' := 1) (n' := 6) C (c_X3_paneOf (z_l X) (z_G X) h_st h_x h_pa h_p h_ip h_ij h_fp) (cs_X3_49 C (by decide)) h_x rfl rfl rfl rfl (Nat.le_of_ble_eq_true rfl) rfl rfl (by decide) (by decide) dX3_rest_2 (fun E M' hq => ?_) (fun x2 M' hq => ?_)
  · exact hq.elim
  · skip
    obtain ⟨hr2, rfl⟩ := hq
    rw [hr2]
    refine z_astore_n (lv' := [(3, .ref p), (0, .ref x), (1, .int pane), (2, .int other)]) C dX3_rest_5 rfl (by decide) rfl ?_
    refine z_aload_n C dX3_rest_6 rfl 1 rfl ?_
    refine z_iload_n C dX3_rest_7 rfl 3 rfl ?_
    refine z_callXVr (rest := []) (k' := 2) (n' := 12) C (c_X3_paneOf (z_l X) (z_G X) h_st h_x h_pa h_p h_ip2 h_ij2 h_fp2) (cs_X3_49 C (by decide)) h_x rfl rfl rfl rfl (Nat.le_of_ble_eq_true rfl) rfl rfl (by decide) (by decide) dX3_rest_8 (fun E M' hq => ?_) (fun x8 M' hq => ?_)
    · exact hq.elim
    · skip
      obtain ⟨hr8, rfl⟩ := hq
      rw [hr8]
      refine z_astore (lv' := [(4, .ref p), (3, .ref p), (0, .ref x), (1, .int pane), (2, .int other)]) C dX3_rest_11 (by decide) rfl ?_
      refine z_aload_n C dX3_rest_13 rfl 1 rfl ?_
      refine z_aload C dX3_rest_14 0 rfl ?_
      refine z_aload C dX3_rest_16 0 rfl ?_
      refine gf_X3_60 C h_p dX3_rest_18 ?_
      refine z_aload C dX3_rest_21 0 rfl ?_
      refine z_callVi (rest := [.int po, .ref p, .ref p]) (k' := 2) (n' := 12) C (c_X1_left (z_l X) (z_G X) h_p) (cs_X3_74 C (by decide)) h_p rfl rfl rfl rfl (Nat.le_of_ble_eq_true rfl) rfl rfl (by decide) (by decide) dX3_rest_23 (fun x23 M' hq => ?_)
      obtain ⟨rfl, rfl⟩ := hq
      refine z_callVv (rest := []) (k' := 2) (n' := 12) C (c_X1_becomePart_s (z_l X) (z_G X) h_p h_b1 h_b2) (cs_X3_78 C (by decide)) h_p rfl rfl rfl rfl (Nat.le_of_ble_eq_true rfl) rfl rfl (by decide) (by decide) dX3_rest_26 (fun M' hq => ?_)
      obtain rfl := hq
      refine z_aload_n C dX3_rest_29 rfl 2 rfl ?_
      refine z_aload_n C dX3_rest_30 rfl 1 rfl ?_
      refine gf_X3_63 C (z_up_s _ _ _) dX3_rest_31 ?_
      refine z_callVi (rest := []) (k' := 2) (n' := 12) C (c_X3_done (z_l X) (z_G X) ((z_up_n _ _ (z_ne h_x h_p (by intro h; cases h))).trans h_x)) (cs_X3_66 C (by decide)) ((z_up_n _ _ (z_ne h_x h_p (by intro h; cases h))).trans h_x) rfl rfl rfl rfl (Nat.le_of_ble_eq_true rfl) rfl rfl (by decide) (by decide) dX3_rest_34 (fun x34 M' hq => ?_)
      obtain ⟨rfl, rfl⟩ := hq
      exact ret dX3_rest_37 rfl (⟨rfl, rfl⟩) (by decide) (by decide)
set_option maxRecDepth 20000 in
theorem c_X3_part_bad (l : Launch) (G : zG) (h_st : l.stackTraces = false) {M : zM} {x : Nat} {pane : Int32} {other : Int32} {ix0 : Int32} {mn : Int32} {lr : Nat} {pa : Nat} {sp : Nat} {ln : Nat} {rf : Nat} {ac : Int32} {kn : Int32} {fp : Nat → Option Nat}  (h_x : M x = some (cMp lr pa sp ln rf ac kn)) (h_pa : M pa = some (aP G 6 fp)) (h_ip : ¬ vp_in pane 6) : z_Xi l G qX3_part (z_rm 12 8 48) [.ref x, .int pane, .int other, .int ix0, .int mn] M (fun r M' => False) (fun E M' => ((pane < 0) ∧ E = "java/lang/IndexOutOfBoundsException" ∧ M' = M) ∨ ((¬ pane < 0) ∧ E = "java/lang/IndexOutOfBoundsException" ∧ M' = M)) := by
  refine z_Xi_of _ _ h_st rfl rfl (Nat.le_of_ble_eq_true rfl) (fun X hl hG C ret thr prp => ?_)
  subst hl; subst hG
  have C : z_C X cX3_part RX3 7 (z_rm 12 8 48) := C
  show z_W X M 0 0 0 [(0, .ref x), (1, .int pane), (2, .int other), (3, .int ix0), (4, .int mn)] []
  refine z_aload_n C dX3_part_0 rfl 0 rfl ?_
  refine z_iload_n C dX3_part_1 rfl 1 rfl ?_
  refine z_callXVr (rest := []) (k' := 1) (n' := 6) C (c_X3_paneOf_bad (z_l X) (z_G X) h_st h_x h_pa h_ip) (cs_X3_49 C (by decide)) h_x rfl rfl rfl rfl (Nat.le_of_ble_eq_true rfl) rfl rfl (by decide) (by decide) dX3_part_2 (fun E M' hq => ?_) (fun x2 M' hq => ?_)
  · obtain ⟨cx2_0, rfl, rfl⟩ | ⟨cx2_0, rfl, rfl⟩ := hq
    · exact prp (Or.inl ⟨cx2_0, rfl, rfl⟩) (by decide) (by decide)
    · exact prp (Or.inr (⟨cx2_0, rfl, rfl⟩)) (by decide) (by decide)
  · skip
    exact hq.elim
set_option maxRecDepth 20000 in
theorem c_X3_part_bad2 (l : Launch) (G : zG) (h_st : l.stackTraces = false) {M : zM} {x : Nat} {pane : Int32} {other : Int32} {ix0 : Int32} {mn : Int32} {lr : Nat} {pa : Nat} {sp : Nat} {ln : Nat} {rf : Nat} {ac : Int32} {kn : Int32} {fp : Nat → Option Nat} {p : Nat} {ov : Nat} {sa : Int32} {cp : Int32} {po : Int32} {li : Int32} {mk : Int32} {rd : Int32} {i : Nat} (h_x : M x = some (cMp lr pa sp ln rf ac kn)) (h_pa : M pa = some (aP G 6 fp)) (h_p : M p = some (cPn ov sa cp po li mk rd)) (h_ip : vp_in pane 6) (h_ij : pane.toNatClampNeg = i) (h_fp : fp i = some p) (h_ip2 : ¬ vp_in other 6) : z_Xi l G qX3_part (z_rm 12 8 48) [.ref x, .int pane, .int other, .int ix0, .int mn] M (fun r M' => False) (fun E M' => ((other < 0) ∧ E = "java/lang/IndexOutOfBoundsException" ∧ M' = M) ∨ ((¬ other < 0) ∧ E = "java/lang/IndexOutOfBoundsException" ∧ M' = M)) := by
  refine z_Xi_of _ _ h_st rfl rfl (Nat.le_of_ble_eq_true rfl) (fun X hl hG C ret thr prp => ?_)
  subst hl; subst hG
  have C : z_C X cX3_part RX3 7 (z_rm 12 8 48) := C
  show z_W X M 0 0 0 [(0, .ref x), (1, .int pane), (2, .int other), (3, .int ix0), (4, .int mn)] []
  refine z_aload_n C dX3_part_0 rfl 0 rfl ?_
  refine z_iload_n C dX3_part_1 rfl 1 rfl ?_
  refine z_callXVr (rest := []) (k' := 1) (n' := 6) C (c_X3_paneOf (z_l X) (z_G X) h_st h_x h_pa h_p h_ip h_ij h_fp) (cs_X3_49 C (by decide)) h_x rfl rfl rfl rfl (Nat.le_of_ble_eq_true rfl) rfl rfl (by decide) (by decide) dX3_part_2 (fun E M' hq => ?_) (fun x2 M' hq => ?_)
  · exact hq.elim
  · skip
    obtain ⟨hr2, rfl⟩ := hq
    rw [hr2]
    refine z_astore (lv' := [(5, .ref p), (0, .ref x), (1, .int pane), (2, .int other), (3, .int ix0), (4, .int mn)]) C dX3_part_5 (by decide) rfl ?_
    refine z_aload_n C dX3_part_7 rfl 1 rfl ?_
    refine z_iload_n C dX3_part_8 rfl 3 rfl ?_
    refine z_callXVr (rest := []) (k' := 2) (n' := 12) C (c_X3_paneOf_bad (z_l X) (z_G X) h_st h_x h_pa h_ip2) (cs_X3_49 C (by decide)) h_x rfl rfl rfl rfl (Nat.le_of_ble_eq_true rfl) rfl rfl (by decide) (by decide) dX3_part_9 (fun E M' hq => ?_) (fun x9 M' hq => ?_)
    · obtain ⟨cx9_0, rfl, rfl⟩ | ⟨cx9_0, rfl, rfl⟩ := hq
      · exact prp (Or.inl ⟨cx9_0, rfl, rfl⟩) (by decide) (by decide)
      · exact prp (Or.inr (⟨cx9_0, rfl, rfl⟩)) (by decide) (by decide)
    · skip
      exact hq.elim
set_option maxRecDepth 20000 in
theorem c_X3_part (l : Launch) (G : zG) (h_st : l.stackTraces = false) {M : zM} {x : Nat} {pane : Int32} {other : Int32} {ix0 : Int32} {mn : Int32} {lr : Nat} {pa : Nat} {sp : Nat} {ln : Nat} {rf : Nat} {ac : Int32} {kn : Int32} {fr : Nat → Int32} {fp : Nat → Option Nat} {p : Nat} {ov : Nat} {sa : Int32} {cp : Int32} {po : Int32} {li : Int32} {mk : Int32} {rd : Int32} {o : Nat} {ov2 : Nat} {sa2 : Int32} {cp2 : Int32} {po2 : Int32} {li2 : Int32} {mk2 : Int32} {rd2 : Int32} {i i2 : Nat}  (h_x : M x = some (cMp lr pa sp ln rf ac kn)) (h_rf : M rf = some (aI G 6 fr)) (h_pa : M pa = some (aP G 6 fp)) (h_p : M p = some (cPn ov sa cp po li mk rd)) (h_o : M o = some (cPn ov2 sa2 cp2 po2 li2 mk2 rd2)) (h_ip : vp_in pane 6) (h_ij : pane.toNatClampNeg = i) (h_fp : fp i = some p) (h_ip2 : vp_in other 6) (h_ij2 : other.toNatClampNeg = i2) (h_fp2 : fp i2 = some o) (h_po : p ≠ o) (h_b1 : narrow .boolean (.int rd2) = .int rd2) (h_b2 : fits .boolean (.int rd2) = true) : z_Xi l G qX3_part (z_rm 12 8 48) [.ref x, .int pane, .int other, .int ix0, .int mn] M (fun r M' => (((z_is ix0 0 li2) = 0) ∧ r = (-9) ∧ M' = z_up M rf (aI G 6 (upd fr 5 ((fr 5) + 1)))) ∨ ((¬ (z_is ix0 0 li2) = 0) ∧ (¬ (z_is mn 0 (li2 - ix0)) = 0) ∧ r = mn ∧ M' = z_up (z_up M p (cPn ov2 (sa2 + ix0) mn 0 mn (-1) rd2)) x (cMp lr pa sp ln rf (ac + 1) kn)) ∨ ((¬ (z_is ix0 0 li2) = 0) ∧ ((z_is mn 0 (li2 - ix0)) = 0) ∧ r = (-9) ∧ M' = z_up M rf (aI G 6 (upd fr 5 ((fr 5) + 1))))) (fun E M' => False) := by
  refine z_Xi_of _ _ h_st rfl rfl (Nat.le_of_ble_eq_true rfl) (fun X hl hG C ret thr prp => ?_)
  subst hl; subst hG
  have C : z_C X cX3_part RX3 7 (z_rm 12 8 48) := C
  show z_W X M 0 0 0 [(0, .ref x), (1, .int pane), (2, .int other), (3, .int ix0), (4, .int mn)] []
  refine z_aload_n C dX3_part_0 rfl 0 rfl ?_
  refine z_iload_n C dX3_part_1 rfl 1 rfl ?_
  refine z_callXVr (rest := []) (k' := 1) (n' := 6) C (c_X3_paneOf (z_l X) (z_G X) h_st h_x h_pa h_p h_ip h_ij h_fp) (cs_X3_49 C (by decide)) h_x rfl rfl rfl rfl (Nat.le_of_ble_eq_true rfl) rfl rfl (by decide) (by decide) dX3_part_2 (fun E M' hq => ?_) (fun x2 M' hq => ?_)
  · exact hq.elim
  · skip
    obtain ⟨hr2, rfl⟩ := hq
    rw [hr2]
    refine z_astore (lv' := [(5, .ref p), (0, .ref x), (1, .int pane), (2, .int other), (3, .int ix0), (4, .int mn)]) C dX3_part_5 (by decide) rfl ?_
    refine z_aload_n C dX3_part_7 rfl 1 rfl ?_
    refine z_iload_n C dX3_part_8 rfl 3 rfl ?_
    refine z_callXVr (rest := []) (k' := 2) (n' := 12) C (c_X3_paneOf (z_l X) (z_G X) h_st h_x h_pa h_o h_ip2 h_ij2 h_fp2) (cs_X3_49 C (by decide)) h_x rfl rfl rfl rfl (Nat.le_of_ble_eq_true rfl) rfl rfl (by decide) (by decide) dX3_part_9 (fun E M' hq => ?_) (fun x9 M' hq => ?_)
    · exact hq.elim
    · skip
      obtain ⟨hr9, rfl⟩ := hq
      rw [hr9]
      refine z_astore (lv' := [(6, .ref o), (5, .ref p), (0, .ref x), (1, .int pane), (2, .int other), (3, .int ix0), (4, .int mn)]) C dX3_part_12 (by decide) rfl ?_
      refine z_iload_n C dX3_part_14 rfl 5 rfl ?_
      refine z_iconst C (v := 0) dX3_part_15 (by decide) ?_
      refine z_aload C dX3_part_16 0 rfl ?_
      refine gf_X3_63 C h_o dX3_part_18 ?_
      refine z_callSi (rest := []) (k' := 2) (n' := 12) C (c_X3_isWithin (z_l X) (z_G X) ) (cs_X3_82 C (by decide)) rfl rfl (Nat.le_of_ble_eq_true rfl) rfl rfl (by decide) (by decide) dX3_part_21 (fun x21 M' hq => ?_)
      obtain ⟨rfl, rfl⟩ := hq
      refine z_if_eq C (tgt := 43) dX3_part_24 (by decide) (fun c24 => ?_) (fun c24 => ?_)
      · refine z_aload_n C dX3_part_43 rfl 2 rfl ?_
        refine z_iconst C (v := 5) dX3_part_44 (by decide) ?_
        refine z_callVi (rest := []) (k' := 2) (n' := 12) C (c_X3_refuse (z_l X) (z_G X) h_x h_rf (z_inL (by decide)) (show (5 : Int32).toNatClampNeg = 5 by decide)) (cs_X3_86 C (by decide)) h_x rfl rfl rfl rfl (Nat.le_of_ble_eq_true rfl) rfl rfl (by decide) (by decide) dX3_part_45 (fun x45 M' hq => ?_)
        obtain ⟨rfl, rfl⟩ := hq
        exact ret dX3_part_48 rfl (Or.inl ⟨c24, rfl, rfl⟩) (by decide) (by decide)
      · refine z_iload C dX3_part_27 6 rfl ?_
        refine z_iconst C (v := 0) dX3_part_29 (by decide) ?_
        refine z_aload C dX3_part_30 0 rfl ?_
        refine gf_X3_63 C h_o dX3_part_32 ?_
        refine z_iload_n C dX3_part_35 rfl 5 rfl ?_
        refine z_isub C dX3_part_36 ?_
        refine z_callSi (rest := []) (k' := 2) (n' := 12) C (c_X3_isWithin (z_l X) (z_G X) ) (cs_X3_82 C (by decide)) rfl rfl (Nat.le_of_ble_eq_true rfl) rfl rfl (by decide) (by decide) dX3_part_37 (fun x37 M' hq => ?_)
        obtain ⟨rfl, rfl⟩ := hq
        refine z_if_ne C (tgt := 49) dX3_part_40 (by decide) (fun c40 => ?_) (fun c40 => ?_)
        · refine z_aload C dX3_part_49 1 rfl ?_
          refine z_aload C dX3_part_51 0 rfl ?_
          refine z_iload_n C dX3_part_53 rfl 5 rfl ?_
          refine z_iload C dX3_part_54 6 rfl ?_
          refine z_callVv (rest := []) (k' := 2) (n' := 12) C (c_X1_becomePart (z_l X) (z_G X) h_p h_o h_po h_b1 h_b2) (cs_X3_78 C (by decide)) h_p rfl rfl rfl rfl (Nat.le_of_ble_eq_true rfl) rfl rfl (by decide) (by decide) dX3_part_56 (fun M' hq => ?_)
          obtain rfl := hq
          refine z_aload_n C dX3_part_59 rfl 2 rfl ?_
          refine z_aload C dX3_part_60 1 rfl ?_
          refine gf_X3_63 C (z_up_s _ _ _) dX3_part_62 ?_
          refine z_callVi (rest := []) (k' := 2) (n' := 12) C (c_X3_done (z_l X) (z_G X) ((z_up_n _ _ (z_ne h_x h_p (by intro h; cases h))).trans h_x)) (cs_X3_66 C (by decide)) ((z_up_n _ _ (z_ne h_x h_p (by intro h; cases h))).trans h_x) rfl rfl rfl rfl (Nat.le_of_ble_eq_true rfl) rfl rfl (by decide) (by decide) dX3_part_65 (fun x65 M' hq => ?_)
          obtain ⟨hr65, rfl⟩ := hq
          rw [hr65]
          exact ret dX3_part_68 rfl (Or.inr (Or.inl ⟨c24, c40, rfl, rfl⟩)) (by decide) (by decide)
        · refine z_aload_n C dX3_part_43 rfl 2 rfl ?_
          refine z_iconst C (v := 5) dX3_part_44 (by decide) ?_
          refine z_callVi (rest := []) (k' := 2) (n' := 12) C (c_X3_refuse (z_l X) (z_G X) h_x h_rf (z_inL (by decide)) (show (5 : Int32).toNatClampNeg = 5 by decide)) (cs_X3_86 C (by decide)) h_x rfl rfl rfl rfl (Nat.le_of_ble_eq_true rfl) rfl rfl (by decide) (by decide) dX3_part_45 (fun x45 M' hq => ?_)
          obtain ⟨rfl, rfl⟩ := hq
          exact ret dX3_part_48 rfl (Or.inr (Or.inr (⟨c24, c40, rfl, rfl⟩))) (by decide) (by decide)
set_option maxRecDepth 20000 in
theorem c_X3_part_s (l : Launch) (G : zG) (h_st : l.stackTraces = false) {M : zM} {x : Nat} {pane : Int32} {other : Int32} {ix0 : Int32} {mn : Int32} {lr : Nat} {pa : Nat} {sp : Nat} {ln : Nat} {rf : Nat} {ac : Int32} {kn : Int32} {fr : Nat → Int32} {fp : Nat → Option Nat} {p : Nat} {ov : Nat} {sa : Int32} {cp : Int32} {po : Int32} {li : Int32} {mk : Int32} {rd : Int32} {i i2 : Nat}  (h_x : M x = some (cMp lr pa sp ln rf ac kn)) (h_rf : M rf = some (aI G 6 fr)) (h_pa : M pa = some (aP G 6 fp)) (h_p : M p = some (cPn ov sa cp po li mk rd)) (h_ip : vp_in pane 6) (h_ij : pane.toNatClampNeg = i) (h_fp : fp i = some p) (h_ip2 : vp_in other 6) (h_ij2 : other.toNatClampNeg = i2) (h_fp2 : fp i2 = some p) (h_b1 : narrow .boolean (.int rd) = .int rd) (h_b2 : fits .boolean (.int rd) = true) : z_Xi l G qX3_part (z_rm 12 8 48) [.ref x, .int pane, .int other, .int ix0, .int mn] M (fun r M' => (((z_is ix0 0 li) = 0) ∧ r = (-9) ∧ M' = z_up M rf (aI G 6 (upd fr 5 ((fr 5) + 1)))) ∨ ((¬ (z_is ix0 0 li) = 0) ∧ (¬ (z_is mn 0 (li - ix0)) = 0) ∧ r = mn ∧ M' = z_up (z_up M p (cPn ov (sa + ix0) mn 0 mn (-1) rd)) x (cMp lr pa sp ln rf (ac + 1) kn)) ∨ ((¬ (z_is ix0 0 li) = 0) ∧ ((z_is mn 0 (li - ix0)) = 0) ∧ r = (-9) ∧ M' = z_up M rf (aI G 6 (upd fr 5 ((fr 5) + 1))))) (fun E M' => False) := by
  refine z_Xi_of _ _ h_st rfl rfl (Nat.le_of_ble_eq_true rfl) (fun X hl hG C ret thr prp => ?_)
  subst hl; subst hG
  have C : z_C X cX3_part RX3 7 (z_rm 12 8 48) := C
  show z_W X M 0 0 0 [(0, .ref x), (1, .int pane), (2, .int other), (3, .int ix0), (4, .int mn)] []
  refine z_aload_n C dX3_part_0 rfl 0 rfl ?_
  refine z_iload_n C dX3_part_1 rfl 1 rfl ?_
  refine z_callXVr (rest := []) (k' := 1) (n' := 6) C (c_X3_paneOf (z_l X) (z_G X) h_st h_x h_pa h_p h_ip h_ij h_fp) (cs_X3_49 C (by decide)) h_x rfl rfl rfl rfl (Nat.le_of_ble_eq_true rfl) rfl rfl (by decide) (by decide) dX3_part_2 (fun E M' hq => ?_) (fun x2 M' hq => ?_)
  · exact hq.elim
  · skip
    obtain ⟨hr2, rfl⟩ := hq
    rw [hr2]
    refine z_astore (lv' := [(5, .ref p), (0, .ref x), (1, .int pane), (2, .int other), (3, .int ix0), (4, .int mn)]) C dX3_part_5 (by decide) rfl ?_
    refine z_aload_n C dX3_part_7 rfl 1 rfl ?_
    refine z_iload_n C dX3_part_8 rfl 3 rfl ?_
    refine z_callXVr (rest := []) (k' := 2) (n' := 12) C (c_X3_paneOf (z_l X) (z_G X) h_st h_x h_pa h_p h_ip2 h_ij2 h_fp2) (cs_X3_49 C (by decide)) h_x rfl rfl rfl rfl (Nat.le_of_ble_eq_true rfl) rfl rfl (by decide) (by decide) dX3_part_9 (fun E M' hq => ?_) (fun x9 M' hq => ?_)
    · exact hq.elim
    · skip
      obtain ⟨hr9, rfl⟩ := hq
      rw [hr9]
      refine z_astore (lv' := [(6, .ref p), (5, .ref p), (0, .ref x), (1, .int pane), (2, .int other), (3, .int ix0), (4, .int mn)]) C dX3_part_12 (by decide) rfl ?_
      refine z_iload_n C dX3_part_14 rfl 5 rfl ?_
      refine z_iconst C (v := 0) dX3_part_15 (by decide) ?_
      refine z_aload C dX3_part_16 0 rfl ?_
      refine gf_X3_63 C h_p dX3_part_18 ?_
      refine z_callSi (rest := []) (k' := 2) (n' := 12) C (c_X3_isWithin (z_l X) (z_G X) ) (cs_X3_82 C (by decide)) rfl rfl (Nat.le_of_ble_eq_true rfl) rfl rfl (by decide) (by decide) dX3_part_21 (fun x21 M' hq => ?_)
      obtain ⟨rfl, rfl⟩ := hq
      refine z_if_eq C (tgt := 43) dX3_part_24 (by decide) (fun c24 => ?_) (fun c24 => ?_)
      · refine z_aload_n C dX3_part_43 rfl 2 rfl ?_
        refine z_iconst C (v := 5) dX3_part_44 (by decide) ?_
        refine z_callVi (rest := []) (k' := 2) (n' := 12) C (c_X3_refuse (z_l X) (z_G X) h_x h_rf (z_inL (by decide)) (show (5 : Int32).toNatClampNeg = 5 by decide)) (cs_X3_86 C (by decide)) h_x rfl rfl rfl rfl (Nat.le_of_ble_eq_true rfl) rfl rfl (by decide) (by decide) dX3_part_45 (fun x45 M' hq => ?_)
        obtain ⟨rfl, rfl⟩ := hq
        exact ret dX3_part_48 rfl (Or.inl ⟨c24, rfl, rfl⟩) (by decide) (by decide)
      · refine z_iload C dX3_part_27 6 rfl ?_
        refine z_iconst C (v := 0) dX3_part_29 (by decide) ?_
        refine z_aload C dX3_part_30 0 rfl ?_
        refine gf_X3_63 C h_p dX3_part_32 ?_
        refine z_iload_n C dX3_part_35 rfl 5 rfl ?_
        refine z_isub C dX3_part_36 ?_
        refine z_callSi (rest := []) (k' := 2) (n' := 12) C (c_X3_isWithin (z_l X) (z_G X) ) (cs_X3_82 C (by decide)) rfl rfl (Nat.le_of_ble_eq_true rfl) rfl rfl (by decide) (by decide) dX3_part_37 (fun x37 M' hq => ?_)
        obtain ⟨rfl, rfl⟩ := hq
        refine z_if_ne C (tgt := 49) dX3_part_40 (by decide) (fun c40 => ?_) (fun c40 => ?_)
        · refine z_aload C dX3_part_49 1 rfl ?_
          refine z_aload C dX3_part_51 0 rfl ?_
          refine z_iload_n C dX3_part_53 rfl 5 rfl ?_
          refine z_iload C dX3_part_54 6 rfl ?_
          refine z_callVv (rest := []) (k' := 2) (n' := 12) C (c_X1_becomePart_s (z_l X) (z_G X) h_p h_b1 h_b2) (cs_X3_78 C (by decide)) h_p rfl rfl rfl rfl (Nat.le_of_ble_eq_true rfl) rfl rfl (by decide) (by decide) dX3_part_56 (fun M' hq => ?_)
          obtain rfl := hq
          refine z_aload_n C dX3_part_59 rfl 2 rfl ?_
          refine z_aload C dX3_part_60 1 rfl ?_
          refine gf_X3_63 C (z_up_s _ _ _) dX3_part_62 ?_
          refine z_callVi (rest := []) (k' := 2) (n' := 12) C (c_X3_done (z_l X) (z_G X) ((z_up_n _ _ (z_ne h_x h_p (by intro h; cases h))).trans h_x)) (cs_X3_66 C (by decide)) ((z_up_n _ _ (z_ne h_x h_p (by intro h; cases h))).trans h_x) rfl rfl rfl rfl (Nat.le_of_ble_eq_true rfl) rfl rfl (by decide) (by decide) dX3_part_65 (fun x65 M' hq => ?_)
          obtain ⟨hr65, rfl⟩ := hq
          rw [hr65]
          exact ret dX3_part_68 rfl (Or.inr (Or.inl ⟨c24, c40, rfl, rfl⟩)) (by decide) (by decide)
        · refine z_aload_n C dX3_part_43 rfl 2 rfl ?_
          refine z_iconst C (v := 5) dX3_part_44 (by decide) ?_
          refine z_callVi (rest := []) (k' := 2) (n' := 12) C (c_X3_refuse (z_l X) (z_G X) h_x h_rf (z_inL (by decide)) (show (5 : Int32).toNatClampNeg = 5 by decide)) (cs_X3_86 C (by decide)) h_x rfl rfl rfl rfl (Nat.le_of_ble_eq_true rfl) rfl rfl (by decide) (by decide) dX3_part_45 (fun x45 M' hq => ?_)
          obtain ⟨rfl, rfl⟩ := hq
          exact ret dX3_part_48 rfl (Or.inr (Or.inr (⟨c24, c40, rfl, rfl⟩))) (by decide) (by decide)
set_option maxRecDepth 20000 in
theorem c_X3_exchange_bad (l : Launch) (G : zG) (h_st : l.stackTraces = false) {M : zM} {x : Nat} {pane : Int32} {other : Int32} {lr : Nat} {pa : Nat} {sp : Nat} {ln : Nat} {rf : Nat} {ac : Int32} {kn : Int32} {fp : Nat → Option Nat}  (h_x : M x = some (cMp lr pa sp ln rf ac kn)) (h_pa : M pa = some (aP G 6 fp)) (h_ip : ¬ vp_in pane 6) : z_Xi l G qX3_exchange (z_rm 12 8 48) [.ref x, .int pane, .int other] M (fun r M' => False) (fun E M' => ((pane < 0) ∧ E = "java/lang/IndexOutOfBoundsException" ∧ M' = M) ∨ ((¬ pane < 0) ∧ E = "java/lang/IndexOutOfBoundsException" ∧ M' = M)) := by
  refine z_Xi_of _ _ h_st rfl rfl (Nat.le_of_ble_eq_true rfl) (fun X hl hG C ret thr prp => ?_)
  subst hl; subst hG
  have C : z_C X cX3_exchange RX3 5 (z_rm 12 8 48) := C
  show z_W X M 0 0 0 [(0, .ref x), (1, .int pane), (2, .int other)] []
  refine z_aload_n C dX3_exchange_0 rfl 0 rfl ?_
  refine z_iload_n C dX3_exchange_1 rfl 1 rfl ?_
  refine z_callXVr (rest := []) (k' := 1) (n' := 6) C (c_X3_paneOf_bad (z_l X) (z_G X) h_st h_x h_pa h_ip) (cs_X3_49 C (by decide)) h_x rfl rfl rfl rfl (Nat.le_of_ble_eq_true rfl) rfl rfl (by decide) (by decide) dX3_exchange_2 (fun E M' hq => ?_) (fun x2 M' hq => ?_)
  · obtain ⟨cx2_0, rfl, rfl⟩ | ⟨cx2_0, rfl, rfl⟩ := hq
    · exact prp (Or.inl ⟨cx2_0, rfl, rfl⟩) (by decide) (by decide)
    · exact prp (Or.inr (⟨cx2_0, rfl, rfl⟩)) (by decide) (by decide)
  · skip
    exact hq.elim
set_option maxRecDepth 20000 in
theorem c_X3_exchange_bad2 (l : Launch) (G : zG) (h_st : l.stackTraces = false) {M : zM} {x : Nat} {pane : Int32} {other : Int32} {lr : Nat} {pa : Nat} {sp : Nat} {ln : Nat} {rf : Nat} {ac : Int32} {kn : Int32} {fp : Nat → Option Nat} {p : Nat} {ov : Nat} {sa : Int32} {cp : Int32} {po : Int32} {li : Int32} {mk : Int32} {rd : Int32} {i : Nat} (h_x : M x = some (cMp lr pa sp ln rf ac kn)) (h_pa : M pa = some (aP G 6 fp)) (h_p : M p = some (cPn ov sa cp po li mk rd)) (h_ip : vp_in pane 6) (h_ij : pane.toNatClampNeg = i) (h_fp : fp i = some p) (h_ip2 : ¬ vp_in other 6) : z_Xi l G qX3_exchange (z_rm 12 8 48) [.ref x, .int pane, .int other] M (fun r M' => False) (fun E M' => ((other < 0) ∧ E = "java/lang/IndexOutOfBoundsException" ∧ M' = M) ∨ ((¬ other < 0) ∧ E = "java/lang/IndexOutOfBoundsException" ∧ M' = M)) := by
  refine z_Xi_of _ _ h_st rfl rfl (Nat.le_of_ble_eq_true rfl) (fun X hl hG C ret thr prp => ?_)
  subst hl; subst hG
  have C : z_C X cX3_exchange RX3 5 (z_rm 12 8 48) := C
  show z_W X M 0 0 0 [(0, .ref x), (1, .int pane), (2, .int other)] []
  refine z_aload_n C dX3_exchange_0 rfl 0 rfl ?_
  refine z_iload_n C dX3_exchange_1 rfl 1 rfl ?_
  refine z_callXVr (rest := []) (k' := 1) (n' := 6) C (c_X3_paneOf (z_l X) (z_G X) h_st h_x h_pa h_p h_ip h_ij h_fp) (cs_X3_49 C (by decide)) h_x rfl rfl rfl rfl (Nat.le_of_ble_eq_true rfl) rfl rfl (by decide) (by decide) dX3_exchange_2 (fun E M' hq => ?_) (fun x2 M' hq => ?_)
  · exact hq.elim
  · skip
    obtain ⟨hr2, rfl⟩ := hq
    rw [hr2]
    refine z_astore_n (lv' := [(3, .ref p), (0, .ref x), (1, .int pane), (2, .int other)]) C dX3_exchange_5 rfl (by decide) rfl ?_
    refine z_aload_n C dX3_exchange_6 rfl 1 rfl ?_
    refine z_iload_n C dX3_exchange_7 rfl 3 rfl ?_
    refine z_callXVr (rest := []) (k' := 2) (n' := 12) C (c_X3_paneOf_bad (z_l X) (z_G X) h_st h_x h_pa h_ip2) (cs_X3_49 C (by decide)) h_x rfl rfl rfl rfl (Nat.le_of_ble_eq_true rfl) rfl rfl (by decide) (by decide) dX3_exchange_8 (fun E M' hq => ?_) (fun x8 M' hq => ?_)
    · obtain ⟨cx8_0, rfl, rfl⟩ | ⟨cx8_0, rfl, rfl⟩ := hq
      · exact prp (Or.inl ⟨cx8_0, rfl, rfl⟩) (by decide) (by decide)
      · exact prp (Or.inr (⟨cx8_0, rfl, rfl⟩)) (by decide) (by decide)
    · skip
      exact hq.elim
set_option maxRecDepth 20000 in
theorem c_X3_exchange (l : Launch) (G : zG) (h_st : l.stackTraces = false) {M : zM} {x : Nat} {pane : Int32} {other : Int32} {lr : Nat} {pa : Nat} {sp : Nat} {ln : Nat} {rf : Nat} {ac : Int32} {kn : Int32} {fr : Nat → Int32} {fp : Nat → Option Nat} {p : Nat} {ov : Nat} {sa : Int32} {cp : Int32} {po : Int32} {li : Int32} {mk : Int32} {rd : Int32} {o : Nat} {ov2 : Nat} {sa2 : Int32} {cp2 : Int32} {po2 : Int32} {li2 : Int32} {mk2 : Int32} {rd2 : Int32} {i i2 : Nat}  (h_x : M x = some (cMp lr pa sp ln rf ac kn)) (h_rf : M rf = some (aI G 6 fr)) (h_pa : M pa = some (aP G 6 fp)) (h_p : M p = some (cPn ov sa cp po li mk rd)) (h_o : M o = some (cPn ov2 sa2 cp2 po2 li2 mk2 rd2)) (h_ip : vp_in pane 6) (h_ij : pane.toNatClampNeg = i) (h_fp : fp i = some p) (h_ip2 : vp_in other 6) (h_ij2 : other.toNatClampNeg = i2) (h_fp2 : fp i2 = some o) (h_po : p ≠ o) : z_Xi l G qX3_exchange (z_rm 12 8 48) [.ref x, .int pane, .int other] M (fun r M' => r = po2 ∧ M' = z_up (z_up M pa (aP G 6 (va_up (va_up fp i (some o)) i2 (some p)))) x (cMp lr pa sp ln rf (ac + 1) kn)) (fun E M' => False) := by
  refine z_Xi_of _ _ h_st rfl rfl (Nat.le_of_ble_eq_true rfl) (fun X hl hG C ret thr prp => ?_)
  subst hl; subst hG
  have C : z_C X cX3_exchange RX3 5 (z_rm 12 8 48) := C
  show z_W X M 0 0 0 [(0, .ref x), (1, .int pane), (2, .int other)] []
  refine z_aload_n C dX3_exchange_0 rfl 0 rfl ?_
  refine z_iload_n C dX3_exchange_1 rfl 1 rfl ?_
  refine z_callXVr (rest := []) (k' := 1) (n' := 6) C (c_X3_paneOf (z_l X) (z_G X) h_st h_x h_pa h_p h_ip h_ij h_fp) (cs_X3_49 C (by decide)) h_x rfl rfl rfl rfl (Nat.le_of_ble_eq_true rfl) rfl rfl (by decide) (by decide) dX3_exchange_2 (fun E M' hq => ?_) (fun x2 M' hq => ?_)
  · exact hq.elim
  · skip
    obtain ⟨hr2, rfl⟩ := hq
    rw [hr2]
    refine z_astore_n (lv' := [(3, .ref p), (0, .ref x), (1, .int pane), (2, .int other)]) C dX3_exchange_5 rfl (by decide) rfl ?_
    refine z_aload_n C dX3_exchange_6 rfl 1 rfl ?_
    refine z_iload_n C dX3_exchange_7 rfl 3 rfl ?_
    refine z_callXVr (rest := []) (k' := 2) (n' := 12) C (c_X3_paneOf (z_l X) (z_G X) h_st h_x h_pa h_o h_ip2 h_ij2 h_fp2) (cs_X3_49 C (by decide)) h_x rfl rfl rfl rfl (Nat.le_of_ble_eq_true rfl) rfl rfl (by decide) (by decide) dX3_exchange_8 (fun E M' hq => ?_) (fun x8 M' hq => ?_)
    · exact hq.elim
    · skip
      obtain ⟨hr8, rfl⟩ := hq
      rw [hr8]
      refine z_astore (lv' := [(4, .ref o), (3, .ref p), (0, .ref x), (1, .int pane), (2, .int other)]) C dX3_exchange_11 (by decide) rfl ?_
      refine z_aload_n C dX3_exchange_13 rfl 2 rfl ?_
      refine z_iload_n C dX3_exchange_14 rfl 3 rfl ?_
      refine z_aload C dX3_exchange_15 0 rfl ?_
      refine z_callVv (rest := []) (k' := 2) (n' := 12) C (c_X3_setPane (z_l X) (z_G X) h_x h_pa h_o h_ip h_ij) (cs_X3_93 C (by decide)) h_x rfl rfl rfl rfl (Nat.le_of_ble_eq_true rfl) rfl rfl (by decide) (by decide) dX3_exchange_17 (fun M' hq => ?_)
      obtain rfl := hq
      refine z_aload_n C dX3_exchange_20 rfl 2 rfl ?_
      refine z_iload_n C dX3_exchange_21 rfl 4 rfl ?_
      refine z_aload_n C dX3_exchange_22 rfl 1 rfl ?_
      refine z_callVv (rest := []) (k' := 2) (n' := 12) C (c_X3_setPane (z_l X) (z_G X) ((z_up_n _ _ (z_ne h_x h_pa (by intro h; cases h))).trans h_x) (z_up_s _ _ _) ((z_up_n _ _ (z_ne h_p h_pa (by intro h; cases h))).trans h_p) h_ip2 h_ij2) (cs_X3_93 C (by decide)) ((z_up_n _ _ (z_ne h_x h_pa (by intro h; cases h))).trans h_x) rfl rfl rfl rfl (Nat.le_of_ble_eq_true rfl) rfl rfl (by decide) (by decide) dX3_exchange_23 (fun M' hq => ?_)
      obtain rfl := hq
      rw [z_up_up]
      refine z_aload_n C dX3_exchange_26 rfl 2 rfl ?_
      refine z_aload C dX3_exchange_27 0 rfl ?_
      refine gf_X3_60 C ((z_up_n _ _ (z_ne h_o h_pa (by intro h; cases h))).trans h_o) dX3_exchange_29 ?_
      refine z_callVi (rest := []) (k' := 2) (n' := 12) C (c_X3_done (z_l X) (z_G X) ((z_up_n _ _ (z_ne h_x h_pa (by intro h; cases h))).trans h_x)) (cs_X3_66 C (by decide)) ((z_up_n _ _ (z_ne h_x h_pa (by intro h; cases h))).trans h_x) rfl rfl rfl rfl (Nat.le_of_ble_eq_true rfl) rfl rfl (by decide) (by decide) dX3_exchange_32 (fun x32 M' hq => ?_)
      obtain ⟨hr32, rfl⟩ := hq
      rw [hr32]
      exact ret dX3_exchange_35 rfl (⟨rfl, rfl⟩) (by decide) (by decide)
set_option maxRecDepth 20000 in
theorem c_X3_exchange_s (l : Launch) (G : zG) (h_st : l.stackTraces = false) {M : zM} {x : Nat} {pane : Int32} {other : Int32} {lr : Nat} {pa : Nat} {sp : Nat} {ln : Nat} {rf : Nat} {ac : Int32} {kn : Int32} {fr : Nat → Int32} {fp : Nat → Option Nat} {p : Nat} {ov : Nat} {sa : Int32} {cp : Int32} {po : Int32} {li : Int32} {mk : Int32} {rd : Int32} {i i2 : Nat}  (h_x : M x = some (cMp lr pa sp ln rf ac kn)) (h_rf : M rf = some (aI G 6 fr)) (h_pa : M pa = some (aP G 6 fp)) (h_p : M p = some (cPn ov sa cp po li mk rd)) (h_ip : vp_in pane 6) (h_ij : pane.toNatClampNeg = i) (h_fp : fp i = some p) (h_ip2 : vp_in other 6) (h_ij2 : other.toNatClampNeg = i2) (h_fp2 : fp i2 = some p) : z_Xi l G qX3_exchange (z_rm 12 8 48) [.ref x, .int pane, .int other] M (fun r M' => r = po ∧ M' = z_up (z_up M pa (aP G 6 (va_up (va_up fp i (some p)) i2 (some p)))) x (cMp lr pa sp ln rf (ac + 1) kn)) (fun E M' => False) := by
  refine z_Xi_of _ _ h_st rfl rfl (Nat.le_of_ble_eq_true rfl) (fun X hl hG C ret thr prp => ?_)
  subst hl; subst hG
  have C : z_C X cX3_exchange RX3 5 (z_rm 12 8 48) := C
  show z_W X M 0 0 0 [(0, .ref x), (1, .int pane), (2, .int other)] []
  refine z_aload_n C dX3_exchange_0 rfl 0 rfl ?_
  refine z_iload_n C dX3_exchange_1 rfl 1 rfl ?_
  refine z_callXVr (rest := []) (k' := 1) (n' := 6) C (c_X3_paneOf (z_l X) (z_G X) h_st h_x h_pa h_p h_ip h_ij h_fp) (cs_X3_49 C (by decide)) h_x rfl rfl rfl rfl (Nat.le_of_ble_eq_true rfl) rfl rfl (by decide) (by decide) dX3_exchange_2 (fun E M' hq => ?_) (fun x2 M' hq => ?_)
  · exact hq.elim
  · skip
    obtain ⟨hr2, rfl⟩ := hq
    rw [hr2]
    refine z_astore_n (lv' := [(3, .ref p), (0, .ref x), (1, .int pane), (2, .int other)]) C dX3_exchange_5 rfl (by decide) rfl ?_
    refine z_aload_n C dX3_exchange_6 rfl 1 rfl ?_
    refine z_iload_n C dX3_exchange_7 rfl 3 rfl ?_
    refine z_callXVr (rest := []) (k' := 2) (n' := 12) C (c_X3_paneOf (z_l X) (z_G X) h_st h_x h_pa h_p h_ip2 h_ij2 h_fp2) (cs_X3_49 C (by decide)) h_x rfl rfl rfl rfl (Nat.le_of_ble_eq_true rfl) rfl rfl (by decide) (by decide) dX3_exchange_8 (fun E M' hq => ?_) (fun x8 M' hq => ?_)
    · exact hq.elim
    · skip
      obtain ⟨hr8, rfl⟩ := hq
      rw [hr8]
      refine z_astore (lv' := [(4, .ref p), (3, .ref p), (0, .ref x), (1, .int pane), (2, .int other)]) C dX3_exchange_11 (by decide) rfl ?_
      refine z_aload_n C dX3_exchange_13 rfl 2 rfl ?_
      refine z_iload_n C dX3_exchange_14 rfl 3 rfl ?_
      refine z_aload C dX3_exchange_15 0 rfl ?_
      refine z_callVv (rest := []) (k' := 2) (n' := 12) C (c_X3_setPane (z_l X) (z_G X) h_x h_pa h_p h_ip h_ij) (cs_X3_93 C (by decide)) h_x rfl rfl rfl rfl (Nat.le_of_ble_eq_true rfl) rfl rfl (by decide) (by decide) dX3_exchange_17 (fun M' hq => ?_)
      obtain rfl := hq
      refine z_aload_n C dX3_exchange_20 rfl 2 rfl ?_
      refine z_iload_n C dX3_exchange_21 rfl 4 rfl ?_
      refine z_aload_n C dX3_exchange_22 rfl 1 rfl ?_
      refine z_callVv (rest := []) (k' := 2) (n' := 12) C (c_X3_setPane (z_l X) (z_G X) ((z_up_n _ _ (z_ne h_x h_pa (by intro h; cases h))).trans h_x) (z_up_s _ _ _) ((z_up_n _ _ (z_ne h_p h_pa (by intro h; cases h))).trans h_p) h_ip2 h_ij2) (cs_X3_93 C (by decide)) ((z_up_n _ _ (z_ne h_x h_pa (by intro h; cases h))).trans h_x) rfl rfl rfl rfl (Nat.le_of_ble_eq_true rfl) rfl rfl (by decide) (by decide) dX3_exchange_23 (fun M' hq => ?_)
      obtain rfl := hq
      rw [z_up_up]
      refine z_aload_n C dX3_exchange_26 rfl 2 rfl ?_
      refine z_aload C dX3_exchange_27 0 rfl ?_
      refine gf_X3_60 C ((z_up_n _ _ (z_ne h_p h_pa (by intro h; cases h))).trans h_p) dX3_exchange_29 ?_
      refine z_callVi (rest := []) (k' := 2) (n' := 12) C (c_X3_done (z_l X) (z_G X) ((z_up_n _ _ (z_ne h_x h_pa (by intro h; cases h))).trans h_x)) (cs_X3_66 C (by decide)) ((z_up_n _ _ (z_ne h_x h_pa (by intro h; cases h))).trans h_x) rfl rfl rfl rfl (Nat.le_of_ble_eq_true rfl) rfl rfl (by decide) (by decide) dX3_exchange_32 (fun x32 M' hq => ?_)
      obtain ⟨hr32, rfl⟩ := hq
      rw [hr32]
      exact ret dX3_exchange_35 rfl (⟨rfl, rfl⟩) (by decide) (by decide)
set_option maxRecDepth 20000 in
theorem c_X3_isKin_bad (l : Launch) (G : zG) (h_st : l.stackTraces = false) {M : zM} {x : Nat} {pane : Int32} {other : Int32} {lr : Nat} {pa : Nat} {sp : Nat} {ln : Nat} {rf : Nat} {ac : Int32} {kn : Int32} {fp : Nat → Option Nat}  (h_x : M x = some (cMp lr pa sp ln rf ac kn)) (h_pa : M pa = some (aP G 6 fp)) (h_ip : ¬ vp_in pane 6) : z_Xi l G qX3_isKin (z_rm 12 8 48) [.ref x, .int pane, .int other] M (fun r M' => False) (fun E M' => ((pane < 0) ∧ E = "java/lang/IndexOutOfBoundsException" ∧ M' = M) ∨ ((¬ pane < 0) ∧ E = "java/lang/IndexOutOfBoundsException" ∧ M' = M)) := by
  refine z_Xi_of _ _ h_st rfl rfl (Nat.le_of_ble_eq_true rfl) (fun X hl hG C ret thr prp => ?_)
  subst hl; subst hG
  have C : z_C X cX3_isKin RX3 3 (z_rm 12 8 48) := C
  show z_W X M 0 0 0 [(0, .ref x), (1, .int pane), (2, .int other)] []
  refine z_aload_n C dX3_isKin_0 rfl 0 rfl ?_
  refine z_iload_n C dX3_isKin_1 rfl 1 rfl ?_
  refine z_callXVr (rest := []) (k' := 1) (n' := 6) C (c_X3_paneOf_bad (z_l X) (z_G X) h_st h_x h_pa h_ip) (cs_X3_49 C (by decide)) h_x rfl rfl rfl rfl (Nat.le_of_ble_eq_true rfl) rfl rfl (by decide) (by decide) dX3_isKin_2 (fun E M' hq => ?_) (fun x2 M' hq => ?_)
  · obtain ⟨cx2_0, rfl, rfl⟩ | ⟨cx2_0, rfl, rfl⟩ := hq
    · exact prp (Or.inl ⟨cx2_0, rfl, rfl⟩) (by decide) (by decide)
    · exact prp (Or.inr (⟨cx2_0, rfl, rfl⟩)) (by decide) (by decide)
  · skip
    exact hq.elim
set_option maxRecDepth 20000 in
theorem c_X3_isKin_bad2 (l : Launch) (G : zG) (h_st : l.stackTraces = false) {M : zM} {x : Nat} {pane : Int32} {other : Int32} {lr : Nat} {pa : Nat} {sp : Nat} {ln : Nat} {rf : Nat} {ac : Int32} {kn : Int32} {fp : Nat → Option Nat} {p : Nat} {ov : Nat} {sa : Int32} {cp : Int32} {po : Int32} {li : Int32} {mk : Int32} {rd : Int32} {i : Nat} (h_x : M x = some (cMp lr pa sp ln rf ac kn)) (h_pa : M pa = some (aP G 6 fp)) (h_p : M p = some (cPn ov sa cp po li mk rd)) (h_ip : vp_in pane 6) (h_ij : pane.toNatClampNeg = i) (h_fp : fp i = some p) (h_ip2 : ¬ vp_in other 6) : z_Xi l G qX3_isKin (z_rm 12 8 48) [.ref x, .int pane, .int other] M (fun r M' => False) (fun E M' => ((other < 0) ∧ E = "java/lang/IndexOutOfBoundsException" ∧ M' = M) ∨ ((¬ other < 0) ∧ E = "java/lang/IndexOutOfBoundsException" ∧ M' = M)) := by
  refine z_Xi_of _ _ h_st rfl rfl (Nat.le_of_ble_eq_true rfl) (fun X hl hG C ret thr prp => ?_)
  subst hl; subst hG
  have C : z_C X cX3_isKin RX3 3 (z_rm 12 8 48) := C
  show z_W X M 0 0 0 [(0, .ref x), (1, .int pane), (2, .int other)] []
  refine z_aload_n C dX3_isKin_0 rfl 0 rfl ?_
  refine z_iload_n C dX3_isKin_1 rfl 1 rfl ?_
  refine z_callXVr (rest := []) (k' := 1) (n' := 6) C (c_X3_paneOf (z_l X) (z_G X) h_st h_x h_pa h_p h_ip h_ij h_fp) (cs_X3_49 C (by decide)) h_x rfl rfl rfl rfl (Nat.le_of_ble_eq_true rfl) rfl rfl (by decide) (by decide) dX3_isKin_2 (fun E M' hq => ?_) (fun x2 M' hq => ?_)
  · exact hq.elim
  · skip
    obtain ⟨hr2, rfl⟩ := hq
    rw [hr2]
    refine z_aload_n C dX3_isKin_5 rfl 0 rfl ?_
    refine z_iload_n C dX3_isKin_6 rfl 2 rfl ?_
    refine z_callXVr (rest := [.ref p]) (k' := 2) (n' := 12) C (c_X3_paneOf_bad (z_l X) (z_G X) h_st h_x h_pa h_ip2) (cs_X3_49 C (by decide)) h_x rfl rfl rfl rfl (Nat.le_of_ble_eq_true rfl) rfl rfl (by decide) (by decide) dX3_isKin_7 (fun E M' hq => ?_) (fun x7 M' hq => ?_)
    · obtain ⟨cx7_0, rfl, rfl⟩ | ⟨cx7_0, rfl, rfl⟩ := hq
      · exact prp (Or.inl ⟨cx7_0, rfl, rfl⟩) (by decide) (by decide)
      · exact prp (Or.inr (⟨cx7_0, rfl, rfl⟩)) (by decide) (by decide)
    · skip
      exact hq.elim
set_option maxRecDepth 20000 in
theorem c_X3_isKin (l : Launch) (G : zG) (h_st : l.stackTraces = false) {M : zM} {x : Nat} {pane : Int32} {other : Int32} {lr : Nat} {pa : Nat} {sp : Nat} {ln : Nat} {rf : Nat} {ac : Int32} {kn : Int32} {fp : Nat → Option Nat} {p : Nat} {ov : Nat} {sa : Int32} {cp : Int32} {po : Int32} {li : Int32} {mk : Int32} {rd : Int32} {o : Nat} {ov2 : Nat} {sa2 : Int32} {cp2 : Int32} {po2 : Int32} {li2 : Int32} {mk2 : Int32} {rd2 : Int32} {i i2 : Nat}  (h_x : M x = some (cMp lr pa sp ln rf ac kn)) (h_pa : M pa = some (aP G 6 fp)) (h_p : M p = some (cPn ov sa cp po li mk rd)) (h_o : M o = some (cPn ov2 sa2 cp2 po2 li2 mk2 rd2)) (h_ip : vp_in pane 6) (h_ij : pane.toNatClampNeg = i) (h_fp : fp i = some p) (h_ip2 : vp_in other 6) (h_ij2 : other.toNatClampNeg = i2) (h_fp2 : fp i2 = some o) (h_po : p ≠ o) : z_Xi l G qX3_isKin (z_rm 12 8 48) [.ref x, .int pane, .int other] M (fun r M' => ((¬ rd = 0) ∧ r = (-9) ∧ M' = M) ∨ ((rd = 0) ∧ (rd2 = 0) ∧ (¬ some ov = some ov2) ∧ r = 0 ∧ M' = M) ∨ ((rd = 0) ∧ (rd2 = 0) ∧ (some ov = some ov2) ∧ r = 1 ∧ M' = M) ∨ ((rd = 0) ∧ (¬ rd2 = 0) ∧ r = (-9) ∧ M' = M)) (fun E M' => False) := by
  refine z_Xi_of _ _ h_st rfl rfl (Nat.le_of_ble_eq_true rfl) (fun X hl hG C ret thr prp => ?_)
  subst hl; subst hG
  have C : z_C X cX3_isKin RX3 3 (z_rm 12 8 48) := C
  show z_W X M 0 0 0 [(0, .ref x), (1, .int pane), (2, .int other)] []
  refine z_aload_n C dX3_isKin_0 rfl 0 rfl ?_
  refine z_iload_n C dX3_isKin_1 rfl 1 rfl ?_
  refine z_callXVr (rest := []) (k' := 1) (n' := 6) C (c_X3_paneOf (z_l X) (z_G X) h_st h_x h_pa h_p h_ip h_ij h_fp) (cs_X3_49 C (by decide)) h_x rfl rfl rfl rfl (Nat.le_of_ble_eq_true rfl) rfl rfl (by decide) (by decide) dX3_isKin_2 (fun E M' hq => ?_) (fun x2 M' hq => ?_)
  · exact hq.elim
  · skip
    obtain ⟨hr2, rfl⟩ := hq
    rw [hr2]
    refine z_aload_n C dX3_isKin_5 rfl 0 rfl ?_
    refine z_iload_n C dX3_isKin_6 rfl 2 rfl ?_
    refine z_callXVr (rest := [.ref p]) (k' := 2) (n' := 12) C (c_X3_paneOf (z_l X) (z_G X) h_st h_x h_pa h_o h_ip2 h_ij2 h_fp2) (cs_X3_49 C (by decide)) h_x rfl rfl rfl rfl (Nat.le_of_ble_eq_true rfl) rfl rfl (by decide) (by decide) dX3_isKin_7 (fun E M' hq => ?_) (fun x7 M' hq => ?_)
    · exact hq.elim
    · skip
      obtain ⟨hr7, rfl⟩ := hq
      rw [hr7]
      refine z_callSi (rest := []) (k' := 2) (n' := 12) C (c_X3_kinship (z_l X) (z_G X) h_p h_o) (cs_X3_177 C (by decide)) rfl rfl (Nat.le_of_ble_eq_true rfl) rfl rfl (by decide) (by decide) dX3_isKin_10 (fun x10 M' hq => ?_)
      obtain ⟨d10_0, rfl, rfl⟩ | ⟨d10_0, d10_1, d10_2, rfl, rfl⟩ | ⟨d10_0, d10_1, d10_2, rfl, rfl⟩ | ⟨d10_0, d10_1, rfl, rfl⟩ := hq
      · exact ret dX3_isKin_13 rfl (Or.inl ⟨d10_0, rfl, rfl⟩) (by decide) (by decide)
      · exact ret dX3_isKin_13 rfl (Or.inr (Or.inl ⟨d10_0, d10_1, d10_2, rfl, rfl⟩)) (by decide) (by decide)
      · exact ret dX3_isKin_13 rfl (Or.inr (Or.inr (Or.inl ⟨d10_0, d10_1, d10_2, rfl, rfl⟩))) (by decide) (by decide)
      · exact ret dX3_isKin_13 rfl (Or.inr (Or.inr (Or.inr (⟨d10_0, d10_1, rfl, rfl⟩)))) (by decide) (by decide)
set_option maxRecDepth 20000 in
theorem c_X3_isKin_s (l : Launch) (G : zG) (h_st : l.stackTraces = false) {M : zM} {x : Nat} {pane : Int32} {other : Int32} {lr : Nat} {pa : Nat} {sp : Nat} {ln : Nat} {rf : Nat} {ac : Int32} {kn : Int32} {fp : Nat → Option Nat} {p : Nat} {ov : Nat} {sa : Int32} {cp : Int32} {po : Int32} {li : Int32} {mk : Int32} {rd : Int32} {i i2 : Nat}  (h_x : M x = some (cMp lr pa sp ln rf ac kn)) (h_pa : M pa = some (aP G 6 fp)) (h_p : M p = some (cPn ov sa cp po li mk rd)) (h_ip : vp_in pane 6) (h_ij : pane.toNatClampNeg = i) (h_fp : fp i = some p) (h_ip2 : vp_in other 6) (h_ij2 : other.toNatClampNeg = i2) (h_fp2 : fp i2 = some p) : z_Xi l G qX3_isKin (z_rm 12 8 48) [.ref x, .int pane, .int other] M (fun r M' => ((¬ rd = 0) ∧ r = (-9) ∧ M' = M) ∨ ((rd = 0) ∧ (rd = 0) ∧ (¬ some ov = some ov) ∧ r = 0 ∧ M' = M) ∨ ((rd = 0) ∧ (rd = 0) ∧ (some ov = some ov) ∧ r = 1 ∧ M' = M) ∨ ((rd = 0) ∧ (¬ rd = 0) ∧ r = (-9) ∧ M' = M)) (fun E M' => False) := by
  refine z_Xi_of _ _ h_st rfl rfl (Nat.le_of_ble_eq_true rfl) (fun X hl hG C ret thr prp => ?_)
  subst hl; subst hG
  have C : z_C X cX3_isKin RX3 3 (z_rm 12 8 48) := C
  show z_W X M 0 0 0 [(0, .ref x), (1, .int pane), (2, .int other)] []
  refine z_aload_n C dX3_isKin_0 rfl 0 rfl ?_
  refine z_iload_n C dX3_isKin_1 rfl 1 rfl ?_
  refine z_callXVr (rest := []) (k' := 1) (n' := 6) C (c_X3_paneOf (z_l X) (z_G X) h_st h_x h_pa h_p h_ip h_ij h_fp) (cs_X3_49 C (by decide)) h_x rfl rfl rfl rfl (Nat.le_of_ble_eq_true rfl) rfl rfl (by decide) (by decide) dX3_isKin_2 (fun E M' hq => ?_) (fun x2 M' hq => ?_)
  · exact hq.elim
  · skip
    obtain ⟨hr2, rfl⟩ := hq
    rw [hr2]
    refine z_aload_n C dX3_isKin_5 rfl 0 rfl ?_
    refine z_iload_n C dX3_isKin_6 rfl 2 rfl ?_
    refine z_callXVr (rest := [.ref p]) (k' := 2) (n' := 12) C (c_X3_paneOf (z_l X) (z_G X) h_st h_x h_pa h_p h_ip2 h_ij2 h_fp2) (cs_X3_49 C (by decide)) h_x rfl rfl rfl rfl (Nat.le_of_ble_eq_true rfl) rfl rfl (by decide) (by decide) dX3_isKin_7 (fun E M' hq => ?_) (fun x7 M' hq => ?_)
    · exact hq.elim
    · skip
      obtain ⟨hr7, rfl⟩ := hq
      rw [hr7]
      refine z_callSi (rest := []) (k' := 2) (n' := 12) C (c_X3_kinship_s (z_l X) (z_G X) h_p) (cs_X3_177 C (by decide)) rfl rfl (Nat.le_of_ble_eq_true rfl) rfl rfl (by decide) (by decide) dX3_isKin_10 (fun x10 M' hq => ?_)
      obtain ⟨d10_0, rfl, rfl⟩ | ⟨d10_0, d10_1, d10_2, rfl, rfl⟩ | ⟨d10_0, d10_1, d10_2, rfl, rfl⟩ | ⟨d10_0, d10_1, rfl, rfl⟩ := hq
      · exact ret dX3_isKin_13 rfl (Or.inl ⟨d10_0, rfl, rfl⟩) (by decide) (by decide)
      · exact ret dX3_isKin_13 rfl (Or.inr (Or.inl ⟨d10_0, d10_1, d10_2, rfl, rfl⟩)) (by decide) (by decide)
      · exact ret dX3_isKin_13 rfl (Or.inr (Or.inr (Or.inl ⟨d10_0, d10_1, d10_2, rfl, rfl⟩))) (by decide) (by decide)
      · exact ret dX3_isKin_13 rfl (Or.inr (Or.inr (Or.inr (⟨d10_0, d10_1, rfl, rfl⟩)))) (by decide) (by decide)
set_option maxRecDepth 20000 in
theorem c_X3_sees_bad (l : Launch) (G : zG) (h_st : l.stackTraces = false) {M : zM} {x : Nat} {pane : Int32} {ix0 : Int32} {other : Int32} {lr : Nat} {pa : Nat} {sp : Nat} {ln : Nat} {rf : Nat} {ac : Int32} {kn : Int32} {fp : Nat → Option Nat}  (h_x : M x = some (cMp lr pa sp ln rf ac kn)) (h_pa : M pa = some (aP G 6 fp)) (h_ip : ¬ vp_in pane 6) : z_Xi l G qX3_sees (z_rm 12 8 48) [.ref x, .int pane, .int ix0, .int other] M (fun r M' => False) (fun E M' => ((pane < 0) ∧ E = "java/lang/IndexOutOfBoundsException" ∧ M' = M) ∨ ((¬ pane < 0) ∧ E = "java/lang/IndexOutOfBoundsException" ∧ M' = M)) := by
  refine z_Xi_of _ _ h_st rfl rfl (Nat.le_of_ble_eq_true rfl) (fun X hl hG C ret thr prp => ?_)
  subst hl; subst hG
  have C : z_C X cX3_sees RX3 4 (z_rm 12 8 48) := C
  show z_W X M 0 0 0 [(0, .ref x), (1, .int pane), (2, .int ix0), (3, .int other)] []
  refine z_aload_n C dX3_sees_0 rfl 0 rfl ?_
  refine z_iload_n C dX3_sees_1 rfl 1 rfl ?_
  refine z_callXVr (rest := []) (k' := 1) (n' := 6) C (c_X3_paneOf_bad (z_l X) (z_G X) h_st h_x h_pa h_ip) (cs_X3_49 C (by decide)) h_x rfl rfl rfl rfl (Nat.le_of_ble_eq_true rfl) rfl rfl (by decide) (by decide) dX3_sees_2 (fun E M' hq => ?_) (fun x2 M' hq => ?_)
  · obtain ⟨cx2_0, rfl, rfl⟩ | ⟨cx2_0, rfl, rfl⟩ := hq
    · exact prp (Or.inl ⟨cx2_0, rfl, rfl⟩) (by decide) (by decide)
    · exact prp (Or.inr (⟨cx2_0, rfl, rfl⟩)) (by decide) (by decide)
  · skip
    exact hq.elim
set_option maxRecDepth 20000 in
theorem c_X3_sees_bad2 (l : Launch) (G : zG) (h_st : l.stackTraces = false) {M : zM} {x : Nat} {pane : Int32} {ix0 : Int32} {other : Int32} {lr : Nat} {pa : Nat} {sp : Nat} {ln : Nat} {rf : Nat} {ac : Int32} {kn : Int32} {fp : Nat → Option Nat} {p : Nat} {ov : Nat} {sa : Int32} {cp : Int32} {po : Int32} {li : Int32} {mk : Int32} {rd : Int32} {i : Nat} (h_x : M x = some (cMp lr pa sp ln rf ac kn)) (h_pa : M pa = some (aP G 6 fp)) (h_p : M p = some (cPn ov sa cp po li mk rd)) (h_ip : vp_in pane 6) (h_ij : pane.toNatClampNeg = i) (h_fp : fp i = some p) (h_ip2 : ¬ vp_in other 6) : z_Xi l G qX3_sees (z_rm 12 8 48) [.ref x, .int pane, .int ix0, .int other] M (fun r M' => False) (fun E M' => ((other < 0) ∧ E = "java/lang/IndexOutOfBoundsException" ∧ M' = M) ∨ ((¬ other < 0) ∧ E = "java/lang/IndexOutOfBoundsException" ∧ M' = M)) := by
  refine z_Xi_of _ _ h_st rfl rfl (Nat.le_of_ble_eq_true rfl) (fun X hl hG C ret thr prp => ?_)
  subst hl; subst hG
  have C : z_C X cX3_sees RX3 4 (z_rm 12 8 48) := C
  show z_W X M 0 0 0 [(0, .ref x), (1, .int pane), (2, .int ix0), (3, .int other)] []
  refine z_aload_n C dX3_sees_0 rfl 0 rfl ?_
  refine z_iload_n C dX3_sees_1 rfl 1 rfl ?_
  refine z_callXVr (rest := []) (k' := 1) (n' := 6) C (c_X3_paneOf (z_l X) (z_G X) h_st h_x h_pa h_p h_ip h_ij h_fp) (cs_X3_49 C (by decide)) h_x rfl rfl rfl rfl (Nat.le_of_ble_eq_true rfl) rfl rfl (by decide) (by decide) dX3_sees_2 (fun E M' hq => ?_) (fun x2 M' hq => ?_)
  · exact hq.elim
  · skip
    obtain ⟨hr2, rfl⟩ := hq
    rw [hr2]
    refine z_iload_n C dX3_sees_5 rfl 2 rfl ?_
    refine z_aload_n C dX3_sees_6 rfl 0 rfl ?_
    refine z_iload_n C dX3_sees_7 rfl 3 rfl ?_
    refine z_callXVr (rest := [.int ix0, .ref p]) (k' := 2) (n' := 12) C (c_X3_paneOf_bad (z_l X) (z_G X) h_st h_x h_pa h_ip2) (cs_X3_49 C (by decide)) h_x rfl rfl rfl rfl (Nat.le_of_ble_eq_true rfl) rfl rfl (by decide) (by decide) dX3_sees_8 (fun E M' hq => ?_) (fun x8 M' hq => ?_)
    · obtain ⟨cx8_0, rfl, rfl⟩ | ⟨cx8_0, rfl, rfl⟩ := hq
      · exact prp (Or.inl ⟨cx8_0, rfl, rfl⟩) (by decide) (by decide)
      · exact prp (Or.inr (⟨cx8_0, rfl, rfl⟩)) (by decide) (by decide)
    · skip
      exact hq.elim
set_option maxRecDepth 20000 in
theorem c_X3_sees (l : Launch) (G : zG) (h_st : l.stackTraces = false) {M : zM} {x : Nat} {pane : Int32} {ix0 : Int32} {other : Int32} {lr : Nat} {pa : Nat} {sp : Nat} {ln : Nat} {rf : Nat} {ac : Int32} {kn : Int32} {fp : Nat → Option Nat} {p : Nat} {ov : Nat} {sa : Int32} {cp : Int32} {po : Int32} {li : Int32} {mk : Int32} {rd : Int32} {o : Nat} {ov2 : Nat} {sa2 : Int32} {cp2 : Int32} {po2 : Int32} {li2 : Int32} {mk2 : Int32} {rd2 : Int32} {i i2 : Nat}  (h_x : M x = some (cMp lr pa sp ln rf ac kn)) (h_pa : M pa = some (aP G 6 fp)) (h_p : M p = some (cPn ov sa cp po li mk rd)) (h_o : M o = some (cPn ov2 sa2 cp2 po2 li2 mk2 rd2)) (h_ip : vp_in pane 6) (h_ij : pane.toNatClampNeg = i) (h_fp : fp i = some p) (h_ip2 : vp_in other 6) (h_ij2 : other.toNatClampNeg = i2) (h_fp2 : fp i2 = some o) (h_po : p ≠ o) : z_Xi l G qX3_sees (z_rm 12 8 48) [.ref x, .int pane, .int ix0, .int other] M (fun r M' => ((¬ rd = 0) ∧ r = (-9) ∧ M' = M) ∨ ((rd = 0) ∧ (rd2 = 0) ∧ (¬ some ov = some ov2) ∧ r = (-1) ∧ M' = M) ∨ ((rd = 0) ∧ (rd2 = 0) ∧ (some ov = some ov2) ∧ (¬ (z_hi ix0 cp) = 0) ∧ ((z_hi ((sa + ix0) - sa2) cp2) = 0) ∧ r = (-1) ∧ M' = M) ∨ ((rd = 0) ∧ (rd2 = 0) ∧ (some ov = some ov2) ∧ (¬ (z_hi ix0 cp) = 0) ∧ (¬ (z_hi ((sa + ix0) - sa2) cp2) = 0) ∧ r = (sa + ix0) - sa2 ∧ M' = M) ∨ ((rd = 0) ∧ (rd2 = 0) ∧ (some ov = some ov2) ∧ ((z_hi ix0 cp) = 0) ∧ r = (-1) ∧ M' = M) ∨ ((rd = 0) ∧ (¬ rd2 = 0) ∧ r = (-9) ∧ M' = M)) (fun E M' => False) := by
  refine z_Xi_of _ _ h_st rfl rfl (Nat.le_of_ble_eq_true rfl) (fun X hl hG C ret thr prp => ?_)
  subst hl; subst hG
  have C : z_C X cX3_sees RX3 4 (z_rm 12 8 48) := C
  show z_W X M 0 0 0 [(0, .ref x), (1, .int pane), (2, .int ix0), (3, .int other)] []
  refine z_aload_n C dX3_sees_0 rfl 0 rfl ?_
  refine z_iload_n C dX3_sees_1 rfl 1 rfl ?_
  refine z_callXVr (rest := []) (k' := 1) (n' := 6) C (c_X3_paneOf (z_l X) (z_G X) h_st h_x h_pa h_p h_ip h_ij h_fp) (cs_X3_49 C (by decide)) h_x rfl rfl rfl rfl (Nat.le_of_ble_eq_true rfl) rfl rfl (by decide) (by decide) dX3_sees_2 (fun E M' hq => ?_) (fun x2 M' hq => ?_)
  · exact hq.elim
  · skip
    obtain ⟨hr2, rfl⟩ := hq
    rw [hr2]
    refine z_iload_n C dX3_sees_5 rfl 2 rfl ?_
    refine z_aload_n C dX3_sees_6 rfl 0 rfl ?_
    refine z_iload_n C dX3_sees_7 rfl 3 rfl ?_
    refine z_callXVr (rest := [.int ix0, .ref p]) (k' := 2) (n' := 12) C (c_X3_paneOf (z_l X) (z_G X) h_st h_x h_pa h_o h_ip2 h_ij2 h_fp2) (cs_X3_49 C (by decide)) h_x rfl rfl rfl rfl (Nat.le_of_ble_eq_true rfl) rfl rfl (by decide) (by decide) dX3_sees_8 (fun E M' hq => ?_) (fun x8 M' hq => ?_)
    · exact hq.elim
    · skip
      obtain ⟨hr8, rfl⟩ := hq
      rw [hr8]
      refine z_callSi (rest := []) (k' := 2) (n' := 12) C (c_X3_indexSeen (z_l X) (z_G X) h_p h_o) (cs_X3_181 C (by decide)) rfl rfl (Nat.le_of_ble_eq_true rfl) rfl rfl (by decide) (by decide) dX3_sees_11 (fun x11 M' hq => ?_)
      obtain ⟨d11_0, rfl, rfl⟩ | ⟨d11_0, d11_1, d11_2, rfl, rfl⟩ | ⟨d11_0, d11_1, d11_2, d11_3, d11_4, rfl, rfl⟩ | ⟨d11_0, d11_1, d11_2, d11_3, d11_4, rfl, rfl⟩ | ⟨d11_0, d11_1, d11_2, d11_3, rfl, rfl⟩ | ⟨d11_0, d11_1, rfl, rfl⟩ := hq
      · exact ret dX3_sees_14 rfl (Or.inl ⟨d11_0, rfl, rfl⟩) (by decide) (by decide)
      · exact ret dX3_sees_14 rfl (Or.inr (Or.inl ⟨d11_0, d11_1, d11_2, rfl, rfl⟩)) (by decide) (by decide)
      · exact ret dX3_sees_14 rfl (Or.inr (Or.inr (Or.inl ⟨d11_0, d11_1, d11_2, d11_3, d11_4, rfl, rfl⟩))) (by decide) (by decide)
      · exact ret dX3_sees_14 rfl (Or.inr (Or.inr (Or.inr (Or.inl ⟨d11_0, d11_1, d11_2, d11_3, d11_4, rfl, rfl⟩)))) (by decide) (by decide)
      · exact ret dX3_sees_14 rfl (Or.inr (Or.inr (Or.inr (Or.inr (Or.inl ⟨d11_0, d11_1, d11_2, d11_3, rfl, rfl⟩))))) (by decide) (by decide)
      · exact ret dX3_sees_14 rfl (Or.inr (Or.inr (Or.inr (Or.inr (Or.inr (⟨d11_0, d11_1, rfl, rfl⟩)))))) (by decide) (by decide)
set_option maxRecDepth 20000 in
theorem c_X3_sees_s (l : Launch) (G : zG) (h_st : l.stackTraces = false) {M : zM} {x : Nat} {pane : Int32} {ix0 : Int32} {other : Int32} {lr : Nat} {pa : Nat} {sp : Nat} {ln : Nat} {rf : Nat} {ac : Int32} {kn : Int32} {fp : Nat → Option Nat} {p : Nat} {ov : Nat} {sa : Int32} {cp : Int32} {po : Int32} {li : Int32} {mk : Int32} {rd : Int32} {i i2 : Nat}  (h_x : M x = some (cMp lr pa sp ln rf ac kn)) (h_pa : M pa = some (aP G 6 fp)) (h_p : M p = some (cPn ov sa cp po li mk rd)) (h_ip : vp_in pane 6) (h_ij : pane.toNatClampNeg = i) (h_fp : fp i = some p) (h_ip2 : vp_in other 6) (h_ij2 : other.toNatClampNeg = i2) (h_fp2 : fp i2 = some p) : z_Xi l G qX3_sees (z_rm 12 8 48) [.ref x, .int pane, .int ix0, .int other] M (fun r M' => ((¬ rd = 0) ∧ r = (-9) ∧ M' = M) ∨ ((rd = 0) ∧ (rd = 0) ∧ (¬ some ov = some ov) ∧ r = (-1) ∧ M' = M) ∨ ((rd = 0) ∧ (rd = 0) ∧ (some ov = some ov) ∧ (¬ (z_hi ix0 cp) = 0) ∧ ((z_hi ((sa + ix0) - sa) cp) = 0) ∧ r = (-1) ∧ M' = M) ∨ ((rd = 0) ∧ (rd = 0) ∧ (some ov = some ov) ∧ (¬ (z_hi ix0 cp) = 0) ∧ (¬ (z_hi ((sa + ix0) - sa) cp) = 0) ∧ r = (sa + ix0) - sa ∧ M' = M) ∨ ((rd = 0) ∧ (rd = 0) ∧ (some ov = some ov) ∧ ((z_hi ix0 cp) = 0) ∧ r = (-1) ∧ M' = M) ∨ ((rd = 0) ∧ (¬ rd = 0) ∧ r = (-9) ∧ M' = M)) (fun E M' => False) := by
  refine z_Xi_of _ _ h_st rfl rfl (Nat.le_of_ble_eq_true rfl) (fun X hl hG C ret thr prp => ?_)
  subst hl; subst hG
  have C : z_C X cX3_sees RX3 4 (z_rm 12 8 48) := C
  show z_W X M 0 0 0 [(0, .ref x), (1, .int pane), (2, .int ix0), (3, .int other)] []
  refine z_aload_n C dX3_sees_0 rfl 0 rfl ?_
  refine z_iload_n C dX3_sees_1 rfl 1 rfl ?_
  refine z_callXVr (rest := []) (k' := 1) (n' := 6) C (c_X3_paneOf (z_l X) (z_G X) h_st h_x h_pa h_p h_ip h_ij h_fp) (cs_X3_49 C (by decide)) h_x rfl rfl rfl rfl (Nat.le_of_ble_eq_true rfl) rfl rfl (by decide) (by decide) dX3_sees_2 (fun E M' hq => ?_) (fun x2 M' hq => ?_)
  · exact hq.elim
  · skip
    obtain ⟨hr2, rfl⟩ := hq
    rw [hr2]
    refine z_iload_n C dX3_sees_5 rfl 2 rfl ?_
    refine z_aload_n C dX3_sees_6 rfl 0 rfl ?_
    refine z_iload_n C dX3_sees_7 rfl 3 rfl ?_
    refine z_callXVr (rest := [.int ix0, .ref p]) (k' := 2) (n' := 12) C (c_X3_paneOf (z_l X) (z_G X) h_st h_x h_pa h_p h_ip2 h_ij2 h_fp2) (cs_X3_49 C (by decide)) h_x rfl rfl rfl rfl (Nat.le_of_ble_eq_true rfl) rfl rfl (by decide) (by decide) dX3_sees_8 (fun E M' hq => ?_) (fun x8 M' hq => ?_)
    · exact hq.elim
    · skip
      obtain ⟨hr8, rfl⟩ := hq
      rw [hr8]
      refine z_callSi (rest := []) (k' := 2) (n' := 12) C (c_X3_indexSeen_s (z_l X) (z_G X) h_p) (cs_X3_181 C (by decide)) rfl rfl (Nat.le_of_ble_eq_true rfl) rfl rfl (by decide) (by decide) dX3_sees_11 (fun x11 M' hq => ?_)
      obtain ⟨d11_0, rfl, rfl⟩ | ⟨d11_0, d11_1, d11_2, rfl, rfl⟩ | ⟨d11_0, d11_1, d11_2, d11_3, d11_4, rfl, rfl⟩ | ⟨d11_0, d11_1, d11_2, d11_3, d11_4, rfl, rfl⟩ | ⟨d11_0, d11_1, d11_2, d11_3, rfl, rfl⟩ | ⟨d11_0, d11_1, rfl, rfl⟩ := hq
      · exact ret dX3_sees_14 rfl (Or.inl ⟨d11_0, rfl, rfl⟩) (by decide) (by decide)
      · exact ret dX3_sees_14 rfl (Or.inr (Or.inl ⟨d11_0, d11_1, d11_2, rfl, rfl⟩)) (by decide) (by decide)
      · exact ret dX3_sees_14 rfl (Or.inr (Or.inr (Or.inl ⟨d11_0, d11_1, d11_2, d11_3, d11_4, rfl, rfl⟩))) (by decide) (by decide)
      · exact ret dX3_sees_14 rfl (Or.inr (Or.inr (Or.inr (Or.inl ⟨d11_0, d11_1, d11_2, d11_3, d11_4, rfl, rfl⟩)))) (by decide) (by decide)
      · exact ret dX3_sees_14 rfl (Or.inr (Or.inr (Or.inr (Or.inr (Or.inl ⟨d11_0, d11_1, d11_2, d11_3, rfl, rfl⟩))))) (by decide) (by decide)
      · exact ret dX3_sees_14 rfl (Or.inr (Or.inr (Or.inr (Or.inr (Or.inr (⟨d11_0, d11_1, rfl, rfl⟩)))))) (by decide) (by decide)
end
section
/-! PART 30: what a state of the panes is, and what each call makes of it; the class's cells and the reference's cells of such a state -/
theorem zk {M : zM} {a b : Nat} {e f g : va_E} (ha : M a = some e) (hb : M b = some f) (hne : f ≠ e) : z_up M a g b = some f := (z_up_n _ _ (z_ne hb ha hne)).trans hb
theorem zk' {M : zM} {a b : Nat} {f g : va_E} (hb : M b = some f) (h : b ≠ a) : z_up M a g b = some f := (z_up_n _ _ h).trans hb
theorem zkn {M : zM} {a b : Nat} {f g : va_E} (ha : M a = none) (hb : M b = some f) : z_up M a g b = some f := (z_up_n _ _ (z_neN hb ha)).trans hb
def s_fu (K : Nat → Nat) (i q : Nat) : Nat → Nat := fun j => if j = i then q else K j
theorem s_fu_s (K : Nat → Nat) (i q : Nat) : s_fu K i q i = q := if_pos rfl
theorem s_fu_n (K : Nat → Nat) {i j : Nat} (q : Nat) (h : j ≠ i) : s_fu K i q j = K j := if_neg h
/-- a pane: row, start, capacity, position, limit, mark, reader -/
abbrev sP : Type := Nat × Int32 × Int32 × Int32 × Int32 × Int32 × Int32
abbrev p_ro (p : sP) : Nat := p.1
abbrev p_sa (p : sP) : Int32 := p.2.1
abbrev p_cp (p : sP) : Int32 := p.2.2.1
abbrev p_po (p : sP) : Int32 := p.2.2.2.1
abbrev p_li (p : sP) : Int32 := p.2.2.2.2.1
abbrev p_mk (p : sP) : Int32 := p.2.2.2.2.2.1
abbrev p_rd (p : sP) : Int32 := p.2.2.2.2.2.2
/-- rows, their lengths, their values, panes, acts, knocks, refusals -/
abbrev sS : Type := Nat × (Nat → Nat) × (Nat → Nat → Int32) × (Nat → sP) × Int32 × Int32 × (Nat → Int32)
abbrev s_nr (u : sS) : Nat := u.1
abbrev s_ln (u : sS) : Nat → Nat := u.2.1
abbrev s_vl (u : sS) : Nat → Nat → Int32 := u.2.2.1
abbrev s_pn (u : sS) : Nat → sP := u.2.2.2.1
abbrev s_ac (u : sS) : Int32 := u.2.2.2.2.1
abbrev s_kn (u : sS) : Int32 := u.2.2.2.2.2.1
abbrev s_td (u : sS) : Nat → Int32 := u.2.2.2.2.2.2
def s_up (u : sS) (i : Nat) (p : sP) : sS := (s_nr u, s_ln u, s_vl u, (fun j => if j = i then p else s_pn u j), s_ac u, s_kn u, s_td u)
def s_ak (u : sS) (a k : Int32) : sS := (s_nr u, s_ln u, s_vl u, s_pn u, a, k, s_td u)
abbrev s_act (u : sS) : sS := s_ak u (s_ac u + 1) (s_kn u)
def s_tdu (u : sS) (f : Nat → Int32) : sS := (s_nr u, s_ln u, s_vl u, s_pn u, s_ac u, s_kn u, f)
abbrev s_tel (u : sS) (k : Nat) : sS := s_tdu u (upd (s_td u) k (s_td u k + 1))
def s_wr (u : sS) (r j : Nat) (v : Int32) : sS := (s_nr u, s_ln u, (fun q => if q = r then upd (s_vl u r) j v else s_vl u q), s_pn u, s_ac u, s_kn u, s_td u)
def s_new (u : sS) (n : Nat) : sS := (s_nr u + 1, (fun q => if q = s_nr u then n else s_ln u q), (fun q => if q = s_nr u then (fun _ => 0) else s_vl u q), s_pn u, s_ac u, s_kn u, s_td u)
theorem s_up_s (u : sS) (i : Nat) (p : sP) : s_pn (s_up u i p) i = p := if_pos rfl
theorem s_up_n (u : sS) {i j : Nat} (p : sP) (h : j ≠ i) : s_pn (s_up u i p) j = s_pn u j := if_neg h
theorem s_wr_s (u : sS) (r j : Nat) (v : Int32) : s_vl (s_wr u r j v) r = upd (s_vl u r) j v := if_pos rfl
theorem s_wr_n (u : sS) {r q : Nat} (j : Nat) (v : Int32) (h : q ≠ r) : s_vl (s_wr u r j v) q = s_vl u q := if_neg h
def p_mv (p : sP) (x : Int32) : sP := (p_ro p, p_sa p, p_cp p, x, p_li p, (if p_mk p ≤ x then p_mk p else -1), p_rd p)
def p_en (p : sP) (x : Int32) : sP := (p_ro p, p_sa p, p_cp p, (if p_po p ≤ x then p_po p else x), x, (if p_mk p ≤ x then p_mk p else -1), p_rd p)
def p_bg (p : sP) (x : Int32) : sP := (p_ro p, p_sa p, p_cp p, 0, x, -1, p_rd p)
def p_po' (p : sP) (x : Int32) : sP := (p_ro p, p_sa p, p_cp p, x, p_li p, p_mk p, p_rd p)
def p_pt (p : sP) (ix mn : Int32) : sP := (p_ro p, p_sa p + ix, mn, 0, mn, -1, p_rd p)
/-- the place of an index in its row -/
abbrev p_at (p : sP) (x : Int32) : Nat := (p_sa p + x).toNatClampNeg
abbrev s_val (u : sS) (p : sP) (x : Int32) : Int32 := s_vl u (p_ro p) (p_at p x)
/-- what the calls answer and make: (answer, state) -/
abbrev sR : Type := Int32 × sS
def s_wrap (u : sS) (i : Nat) (fr mn : Int32) : sR := (fr + mn, s_act (s_up u i (0, 0, 16, fr, fr + mn, -1, 0)))
def s_fresh (u : sS) (i : Nat) (ln : Int32) : sR := (ln, s_act (s_up (s_new u ln.toNatClampNeg) i (s_nr u, 0, ln, 0, ln, -1, 0)))
def s_twin (u : sS) (i j : Nat) : sR := (p_li (s_pn u j) - p_po (s_pn u j), s_act (s_up u i (s_pn u j)))
def s_rest (u : sS) (i j : Nat) : sR := (p_li (s_pn u j) - p_po (s_pn u j), s_act (s_up u i (p_pt (s_pn u j) (p_po (s_pn u j)) (p_li (s_pn u j) - p_po (s_pn u j)))))
def s_part (u : sS) (i j : Nat) (ix mn : Int32) : sR := if z_is ix 0 (p_li (s_pn u j)) = 0 then (-9, s_tel u 5) else if z_is mn 0 (p_li (s_pn u j) - ix) = 0 then (-9, s_tel u 5) else (mn, s_act (s_up u i (p_pt (s_pn u j) ix mn)))
def p_rdr (p : sP) : sP := (p_ro p, p_sa p, p_cp p, p_po p, p_li p, p_mk p, 1)
def s_reader (u : sS) (i j : Nat) : sR := (p_li (s_pn u j) - p_po (s_pn u j), s_act (s_up u i (p_rdr (s_pn u j))))
def s_sw (u : sS) (i j : Nat) : sS := s_up (s_up u i (s_pn u j)) j (s_pn u i)
def s_exch (u : sS) (i j : Nat) : sR := (p_po (s_pn u j), s_act (s_sw u i j))
def s_go (u : sS) (i : Nat) (x : Int32) : sR := if z_is x 0 (p_li (s_pn u i)) = 0 then (-9, s_tel u 5) else (p_po (s_pn u i), s_act (s_up u i (p_mv (s_pn u i) x)))
def s_move (u : sS) (i : Nat) (b : Int32) : sR := if z_is (p_po (s_pn u i) + b) 0 (p_li (s_pn u i)) = 0 then (-9, s_tel u 5) else (p_po (s_pn u i) + b, s_act (s_up u i (p_mv (s_pn u i) (p_po (s_pn u i) + b))))
def s_end (u : sS) (i : Nat) (x : Int32) : sR := if z_is x 0 (p_cp (s_pn u i)) = 0 then (-9, s_tel u 5) else (p_li (s_pn u i), s_act (s_up u i (p_en (s_pn u i) x)))
def s_stretch (u : sS) (i : Nat) (b : Int32) : sR := if z_is (p_li (s_pn u i) + b) 0 (p_cp (s_pn u i)) = 0 then (-9, s_tel u 5) else (p_li (s_pn u i) + b, s_act (s_up u i (p_en (s_pn u i) (p_li (s_pn u i) + b))))
def p_mkd (p : sP) : sP := (p_ro p, p_sa p, p_cp p, p_po p, p_li p, p_po p, p_rd p)
def s_mark (u : sS) (i : Nat) : sR := (p_po (s_pn u i), s_act (s_up u i (p_mkd (s_pn u i))))
def s_back (u : sS) (i : Nat) : sR := if p_mk (s_pn u i) = -1 then (-9, s_tel u 3) else (p_po (s_pn u i) - p_mk (s_pn u i), s_act (s_up u i (p_po' (s_pn u i) (p_mk (s_pn u i)))))
def s_clear (u : sS) (i : Nat) : sR := (p_cp (s_pn u i) - 0, s_act (s_up u i (p_bg (s_pn u i) (p_cp (s_pn u i)))))
def s_flip (u : sS) (i : Nat) : sR := (p_po (s_pn u i) - 0, s_act (s_up u i (p_bg (s_pn u i) (p_po (s_pn u i)))))
def s_rewind (u : sS) (i : Nat) : sR := (p_li (s_pn u i) - 0, s_act (s_up u i (p_bg (s_pn u i) (p_li (s_pn u i)))))
/-- one value put: (0, or the refusal's kind) -/
def s_put1 (u : sS) (i : Nat) (v : Int32) : sR := if p_rd (s_pn u i) = 1 then (4, s_tel u 4) else if p_li (s_pn u i) - p_po (s_pn u i) = 0 then (1, s_tel u 1) else (0, s_up (s_wr u (p_ro (s_pn u i)) (p_at (s_pn u i) (p_po (s_pn u i))) v) i (p_po' (s_pn u i) (p_po (s_pn u i) + 1)))
def s_put (u : sS) (i : Nat) (v : Int32) : sR := if (s_put1 u i v).1 = 0 then (p_po (s_pn u i) + 1, s_act (s_put1 u i v).2) else (-9, (s_put1 u i v).2)
def s_putAt (u : sS) (i : Nat) (ix v : Int32) : sR := if z_hi ix (p_li (s_pn u i)) = 0 then (-9, s_tel u 5) else if p_rd (s_pn u i) = 1 then (-9, s_tel u 4) else (s_val u (s_pn u i) ix, s_act (s_wr u (p_ro (s_pn u i)) (p_at (s_pn u i) ix) v))
def s_bring (u : sS) (i j : Nat) (ix fr : Int32) : sR := if z_hi fr (p_li (s_pn u j)) = 0 then (-9, s_tel u 5) else if z_hi ix (p_li (s_pn u i)) = 0 then (-9, s_tel u 5) else if p_rd (s_pn u i) = 1 then (-9, s_tel u 4) else (s_val u (s_pn u i) ix, s_act (s_wr u (p_ro (s_pn u i)) (p_at (s_pn u i) ix) (s_val u (s_pn u j) fr)))
def s_lay (u : sS) (x v : Int32) : sR := (s_vl u 0 x.toNatClampNeg, s_act (s_wr u 0 x.toNatClampNeg v))
def s_reach (u : sS) (i : Nat) (ix v : Int32) : sR := if p_rd (s_pn u i) = 1 then (-9, s_tel u 4) else if z_hi ix (p_cp (s_pn u i)) = 0 then (-9, s_tel u 5) else (s_val u (s_pn u i) ix, s_act (s_wr u (p_ro (s_pn u i)) (p_at (s_pn u i) ix) v))
def s_get (u : sS) (i : Nat) : sR := if p_li (s_pn u i) - p_po (s_pn u i) = 0 then (-9, s_tel u 2) else (s_val u (s_pn u i) (p_po (s_pn u i)), s_act (s_up u i (p_po' (s_pn u i) (p_po (s_pn u i) + 1))))
def s_pop (u : sS) (i : Nat) : sR := if p_po (s_pn u i) = 0 then (-9, s_tel u 5) else (s_val u (s_pn u i) (p_po (s_pn u i) - 1), s_act (s_up u i (p_mv (s_pn u i) (p_po (s_pn u i) - 1))))
def s_drain (u : sS) (i : Nat) (mn : Int32) : sR := if mn ≤ p_li (s_pn u i) - p_po (s_pn u i) then (mn, s_act (s_up u i (p_po' (s_pn u i) (p_po (s_pn u i) + mn)))) else (p_li (s_pn u i) - p_po (s_pn u i), s_act (s_tel (s_up u i (p_po' (s_pn u i) (p_po (s_pn u i) + (p_li (s_pn u i) - p_po (s_pn u i))))) 2))
/-- d values put from the j-th on: (how many at last, the state) -/
def s_fill1 (i : Nat) (a b : Int32) : Nat → Nat → sS → Nat × sS
  | 0, j, u => (j, u)
  | d + 1, j, u => if (s_put1 u i (a + nI j * b)).1 = 0 then s_fill1 i a b d (j + 1) (s_put1 u i (a + nI j * b)).2 else (j, (s_put1 u i (a + nI j * b)).2)
def s_fill (u : sS) (i : Nat) (a b mn : Int32) : sR := (nI (s_fill1 i a b mn.toNatClampNeg 0 u).1, s_act (s_fill1 i a b mn.toNatClampNeg 0 u).2)
/-- d values of a pane brought to its beginning, from the j-th on -/
def s_pack1 (i : Nat) : Nat → Nat → sS → sS
  | 0, _, u => u
  | d + 1, j, u => s_pack1 i d (j + 1) (s_wr u (p_ro (s_pn u i)) (p_at (s_pn u i) (nI j)) (s_val u (s_pn u i) (p_po (s_pn u i) + nI j)))
def s_pack (u : sS) (i : Nat) : sR := if p_rd (s_pn u i) = 1 then (-9, s_tel u 4) else (p_li (s_pn u i) - p_po (s_pn u i), s_act (s_up (s_pack1 i (p_li (s_pn u i) - p_po (s_pn u i)).toNatClampNeg 0 u) i (p_po' (p_bg (s_pn u i) (p_cp (s_pn u i))) (p_li (s_pn u i) - p_po (s_pn u i)))))
/-- one value poured from pane i into pane k: the first one goes on, the other takes it; if that refuses, the first one goes back -/
def s_pour0 (u : sS) (i k : Nat) : sR := s_put1 (s_up u i (p_po' (s_pn u i) (p_po (s_pn u i) + 1))) k (s_val u (s_pn u i) (p_po (s_pn u i)))
def s_unp (u : sS) (i : Nat) : sS := s_up u i (p_mv (s_pn u i) (p_po (s_pn u i) - 1))
def s_pour1 (i k : Nat) : Nat → Nat → sS → Nat × sS
  | 0, j, u => (j, u)
  | d + 1, j, u => if p_li (s_pn u i) - p_po (s_pn u i) ≤ 0 then (j, u) else if (s_pour0 u i k).1 = 0 then s_pour1 i k d (j + 1) (s_pour0 u i k).2 else (j, s_unp (s_pour0 u i k).2 i)
def s_pour (u : sS) (i k : Nat) (mn : Int32) : sR := (nI (s_pour1 i k mn.toNatClampNeg 0 u).1, s_act (s_pour1 i k mn.toNatClampNeg 0 u).2)
def s_of (u : sS) (i : Nat) (wh : Int32) : Int32 := if wh = 0 then p_po (s_pn u i) else if wh = 1 then p_li (s_pn u i) else if wh = 2 then p_cp (s_pn u i) else if wh = 3 then p_li (s_pn u i) - p_po (s_pn u i) else if wh = 4 then p_mk (s_pn u i) else if wh = 5 then (if p_rd (s_pn u i) = 0 then p_sa (s_pn u i) else -9) else if wh = 6 then (if p_li (s_pn u i) - p_po (s_pn u i) ≤ 0 then 0 else 1) else if wh = 7 then p_rd (s_pn u i) else if wh = 8 then 1 - p_rd (s_pn u i) else p_cp (s_pn u i) - p_li (s_pn u i)
def s_at (u : sS) (i : Nat) (ix : Int32) : Int32 := if z_hi ix (p_li (s_pn u i)) = 0 then -9 else s_val u (s_pn u i) ix
def s_peek (u : sS) (i : Nat) : Int32 := if p_li (s_pn u i) - p_po (s_pn u i) = 0 then -9 else s_val u (s_pn u i) (p_po (s_pn u i))
def s_kin (u : sS) (i j : Nat) : Int32 := if p_rd (s_pn u i) = 0 then (if p_rd (s_pn u j) = 0 then (if p_ro (s_pn u i) = p_ro (s_pn u j) then 1 else 0) else -9) else -9
def s_sees (u : sS) (i : Nat) (ix : Int32) (j : Nat) : Int32 := if p_rd (s_pn u i) = 0 then (if p_rd (s_pn u j) = 0 then (if p_ro (s_pn u i) = p_ro (s_pn u j) then (if z_hi ix (p_cp (s_pn u i)) = 0 then -1 else if z_hi (p_sa (s_pn u i) + ix - p_sa (s_pn u j)) (p_cp (s_pn u j)) = 0 then -1 else p_sa (s_pn u i) + ix - p_sa (s_pn u j)) else -1) else -9) else -9
def s_would (u : sS) (i : Nat) (wh : Int32) : Int32 := if wh = 0 then p_cp (s_pn u i) else if wh = 1 then p_po (s_pn u i) else if wh = 2 then p_li (s_pn u i) else if p_mk (s_pn u i) = -1 then -9 else p_li (s_pn u i) - p_mk (s_pn u i)
def s_sumf (f : Nat → Int32) : Nat → Int32
  | 0 => 0
  | j + 1 => s_sumf f j + f j
def s_house (u : sS) (wh : Int32) : Int32 := if wh = 0 then s_ac u else if wh = 6 then s_kn u else if wh = 7 then s_sumf (fun i => p_rd (s_pn u i)) 6 else if wh = 8 then s_sumf (fun i => if p_mk (s_pn u i) = -1 then 0 else 1) 6 else s_td u wh.toNatClampNeg
/-- a state in order, after at most t new rows -/
def s_pok (nr : Nat) (ln : Nat → Nat) (p : sP) : Prop := p_ro p < nr ∧ z_ow (p_sa p) (p_cp p) (p_po p) (p_li p) (ln (p_ro p)) ∧ (-1 ≤ (p_mk p).toInt ∧ (p_mk p).toInt ≤ (p_po p).toInt) ∧ (p_rd p = 0 ∨ p_rd p = 1)
def s_ok (t : Nat) (u : sS) : Prop := 3 ≤ s_nr u ∧ s_nr u ≤ 3 + t ∧ s_ln u 0 = 16 ∧ (∀ r, 0 < r → s_ln u r ≤ 12) ∧ (∀ i, i < 6 → s_pok (s_nr u) (s_ln u) (s_pn u i)) ∧ (∀ r j, 0 ≤ (s_vl u r j).toInt)
abbrev cPx (a : Nat) (p : sP) : va_E := cPn a (p_sa p) (p_cp p) (p_po p) (p_li p) (p_mk p) (p_rd p)
abbrev cPy (G : zG) (a : Int32) (p : sP) : va_E := cPm G (nI (p_ro p)) a (p_sa p) (p_cp p) (p_po p) (p_li p) (p_mk p) (p_rd p)
/-- a builder's cells: nothing is said of its letters -/
def BI (G : zG) (sb rf : Nat) (VA : Nat → Nat) (nr : Nat) (C : zM) : Prop := ∃ (vb : Nat) (ml : Int32) (ct n : Nat) (f : Nat → Int32), C sb = some (cSb vb 0 ml (nI ct)) ∧ C vb = some (aB G n f) ∧ vb ≠ rf ∧ (∀ r, r < nr → vb ≠ VA r) ∧ ct ≤ n ∧ n ≤ 600 ∧ sb_Fit f ∧ 16 ≤ n
/-- the class's cells of a state -/
def CI (G : zG) (u : sS) (x : Nat) (P RA VA : Nat → Nat) (pa sp ln rf sb : Nat) (C : zM) : Prop :=
  C x = some (cMp (RA 0) pa sp ln rf (s_ac u) (s_kn u)) ∧
  (∃ fp : Nat → Option Nat, C pa = some (aP G 6 fp) ∧ ∀ i, i < 6 → fp i = some (P i)) ∧
  (∀ i, i < 6 → C (P i) = some (cPx (RA (p_ro (s_pn u i))) (s_pn u i))) ∧
  (∃ (o9 : Nat) (p9 : sP), C sp = some (cPx o9 p9)) ∧
  (∀ r, r < s_nr u → C (RA r) = some (cRw (VA r))) ∧
  (∀ r, r < s_nr u → C (VA r) = some (aI G (s_ln u r) (s_vl u r))) ∧
  C rf = some (aI G 6 (s_td u)) ∧
  C ln = some (cLn sb) ∧ BI G sb rf VA (s_nr u) C ∧
  (∀ i j, i < 6 → j < 6 → P i = P j → i = j) ∧ (∀ i, i < 6 → P i ≠ sp) ∧
  (∀ r s, r < s_nr u → s < s_nr u → RA r = RA s → r = s) ∧ (∀ r s, r < s_nr u → s < s_nr u → VA r = VA s → r = s) ∧ (∀ r, r < s_nr u → VA r ≠ rf)
def s_ba (ln : Nat → Nat) : Nat → Nat
  | 0 => 0
  | r + 1 => s_ba ln r + ln r
/-- the reference's cells of a state -/
def RI (G : zG) (u : sS) (m : Nat) (th : Int32) (K : Nat → Nat) (tp pn td : Nat) (R : zM) : Prop :=
  R m = some (cMd tp (nI (s_nr u)) pn td (s_ac u) (s_kn u) th) ∧
  (∃ ft : Nat → Int32, R tp = some (aI G (s_ba (s_ln u) (s_nr u)) ft) ∧ ∀ r, r < s_nr u → ∀ j, j < s_ln u r → ft (s_ba (s_ln u) r + j) = s_vl u r j) ∧
  (∃ fp : Nat → Option Nat, R pn = some (aII G 6 fp) ∧ ∀ i, i < 6 → fp i = some (K i)) ∧
  R td = some (aI G 6 (s_td u)) ∧
  (∀ i, i < 6 → R (K i) = some (cPy G (nI (s_ba (s_ln u) (p_ro (s_pn u i)))) (s_pn u i))) ∧
  (∀ i j, i < 6 → j < 6 → K i = K j → i = j) ∧ (∀ i, i < 6 → K i ≠ td) ∧ (∀ i, i < 6 → K i ≠ tp) ∧ td ≠ tp
section CIU
variable {G : zG} {u : sS} {x : Nat} {P RA VA : Nat → Nat} {pa sp ln rf sb : Nat} {C : zM}
theorem CI_mono {C' : zM} (h : CI G u x P RA VA pa sp ln rf sb C) (hm : ∀ a e, C a = some e → C' a = some e) : CI G u x P RA VA pa sp ln rf sb C' := by
  obtain ⟨hx, ⟨fp, hpa, hfp⟩, hP, ⟨o9, p9, hsp⟩, hRA, hVA, hrf, hln, ⟨vb, ml, ct, n, f, hsb, hvb, hc⟩, hi⟩ := h
  exact ⟨hm _ _ hx, ⟨fp, hm _ _ hpa, hfp⟩, fun i h => hm _ _ (hP i h), ⟨o9, p9, hm _ _ hsp⟩, fun r h => hm _ _ (hRA r h), fun r h => hm _ _ (hVA r h), hm _ _ hrf, hm _ _ hln, ⟨vb, ml, ct, n, f, hm _ _ hsb, hm _ _ hvb, hc⟩, hi⟩
theorem CI_junk {q : Nat} {e : va_E} (h : CI G u x P RA VA pa sp ln rf sb C) (hq : C q = none) : CI G u x P RA VA pa sp ln rf sb (z_up C q e) := CI_mono h fun a e ha => zkn hq ha
theorem CI_pn (h : CI G u x P RA VA pa sp ln rf sb C) {i : Nat} (hi : i < 6) (p : sP) : CI G (s_up u i p) x P RA VA pa sp ln rf sb (z_up C (P i) (cPx (RA (p_ro p)) p)) := by
  obtain ⟨hx, ⟨fp, hpa, hfp⟩, hP, ⟨o9, p9, hsp⟩, hRA, hVA, hrf, hln, ⟨vb, ml, ct, n, f, hsb, hvb, hc⟩, iP, iS, iR, iV, iF⟩ := h
  have hp := hP i hi
  refine ⟨zk hp hx (by intro h; cases h), ⟨fp, zk hp hpa (by intro h; cases h), hfp⟩, fun j hj => ?_, ⟨o9, p9, zk' hsp (iS i hi).symm⟩, fun r hr => zk hp (hRA r hr) (by intro h; cases h), fun r hr => zk hp (hVA r hr) (by intro h; cases h), zk hp hrf (by intro h; cases h), zk hp hln (by intro h; cases h), ⟨vb, ml, ct, n, f, zk hp hsb (by intro h; cases h), zk hp hvb (by intro h; cases h), hc⟩, iP, iS, iR, iV, iF⟩
  by_cases hji : j = i
  · subst hji
    rw [z_up_s, s_up_s]
  · rw [z_up_n _ _ (fun q => hji (iP j i hj hi q)), hP j hj, s_up_n _ _ hji]
theorem CI_ak (h : CI G u x P RA VA pa sp ln rf sb C) (a k : Int32) : CI G (s_ak u a k) x P RA VA pa sp ln rf sb (z_up C x (cMp (RA 0) pa sp ln rf a k)) := by
  obtain ⟨hx, ⟨fp, hpa, hfp⟩, hP, ⟨o9, p9, hsp⟩, hRA, hVA, hrf, hln, ⟨vb, ml, ct, n, f, hsb, hvb, hc⟩, hi⟩ := h
  exact ⟨z_up_s _ _ _, ⟨fp, zk hx hpa (by intro h; cases h), hfp⟩, fun j hj => zk hx (hP j hj) (by intro h; cases h), ⟨o9, p9, zk hx hsp (by intro h; cases h)⟩, fun r hr => zk hx (hRA r hr) (by intro h; cases h), fun r hr => zk hx (hVA r hr) (by intro h; cases h), zk hx hrf (by intro h; cases h), zk hx hln (by intro h; cases h), ⟨vb, ml, ct, n, f, zk hx hsb (by intro h; cases h), zk hx hvb (by intro h; cases h), hc⟩, hi⟩
theorem CI_td (h : CI G u x P RA VA pa sp ln rf sb C) (g : Nat → Int32) : CI G (s_tdu u g) x P RA VA pa sp ln rf sb (z_up C rf (aI G 6 g)) := by
  obtain ⟨hx, ⟨fp, hpa, hfp⟩, hP, ⟨o9, p9, hsp⟩, hRA, hVA, hrf, hln, ⟨vb, ml, ct, n, f, hsb, hvb, hc⟩, iP, iS, iR, iV, iF⟩ := h
  exact ⟨zk hrf hx (by intro h; cases h), ⟨fp, zk hrf hpa (by intro h; simp at h), hfp⟩, fun j hj => zk hrf (hP j hj) (by intro h; cases h), ⟨o9, p9, zk hrf hsp (by intro h; cases h)⟩, fun r hr => zk hrf (hRA r hr) (by intro h; cases h), fun r hr => zk' (hVA r hr) (iF r hr), z_up_s _ _ _, zk hrf hln (by intro h; cases h), ⟨vb, ml, ct, n, f, zk hrf hsb (by intro h; cases h), zk' hvb hc.1, hc⟩, iP, iS, iR, iV, iF⟩
theorem CI_wr (h : CI G u x P RA VA pa sp ln rf sb C) {r : Nat} (hr : r < s_nr u) (j : Nat) (v : Int32) : CI G (s_wr u r j v) x P RA VA pa sp ln rf sb (z_up C (VA r) (aI G (s_ln u r) (upd (s_vl u r) j v))) := by
  obtain ⟨hx, ⟨fp, hpa, hfp⟩, hP, ⟨o9, p9, hsp⟩, hRA, hVA, hrf, hln, ⟨vb, ml, ct, n, f, hsb, hvb, hc⟩, iP, iS, iR, iV, iF⟩ := h
  have hv := hVA r hr
  refine ⟨zk hv hx (by intro h; cases h), ⟨fp, zk hv hpa (by intro h; simp at h), hfp⟩, fun j hj => zk hv (hP j hj) (by intro h; cases h), ⟨o9, p9, zk hv hsp (by intro h; cases h)⟩, fun r hr => zk hv (hRA r hr) (by intro h; cases h), fun q hq => ?_, zk' hrf (iF r hr).symm, zk hv hln (by intro h; cases h), ⟨vb, ml, ct, n, f, zk hv hsb (by intro h; cases h), zk' hvb (hc.2.1 r hr), hc⟩, iP, iS, iR, iV, iF⟩
  by_cases hqr : q = r
  · subst hqr
    rw [z_up_s, s_wr_s]
    rfl
  · rw [z_up_n _ _ (fun e => hqr (iV q r hq hr e)), hVA q hq, s_wr_n _ _ _ hqr]
    rfl
theorem CI_sp (h : CI G u x P RA VA pa sp ln rf sb C) (o : Nat) (p : sP) : CI G u x P RA VA pa sp ln rf sb (z_up C sp (cPx o p)) := by
  obtain ⟨hx, ⟨fp, hpa, hfp⟩, hP, ⟨o9, p9, hsp⟩, hRA, hVA, hrf, hln, ⟨vb, ml, ct, n, f, hsb, hvb, hc⟩, iP, iS, iR, iV, iF⟩ := h
  exact ⟨zk hsp hx (by intro h; cases h), ⟨fp, zk hsp hpa (by intro h; cases h), hfp⟩, fun j hj => zk' (hP j hj) (iS j hj), ⟨o, p, z_up_s _ _ _⟩, fun r hr => zk hsp (hRA r hr) (by intro h; cases h), fun r hr => zk hsp (hVA r hr) (by intro h; cases h), zk hsp hrf (by intro h; cases h), zk hsp hln (by intro h; cases h), ⟨vb, ml, ct, n, f, zk hsp hsb (by intro h; cases h), zk hsp hvb (by intro h; cases h), hc⟩, iP, iS, iR, iV, iF⟩
end CIU
section RIU
variable {G : zG} {u : sS} {m : Nat} {th : Int32} {K : Nat → Nat} {tp pn td : Nat} {R : zM}
theorem RI_mono {R' : zM} (h : RI G u m th K tp pn td R) (hm : ∀ a e, R a = some e → R' a = some e) : RI G u m th K tp pn td R' := by
  obtain ⟨h1, ⟨ft, h2, h3⟩, ⟨fp, h4, h5⟩, h6, h7, hi⟩ := h
  exact ⟨hm _ _ h1, ⟨ft, hm _ _ h2, h3⟩, ⟨fp, hm _ _ h4, h5⟩, hm _ _ h6, fun i h => hm _ _ (h7 i h), hi⟩
theorem RI_junk {q : Nat} {e : va_E} (h : RI G u m th K tp pn td R) (hq : R q = none) : RI G u m th K tp pn td (z_up R q e) := RI_mono h fun a e ha => zkn hq ha
theorem RI_pn (h : RI G u m th K tp pn td R) {i : Nat} (hi : i < 6) (p : sP) : RI G (s_up u i p) m th K tp pn td (z_up R (K i) (cPy G (nI (s_ba (s_ln u) (p_ro p))) p)) := by
  obtain ⟨h1, ⟨ft, h2, h3⟩, ⟨fp, h4, h5⟩, h6, h7, iK, i1, i2, i3⟩ := h
  have hp := h7 i hi
  refine ⟨zk hp h1 (by intro h; cases h), ⟨ft, zk' h2 (i2 i hi).symm, h3⟩, ⟨fp, zk hp h4 (by intro h; simp at h), h5⟩, zk' h6 (i1 i hi).symm, fun j hj => ?_, iK, i1, i2, i3⟩
  by_cases hji : j = i
  · subst hji
    rw [z_up_s, s_up_s]
    rfl
  · rw [z_up_n _ _ (fun q => hji (iK j i hj hi q)), h7 j hj, s_up_n _ _ hji]
    rfl
theorem RI_ak (h : RI G u m th K tp pn td R) (a k th' : Int32) : RI G (s_ak u a k) m th' K tp pn td (z_up R m (cMd tp (nI (s_nr u)) pn td a k th')) := by
  obtain ⟨h1, ⟨ft, h2, h3⟩, ⟨fp, h4, h5⟩, h6, h7, hi⟩ := h
  exact ⟨z_up_s _ _ _, ⟨ft, zk h1 h2 (by intro h; cases h), h3⟩, ⟨fp, zk h1 h4 (by intro h; cases h), h5⟩, zk h1 h6 (by intro h; cases h), fun j hj => zk h1 (h7 j hj) (by intro h; cases h), hi⟩
theorem RI_th (h : RI G u m th K tp pn td R) (th' : Int32) : RI G u m th' K tp pn td (z_up R m (cMd tp (nI (s_nr u)) pn td (s_ac u) (s_kn u) th')) := RI_ak h (s_ac u) (s_kn u) th'
theorem RI_td (h : RI G u m th K tp pn td R) (g : Nat → Int32) : RI G (s_tdu u g) m th K tp pn td (z_up R td (aI G 6 g)) := by
  obtain ⟨h1, ⟨ft, h2, h3⟩, ⟨fp, h4, h5⟩, h6, h7, iK, i1, i2, i3⟩ := h
  exact ⟨zk h6 h1 (by intro h; cases h), ⟨ft, zk' h2 i3.symm, h3⟩, ⟨fp, zk h6 h4 (by intro h; simp at h), h5⟩, z_up_s _ _ _, fun j hj => zk' (h7 j hj) (i1 j hj), iK, i1, i2, i3⟩
theorem s_ba_mono (ln : Nat → Nat) {r s : Nat} (h : r ≤ s) : s_ba ln r ≤ s_ba ln s := by
  induction s with
  | zero => rw [Nat.le_zero.mp h]; exact Nat.le_refl _
  | succ s ih =>
    rcases Nat.lt_or_ge r (s + 1) with q | q
    · exact Nat.le_trans (ih (by omega)) (Nat.le_add_right _ _)
    · rw [show r = s + 1 by omega]; exact Nat.le_refl _
theorem s_ba_lt (ln : Nat → Nat) {r s : Nat} (h : r < s) : s_ba ln r + ln r ≤ s_ba ln s := s_ba_mono ln (r := r + 1) h
/-- places of different rows, or different places of one, lie apart on the tape -/
theorem s_ba_ne (ln : Nat → Nat) {r s j k : Nat} (hj : j < ln r) (hk : k < ln s) (h : s_ba ln r + j = s_ba ln s + k) : r = s ∧ j = k := by
  rcases Nat.lt_trichotomy r s with q | q | q
  · have := s_ba_lt ln q; omega
  · subst q; exact ⟨rfl, by omega⟩
  · have := s_ba_lt ln q; omega
theorem RI_wr (h : RI G u m th K tp pn td R) {r j b : Nat} (hr : r < s_nr u) (hj : j < s_ln u r) (hb : b = s_ba (s_ln u) r + j) {ft : Nat → Int32} (hft : R tp = some (aI G (s_ba (s_ln u) (s_nr u)) ft)) (v : Int32) : RI G (s_wr u r j v) m th K tp pn td (z_up R tp (aI G (s_ba (s_ln u) (s_nr u)) (upd ft b v))) := by
  obtain ⟨h1, ⟨ft', h2, h3⟩, ⟨fp, h4, h5⟩, h6, h7, iK, i1, i2, i3⟩ := h
  have e : ft' = ft := by
    have := h2.symm.trans hft
    simpa using this
  subst e
  refine ⟨zk h2 h1 (by intro h; cases h), ⟨_, z_up_s _ _ _, fun s hs k hk => ?_⟩, ⟨fp, zk h2 h4 (by intro h; simp at h), h5⟩, zk' h6 i3, fun q hq => zk' (h7 q hq) (i2 q hq), iK, i1, i2, i3⟩
  show upd ft' b v (s_ba (s_ln u) s + k) = (if s = r then upd (s_vl u r) j v else s_vl u s) k
  by_cases hsr : s = r
  · subst hsr
    rw [if_pos rfl]
    by_cases hkj : k = j
    · subst hkj
      simp [upd, hb]
    · have : s_ba (s_ln u) s + k ≠ b := by omega
      simp [upd, hkj, this]
      exact h3 s hs k hk
  · rw [if_neg hsr]
    have : s_ba (s_ln u) s + k ≠ b := fun q => hsr (s_ba_ne (s_ln u) hk hj (q.trans hb)).1
    simp [upd, this]
    exact h3 s hs k hk
theorem RI_nK (h : RI G u m th K tp pn td R) {i q : Nat} (hi : i < 6) (hq : R q = none) (p : sP) {fp : Nat → Option Nat} (hfp : R pn = some (aII G 6 fp)) : RI G (s_up u i p) m th (s_fu K i q) tp pn td (z_up (z_up R q (cPy G (nI (s_ba (s_ln u) (p_ro p))) p)) pn (aII G 6 (va_up fp i (some q)))) := by
  obtain ⟨h1, ⟨ft, h2, h3⟩, ⟨fp', h4, h5⟩, h6, h7, iK, i1, i2, i3⟩ := h
  have e : fp' = fp := by
    have := h4.symm.trans hfp
    simpa using this
  subst e
  have h4' : z_up R q (cPy G (nI (s_ba (s_ln u) (p_ro p))) p) pn = some (aII G 6 fp') := zkn hq h4
  have g : ∀ {b : Nat} {e : va_E}, R b = some e → e ≠ aII G 6 fp' → z_up (z_up R q (cPy G (nI (s_ba (s_ln u) (p_ro p))) p)) pn (aII G 6 (va_up fp' i (some q))) b = some e := fun hb hn => zk h4' (zkn hq hb) hn
  have hne : ∀ {b : Nat} {e : va_E}, R b = some e → b ≠ q := fun hb => z_neN hb hq
  refine ⟨g h1 (by intro h; cases h), ⟨ft, g h2 (by intro h; simp at h), h3⟩, ⟨_, z_up_s _ _ _, fun j hj => ?_⟩, g h6 (by intro h; simp at h), fun j hj => ?_, fun a b ha hb hab => ?_, fun j hj => ?_, fun j hj => ?_, i3⟩
  · by_cases hji : j = i
    · subst hji; rw [s_fu_s]; simp [va_up]
    · rw [s_fu_n _ _ hji]; simp [va_up, hji, h5 j hj]
  · by_cases hji : j = i
    · subst hji
      rw [s_fu_s, s_up_s]
      exact (z_up_n _ _ (hne h4).symm).trans (z_up_s _ _ _)
    · rw [s_fu_n _ _ hji, s_up_n _ _ hji]
      exact g (h7 j hj) (by intro h; simp at h)
  · by_cases h1a : a = i
    · by_cases h1b : b = i
      · exact h1a.trans h1b.symm
      · subst h1a
        rw [s_fu_s, s_fu_n _ _ h1b] at hab
        exact absurd hab.symm (hne (h7 b hb))
    · by_cases h1b : b = i
      · subst h1b
        rw [s_fu_s, s_fu_n _ _ h1a] at hab
        exact absurd hab (hne (h7 a ha))
      · rw [s_fu_n _ _ h1a, s_fu_n _ _ h1b] at hab
        exact iK a b ha hb hab
  · by_cases hji : j = i
    · subst hji; rw [s_fu_s]; exact (hne h6).symm
    · rw [s_fu_n _ _ hji]; exact i1 j hj
  · by_cases hji : j = i
    · subst hji; rw [s_fu_s]; exact (hne h2).symm
    · rw [s_fu_n _ _ hji]; exact i2 j hj
theorem s_fu_in {K : Nat → Nat} {i j : Nat} (hi : i < 6) (hj : j < 6) {Q : Nat → Prop} (h : ∀ k, k < 6 → Q (K k)) : ∀ k, k < 6 → Q (s_fu (s_fu K i (K j)) j (K i) k) := fun k hk => by
  by_cases hkj : k = j
  · subst hkj; rw [s_fu_s]; exact h i hi
  · rw [s_fu_n _ _ hkj]
    by_cases hki : k = i
    · subst hki; rw [s_fu_s]; exact h j hj
    · rw [s_fu_n _ _ hki]; exact h k hk
theorem s_fu_inj {K : Nat → Nat} {i j : Nat} (hi : i < 6) (hj : j < 6) (h : ∀ a b, a < 6 → b < 6 → K a = K b → a = b) : ∀ a b, a < 6 → b < 6 → s_fu (s_fu K i (K j)) j (K i) a = s_fu (s_fu K i (K j)) j (K i) b → a = b := by
  have e : ∀ k, s_fu (s_fu K i (K j)) j (K i) k = K (if k = j then i else if k = i then j else k) := fun k => by
    by_cases hkj : k = j
    · subst hkj; rw [s_fu_s, if_pos rfl]
    · rw [s_fu_n _ _ hkj, if_neg hkj]
      by_cases hki : k = i
      · subst hki; rw [s_fu_s, if_pos rfl]
      · rw [s_fu_n _ _ hki, if_neg hki]
  intro a b ha hb hab
  rw [e, e] at hab
  have l : ∀ k, k < 6 → (if k = j then i else if k = i then j else k) < 6 := fun k hk => by
    split
    · exact hi
    · split
      · exact hj
      · exact hk
  have := h _ _ (l a ha) (l b hb) hab
  split at this <;> split at this <;> (try split at this) <;> (try split at this) <;> omega
theorem s_fu_fp {K : Nat → Nat} {i j : Nat} {fp : Nat → Option Nat} (h : ∀ k, k < 6 → fp k = some (K k)) : ∀ k, k < 6 → va_up (va_up fp i (some (K j))) j (some (K i)) k = some (s_fu (s_fu K i (K j)) j (K i) k) := fun k hk => by
  by_cases hkj : k = j
  · subst hkj; rw [s_fu_s]; simp [va_up]
  · rw [s_fu_n _ _ hkj]
    by_cases hki : k = i
    · subst hki; rw [s_fu_s]; simp [va_up, hkj]
    · rw [s_fu_n _ _ hki]; simp [va_up, hkj, hki, h k hk]
theorem RI_sw (h : RI G u m th K tp pn td R) {i j : Nat} (hi : i < 6) (hj : j < 6) {fp : Nat → Option Nat} (hfp : R pn = some (aII G 6 fp)) : RI G (s_sw u i j) m th (s_fu (s_fu K i (K j)) j (K i)) tp pn td (z_up R pn (aII G 6 (va_up (va_up fp i (some (K j))) j (some (K i))))) := by
  obtain ⟨h1, ⟨ft, h2, h3⟩, ⟨fp', h4, h5⟩, h6, h7, iK, i1, i2, i3⟩ := h
  have e : fp' = fp := by
    have := h4.symm.trans hfp
    simpa using this
  subst e
  refine ⟨zk h4 h1 (by intro h; cases h), ⟨ft, zk h4 h2 (by intro h; simp at h), h3⟩, ⟨_, z_up_s _ _ _, s_fu_fp h5⟩, zk h4 h6 (by intro h; simp at h), fun k hk => ?_, s_fu_inj hi hj iK, s_fu_in (Q := fun q => q ≠ td) hi hj i1, s_fu_in (Q := fun q => q ≠ tp) hi hj i2, i3⟩
  by_cases hkj : k = j
  · subst hkj
    rw [s_fu_s, s_sw, s_up_s]
    exact zk h4 (h7 i hi) (by intro h; simp at h)
  · rw [s_fu_n _ _ hkj]
    by_cases hki : k = i
    · subst hki
      rw [s_fu_s, s_sw, s_up_n _ _ hkj, s_up_s]
      exact zk h4 (h7 j hj) (by intro h; simp at h)
    · rw [s_fu_n _ _ hki, s_sw, s_up_n _ _ hkj, s_up_n _ _ hki]
      exact zk h4 (h7 k hk) (by intro h; simp at h)
end RIU
end
