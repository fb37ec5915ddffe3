theorem dX2_length_0 : decode cX2_length 0 = .ok (.aload_n 0, 1) := by decide +kernel
theorem dX2_length_1 : decode cX2_length 1 = .ok (.getfield 7, 3) := by decide +kernel
theorem dX2_length_4 : decode cX2_length 4 = .ok (.arraylength, 1) := by decide +kernel
theorem dX2_length_5 : decode cX2_length 5 = .ok (.ireturn, 1) := by decide +kernel
theorem dX2_hasPlace_0 : decode cX2_hasPlace 0 = .ok (.iload_n 1, 1) := by decide +kernel
theorem dX2_hasPlace_1 : decode cX2_hasPlace 1 = .ok (.ifCond .lt 16, 3) := by decide +kernel
theorem dX2_hasPlace_4 : decode cX2_hasPlace 4 = .ok (.iload_n 1, 1) := by decide +kernel
theorem dX2_hasPlace_5 : decode cX2_hasPlace 5 = .ok (.aload_n 0, 1) := by decide +kernel
theorem dX2_hasPlace_6 : decode cX2_hasPlace 6 = .ok (.getfield 7, 3) := by decide +kernel
theorem dX2_hasPlace_9 : decode cX2_hasPlace 9 = .ok (.arraylength, 1) := by decide +kernel
theorem dX2_hasPlace_10 : decode cX2_hasPlace 10 = .ok (.if_icmp .ge 7, 3) := by decide +kernel
theorem dX2_hasPlace_13 : decode cX2_hasPlace 13 = .ok (.iconst 1, 1) := by decide +kernel
theorem dX2_hasPlace_14 : decode cX2_hasPlace 14 = .ok (.goto 4, 3) := by decide +kernel
theorem dX2_hasPlace_17 : decode cX2_hasPlace 17 = .ok (.iconst 0, 1) := by decide +kernel
theorem dX2_hasPlace_18 : decode cX2_hasPlace 18 = .ok (.ireturn, 1) := by decide +kernel
theorem dX2_valueAt_0 : decode cX2_valueAt 0 = .ok (.aload_n 0, 1) := by decide +kernel
theorem dX2_valueAt_1 : decode cX2_valueAt 1 = .ok (.iload_n 1, 1) := by decide +kernel
theorem dX2_valueAt_2 : decode cX2_valueAt 2 = .ok (.invokevirtual 13, 3) := by decide +kernel
theorem dX2_valueAt_5 : decode cX2_valueAt 5 = .ok (.ifCond .eq 12, 3) := by decide +kernel
theorem dX2_valueAt_8 : decode cX2_valueAt 8 = .ok (.aload_n 0, 1) := by decide +kernel
theorem dX2_valueAt_9 : decode cX2_valueAt 9 = .ok (.getfield 7, 3) := by decide +kernel
theorem dX2_valueAt_12 : decode cX2_valueAt 12 = .ok (.iload_n 1, 1) := by decide +kernel
theorem dX2_valueAt_13 : decode cX2_valueAt 13 = .ok (.iaload, 1) := by decide +kernel
theorem dX2_valueAt_14 : decode cX2_valueAt 14 = .ok (.goto 4, 3) := by decide +kernel
theorem dX2_valueAt_18 : decode cX2_valueAt 18 = .ok (.ireturn, 1) := by decide +kernel
theorem dX2_exchangeAt_0 : decode cX2_exchangeAt 0 = .ok (.aload_n 0, 1) := by decide +kernel
theorem dX2_exchangeAt_1 : decode cX2_exchangeAt 1 = .ok (.iload_n 1, 1) := by decide +kernel
theorem dX2_exchangeAt_2 : decode cX2_exchangeAt 2 = .ok (.invokevirtual 13, 3) := by decide +kernel
theorem dX2_exchangeAt_5 : decode cX2_exchangeAt 5 = .ok (.ifCond .ne 5, 3) := by decide +kernel
theorem dX2_exchangeAt_10 : decode cX2_exchangeAt 10 = .ok (.aload_n 0, 1) := by decide +kernel
theorem dX2_exchangeAt_11 : decode cX2_exchangeAt 11 = .ok (.getfield 7, 3) := by decide +kernel
theorem dX2_exchangeAt_14 : decode cX2_exchangeAt 14 = .ok (.iload_n 1, 1) := by decide +kernel
theorem dX2_exchangeAt_15 : decode cX2_exchangeAt 15 = .ok (.iaload, 1) := by decide +kernel
theorem dX2_exchangeAt_16 : decode cX2_exchangeAt 16 = .ok (.istore_n 3, 1) := by decide +kernel
theorem dX2_exchangeAt_17 : decode cX2_exchangeAt 17 = .ok (.aload_n 0, 1) := by decide +kernel
theorem dX2_exchangeAt_18 : decode cX2_exchangeAt 18 = .ok (.getfield 7, 3) := by decide +kernel
theorem dX2_exchangeAt_21 : decode cX2_exchangeAt 21 = .ok (.iload_n 1, 1) := by decide +kernel
theorem dX2_exchangeAt_22 : decode cX2_exchangeAt 22 = .ok (.iload_n 2, 1) := by decide +kernel
theorem dX2_exchangeAt_23 : decode cX2_exchangeAt 23 = .ok (.iastore, 1) := by decide +kernel
theorem dX2_exchangeAt_24 : decode cX2_exchangeAt 24 = .ok (.iload_n 3, 1) := by decide +kernel
theorem dX2_exchangeAt_25 : decode cX2_exchangeAt 25 = .ok (.ireturn, 1) := by decide +kernel
theorem dX1_left_0 : decode cX1_left 0 = .ok (.aload_n 0, 1) := by decide +kernel
theorem dX1_left_1 : decode cX1_left 1 = .ok (.getfield 31, 3) := by decide +kernel
theorem dX1_left_4 : decode cX1_left 4 = .ok (.aload_n 0, 1) := by decide +kernel
theorem dX1_left_5 : decode cX1_left 5 = .ok (.getfield 28, 3) := by decide +kernel
theorem dX1_left_8 : decode cX1_left 8 = .ok (.isub, 1) := by decide +kernel
theorem dX1_left_9 : decode cX1_left 9 = .ok (.ireturn, 1) := by decide +kernel
theorem dX1_hasMark_0 : decode cX1_hasMark 0 = .ok (.aload_n 0, 1) := by decide +kernel
theorem dX1_hasMark_1 : decode cX1_hasMark 1 = .ok (.getfield 34, 3) := by decide +kernel
theorem dX1_hasMark_4 : decode cX1_hasMark 4 = .ok (.iconst (-1), 1) := by decide +kernel
theorem dX1_hasMark_5 : decode cX1_hasMark 5 = .ok (.if_icmp .eq 7, 3) := by decide +kernel
theorem dX1_hasMark_8 : decode cX1_hasMark 8 = .ok (.iconst 1, 1) := by decide +kernel
theorem dX1_hasMark_9 : decode cX1_hasMark 9 = .ok (.goto 4, 3) := by decide +kernel
theorem dX1_hasMark_12 : decode cX1_hasMark 12 = .ok (.iconst 0, 1) := by decide +kernel
theorem dX1_hasMark_13 : decode cX1_hasMark 13 = .ok (.ireturn, 1) := by decide +kernel
theorem dX1_hasIndex_0 : decode cX1_hasIndex 0 = .ok (.iload_n 1, 1) := by decide +kernel
theorem dX1_hasIndex_1 : decode cX1_hasIndex 1 = .ok (.ifCond .lt 15, 3) := by decide +kernel
theorem dX1_hasIndex_4 : decode cX1_hasIndex 4 = .ok (.iload_n 1, 1) := by decide +kernel
theorem dX1_hasIndex_5 : decode cX1_hasIndex 5 = .ok (.aload_n 0, 1) := by decide +kernel
theorem dX1_hasIndex_6 : decode cX1_hasIndex 6 = .ok (.getfield 31, 3) := by decide +kernel
theorem dX1_hasIndex_9 : decode cX1_hasIndex 9 = .ok (.if_icmp .ge 7, 3) := by decide +kernel
theorem dX1_hasIndex_12 : decode cX1_hasIndex 12 = .ok (.iconst 1, 1) := by decide +kernel
theorem dX1_hasIndex_13 : decode cX1_hasIndex 13 = .ok (.goto 4, 3) := by decide +kernel
theorem dX1_hasIndex_16 : decode cX1_hasIndex 16 = .ok (.iconst 0, 1) := by decide +kernel
theorem dX1_hasIndex_17 : decode cX1_hasIndex 17 = .ok (.ireturn, 1) := by decide +kernel
theorem dX1_shows_0 : decode cX1_shows 0 = .ok (.iload_n 1, 1) := by decide +kernel
theorem dX1_shows_1 : decode cX1_shows 1 = .ok (.ifCond .lt 15, 3) := by decide +kernel
theorem dX1_shows_4 : decode cX1_shows 4 = .ok (.iload_n 1, 1) := by decide +kernel
theorem dX1_shows_5 : decode cX1_shows 5 = .ok (.aload_n 0, 1) := by decide +kernel
theorem dX1_shows_6 : decode cX1_shows 6 = .ok (.getfield 25, 3) := by decide +kernel
theorem dX1_shows_9 : decode cX1_shows 9 = .ok (.if_icmp .ge 7, 3) := by decide +kernel
theorem dX1_shows_12 : decode cX1_shows 12 = .ok (.iconst 1, 1) := by decide +kernel
theorem dX1_shows_13 : decode cX1_shows 13 = .ok (.goto 4, 3) := by decide +kernel
theorem dX1_shows_16 : decode cX1_shows 16 = .ok (.iconst 0, 1) := by decide +kernel
theorem dX1_shows_17 : decode cX1_shows 17 = .ok (.ireturn, 1) := by decide +kernel
theorem dX1_beginAgain_0 : decode cX1_beginAgain 0 = .ok (.aload_n 0, 1) := by decide +kernel
theorem dX1_beginAgain_1 : decode cX1_beginAgain 1 = .ok (.iconst 0, 1) := by decide +kernel
theorem dX1_beginAgain_2 : decode cX1_beginAgain 2 = .ok (.putfield 28, 3) := by decide +kernel
theorem dX1_beginAgain_5 : decode cX1_beginAgain 5 = .ok (.aload_n 0, 1) := by decide +kernel
theorem dX1_beginAgain_6 : decode cX1_beginAgain 6 = .ok (.iload_n 1, 1) := by decide +kernel
theorem dX1_beginAgain_7 : decode cX1_beginAgain 7 = .ok (.putfield 31, 3) := by decide +kernel
theorem dX1_beginAgain_10 : decode cX1_beginAgain 10 = .ok (.aload_n 0, 1) := by decide +kernel
theorem dX1_beginAgain_11 : decode cX1_beginAgain 11 = .ok (.iconst (-1), 1) := by decide +kernel
theorem dX1_beginAgain_12 : decode cX1_beginAgain 12 = .ok (.putfield 34, 3) := by decide +kernel
theorem dX1_beginAgain_15 : decode cX1_beginAgain 15 = .ok (.return_, 1) := by decide +kernel
theorem dX1_moveTo_0 : decode cX1_moveTo 0 = .ok (.aload_n 0, 1) := by decide +kernel
theorem dX1_moveTo_1 : decode cX1_moveTo 1 = .ok (.iload_n 1, 1) := by decide +kernel
theorem dX1_moveTo_2 : decode cX1_moveTo 2 = .ok (.putfield 28, 3) := by decide +kernel
theorem dX1_moveTo_5 : decode cX1_moveTo 5 = .ok (.aload_n 0, 1) := by decide +kernel
theorem dX1_moveTo_6 : decode cX1_moveTo 6 = .ok (.getfield 34, 3) := by decide +kernel
theorem dX1_moveTo_9 : decode cX1_moveTo 9 = .ok (.iload_n 1, 1) := by decide +kernel
theorem dX1_moveTo_10 : decode cX1_moveTo 10 = .ok (.if_icmp .le 8, 3) := by decide +kernel
theorem dX1_moveTo_13 : decode cX1_moveTo 13 = .ok (.aload_n 0, 1) := by decide +kernel
theorem dX1_moveTo_14 : decode cX1_moveTo 14 = .ok (.iconst (-1), 1) := by decide +kernel
theorem dX1_moveTo_15 : decode cX1_moveTo 15 = .ok (.putfield 34, 3) := by decide +kernel
theorem dX1_moveTo_18 : decode cX1_moveTo 18 = .ok (.return_, 1) := by decide +kernel
theorem dX1_endAt_0 : decode cX1_endAt 0 = .ok (.aload_n 0, 1) := by decide +kernel
theorem dX1_endAt_1 : decode cX1_endAt 1 = .ok (.iload_n 1, 1) := by decide +kernel
theorem dX1_endAt_2 : decode cX1_endAt 2 = .ok (.putfield 31, 3) := by decide +kernel
theorem dX1_endAt_5 : decode cX1_endAt 5 = .ok (.aload_n 0, 1) := by decide +kernel
theorem dX1_endAt_6 : decode cX1_endAt 6 = .ok (.getfield 28, 3) := by decide +kernel
theorem dX1_endAt_9 : decode cX1_endAt 9 = .ok (.iload_n 1, 1) := by decide +kernel
theorem dX1_endAt_10 : decode cX1_endAt 10 = .ok (.if_icmp .le 8, 3) := by decide +kernel
theorem dX1_endAt_13 : decode cX1_endAt 13 = .ok (.aload_n 0, 1) := by decide +kernel
theorem dX1_endAt_14 : decode cX1_endAt 14 = .ok (.iload_n 1, 1) := by decide +kernel
theorem dX1_endAt_15 : decode cX1_endAt 15 = .ok (.putfield 28, 3) := by decide +kernel
theorem dX1_endAt_18 : decode cX1_endAt 18 = .ok (.aload_n 0, 1) := by decide +kernel
theorem dX1_endAt_19 : decode cX1_endAt 19 = .ok (.getfield 34, 3) := by decide +kernel
theorem dX1_endAt_22 : decode cX1_endAt 22 = .ok (.iload_n 1, 1) := by decide +kernel
theorem dX1_endAt_23 : decode cX1_endAt 23 = .ok (.if_icmp .le 8, 3) := by decide +kernel
theorem dX1_endAt_26 : decode cX1_endAt 26 = .ok (.aload_n 0, 1) := by decide +kernel
theorem dX1_endAt_27 : decode cX1_endAt 27 = .ok (.iconst (-1), 1) := by decide +kernel
theorem dX1_endAt_28 : decode cX1_endAt 28 = .ok (.putfield 34, 3) := by decide +kernel
theorem dX1_endAt_31 : decode cX1_endAt 31 = .ok (.return_, 1) := by decide +kernel
theorem dX1_showAll_0 : decode cX1_showAll 0 = .ok (.aload_n 0, 1) := by decide +kernel
theorem dX1_showAll_1 : decode cX1_showAll 1 = .ok (.aload_n 1, 1) := by decide +kernel
theorem dX1_showAll_2 : decode cX1_showAll 2 = .ok (.putfield 9, 3) := by decide +kernel
theorem dX1_showAll_5 : decode cX1_showAll 5 = .ok (.aload_n 0, 1) := by decide +kernel
theorem dX1_showAll_6 : decode cX1_showAll 6 = .ok (.iconst 0, 1) := by decide +kernel
theorem dX1_showAll_7 : decode cX1_showAll 7 = .ok (.putfield 15, 3) := by decide +kernel
theorem dX1_showAll_10 : decode cX1_showAll 10 = .ok (.aload_n 0, 1) := by decide +kernel
theorem dX1_showAll_11 : decode cX1_showAll 11 = .ok (.aload_n 1, 1) := by decide +kernel
theorem dX1_showAll_12 : decode cX1_showAll 12 = .ok (.invokevirtual 19, 3) := by decide +kernel
theorem dX1_showAll_15 : decode cX1_showAll 15 = .ok (.putfield 25, 3) := by decide +kernel
theorem dX1_showAll_18 : decode cX1_showAll 18 = .ok (.aload_n 0, 1) := by decide +kernel
theorem dX1_showAll_19 : decode cX1_showAll 19 = .ok (.iconst 0, 1) := by decide +kernel
theorem dX1_showAll_20 : decode cX1_showAll 20 = .ok (.putfield 37, 3) := by decide +kernel
theorem dX1_showAll_23 : decode cX1_showAll 23 = .ok (.aload_n 0, 1) := by decide +kernel
theorem dX1_showAll_24 : decode cX1_showAll 24 = .ok (.aload_n 0, 1) := by decide +kernel
theorem dX1_showAll_25 : decode cX1_showAll 25 = .ok (.getfield 25, 3) := by decide +kernel
theorem dX1_showAll_28 : decode cX1_showAll 28 = .ok (.invokevirtual 41, 3) := by decide +kernel
theorem dX1_showAll_31 : decode cX1_showAll 31 = .ok (.return_, 1) := by decide +kernel
theorem dX1_becomeTwin_0 : decode cX1_becomeTwin 0 = .ok (.aload_n 0, 1) := by decide +kernel
theorem dX1_becomeTwin_1 : decode cX1_becomeTwin 1 = .ok (.aload_n 1, 1) := by decide +kernel
theorem dX1_becomeTwin_2 : decode cX1_becomeTwin 2 = .ok (.getfield 9, 3) := by decide +kernel
theorem dX1_becomeTwin_5 : decode cX1_becomeTwin 5 = .ok (.putfield 9, 3) := by decide +kernel
theorem dX1_becomeTwin_8 : decode cX1_becomeTwin 8 = .ok (.aload_n 0, 1) := by decide +kernel
theorem dX1_becomeTwin_9 : decode cX1_becomeTwin 9 = .ok (.aload_n 1, 1) := by decide +kernel
theorem dX1_becomeTwin_10 : decode cX1_becomeTwin 10 = .ok (.getfield 15, 3) := by decide +kernel
theorem dX1_becomeTwin_13 : decode cX1_becomeTwin 13 = .ok (.putfield 15, 3) := by decide +kernel
theorem dX1_becomeTwin_16 : decode cX1_becomeTwin 16 = .ok (.aload_n 0, 1) := by decide +kernel
theorem dX1_becomeTwin_17 : decode cX1_becomeTwin 17 = .ok (.aload_n 1, 1) := by decide +kernel
theorem dX1_becomeTwin_18 : decode cX1_becomeTwin 18 = .ok (.getfield 25, 3) := by decide +kernel
theorem dX1_becomeTwin_21 : decode cX1_becomeTwin 21 = .ok (.putfield 25, 3) := by decide +kernel
theorem dX1_becomeTwin_24 : decode cX1_becomeTwin 24 = .ok (.aload_n 0, 1) := by decide +kernel
theorem dX1_becomeTwin_25 : decode cX1_becomeTwin 25 = .ok (.aload_n 1, 1) := by decide +kernel
theorem dX1_becomeTwin_26 : decode cX1_becomeTwin 26 = .ok (.getfield 28, 3) := by decide +kernel
theorem dX1_becomeTwin_29 : decode cX1_becomeTwin 29 = .ok (.putfield 28, 3) := by decide +kernel
theorem dX1_becomeTwin_32 : decode cX1_becomeTwin 32 = .ok (.aload_n 0, 1) := by decide +kernel
theorem dX1_becomeTwin_33 : decode cX1_becomeTwin 33 = .ok (.aload_n 1, 1) := by decide +kernel
theorem dX1_becomeTwin_34 : decode cX1_becomeTwin 34 = .ok (.getfield 31, 3) := by decide +kernel
theorem dX1_becomeTwin_37 : decode cX1_becomeTwin 37 = .ok (.putfield 31, 3) := by decide +kernel
theorem dX1_becomeTwin_40 : decode cX1_becomeTwin 40 = .ok (.aload_n 0, 1) := by decide +kernel
theorem dX1_becomeTwin_41 : decode cX1_becomeTwin 41 = .ok (.aload_n 1, 1) := by decide +kernel
theorem dX1_becomeTwin_42 : decode cX1_becomeTwin 42 = .ok (.getfield 34, 3) := by decide +kernel
theorem dX1_becomeTwin_45 : decode cX1_becomeTwin 45 = .ok (.putfield 34, 3) := by decide +kernel
theorem dX1_becomeTwin_48 : decode cX1_becomeTwin 48 = .ok (.aload_n 0, 1) := by decide +kernel
theorem dX1_becomeTwin_49 : decode cX1_becomeTwin 49 = .ok (.aload_n 1, 1) := by decide +kernel
theorem dX1_becomeTwin_50 : decode cX1_becomeTwin 50 = .ok (.getfield 37, 3) := by decide +kernel
theorem dX1_becomeTwin_53 : decode cX1_becomeTwin 53 = .ok (.putfield 37, 3) := by decide +kernel
theorem dX1_becomeTwin_56 : decode cX1_becomeTwin 56 = .ok (.return_, 1) := by decide +kernel
theorem dX1_becomePart_0 : decode cX1_becomePart 0 = .ok (.aload_n 0, 1) := by decide +kernel
theorem dX1_becomePart_1 : decode cX1_becomePart 1 = .ok (.aload_n 1, 1) := by decide +kernel
theorem dX1_becomePart_2 : decode cX1_becomePart 2 = .ok (.getfield 9, 3) := by decide +kernel
theorem dX1_becomePart_5 : decode cX1_becomePart 5 = .ok (.putfield 9, 3) := by decide +kernel
theorem dX1_becomePart_8 : decode cX1_becomePart 8 = .ok (.aload_n 0, 1) := by decide +kernel
theorem dX1_becomePart_9 : decode cX1_becomePart 9 = .ok (.aload_n 1, 1) := by decide +kernel
theorem dX1_becomePart_10 : decode cX1_becomePart 10 = .ok (.getfield 15, 3) := by decide +kernel
theorem dX1_becomePart_13 : decode cX1_becomePart 13 = .ok (.iload_n 2, 1) := by decide +kernel
theorem dX1_becomePart_14 : decode cX1_becomePart 14 = .ok (.iadd, 1) := by decide +kernel
theorem dX1_becomePart_15 : decode cX1_becomePart 15 = .ok (.putfield 15, 3) := by decide +kernel
theorem dX1_becomePart_18 : decode cX1_becomePart 18 = .ok (.aload_n 0, 1) := by decide +kernel
theorem dX1_becomePart_19 : decode cX1_becomePart 19 = .ok (.iload_n 3, 1) := by decide +kernel
theorem dX1_becomePart_20 : decode cX1_becomePart 20 = .ok (.putfield 25, 3) := by decide +kernel
theorem dX1_becomePart_23 : decode cX1_becomePart 23 = .ok (.aload_n 0, 1) := by decide +kernel
theorem dX1_becomePart_24 : decode cX1_becomePart 24 = .ok (.aload_n 1, 1) := by decide +kernel
theorem dX1_becomePart_25 : decode cX1_becomePart 25 = .ok (.getfield 37, 3) := by decide +kernel
theorem dX1_becomePart_28 : decode cX1_becomePart 28 = .ok (.putfield 37, 3) := by decide +kernel
theorem dX1_becomePart_31 : decode cX1_becomePart 31 = .ok (.aload_n 0, 1) := by decide +kernel
theorem dX1_becomePart_32 : decode cX1_becomePart 32 = .ok (.iload_n 3, 1) := by decide +kernel
theorem dX1_becomePart_33 : decode cX1_becomePart 33 = .ok (.invokevirtual 41, 3) := by decide +kernel
theorem dX1_becomePart_36 : decode cX1_becomePart 36 = .ok (.return_, 1) := by decide +kernel
theorem dX1_valueAt_0 : decode cX1_valueAt 0 = .ok (.aload_n 0, 1) := by decide +kernel
theorem dX1_valueAt_1 : decode cX1_valueAt 1 = .ok (.getfield 9, 3) := by decide +kernel
theorem dX1_valueAt_4 : decode cX1_valueAt 4 = .ok (.aload_n 0, 1) := by decide +kernel
theorem dX1_valueAt_5 : decode cX1_valueAt 5 = .ok (.getfield 15, 3) := by decide +kernel
theorem dX1_valueAt_8 : decode cX1_valueAt 8 = .ok (.iload_n 1, 1) := by decide +kernel
theorem dX1_valueAt_9 : decode cX1_valueAt 9 = .ok (.iadd, 1) := by decide +kernel
theorem dX1_valueAt_10 : decode cX1_valueAt 10 = .ok (.invokevirtual 45, 3) := by decide +kernel
theorem dX1_valueAt_13 : decode cX1_valueAt 13 = .ok (.ireturn, 1) := by decide +kernel
theorem dX1_replace_0 : decode cX1_replace 0 = .ok (.aload_n 0, 1) := by decide +kernel
theorem dX1_replace_1 : decode cX1_replace 1 = .ok (.getfield 9, 3) := by decide +kernel
theorem dX1_replace_4 : decode cX1_replace 4 = .ok (.aload_n 0, 1) := by decide +kernel
theorem dX1_replace_5 : decode cX1_replace 5 = .ok (.getfield 15, 3) := by decide +kernel
theorem dX1_replace_8 : decode cX1_replace 8 = .ok (.iload_n 1, 1) := by decide +kernel
theorem dX1_replace_9 : decode cX1_replace 9 = .ok (.iadd, 1) := by decide +kernel
theorem dX1_replace_10 : decode cX1_replace 10 = .ok (.iload_n 2, 1) := by decide +kernel
theorem dX1_replace_11 : decode cX1_replace 11 = .ok (.invokevirtual 49, 3) := by decide +kernel
theorem dX1_replace_14 : decode cX1_replace 14 = .ok (.ireturn, 1) := by decide +kernel
theorem dX1_takeNext_0 : decode cX1_takeNext 0 = .ok (.aload_n 0, 1) := by decide +kernel
theorem dX1_takeNext_1 : decode cX1_takeNext 1 = .ok (.aload_n 0, 1) := by decide +kernel
theorem dX1_takeNext_2 : decode cX1_takeNext 2 = .ok (.getfield 28, 3) := by decide +kernel
theorem dX1_takeNext_5 : decode cX1_takeNext 5 = .ok (.invokevirtual 53, 3) := by decide +kernel
theorem dX1_takeNext_8 : decode cX1_takeNext 8 = .ok (.istore_n 1, 1) := by decide +kernel
theorem dX1_takeNext_9 : decode cX1_takeNext 9 = .ok (.aload_n 0, 1) := by decide +kernel
theorem dX1_takeNext_10 : decode cX1_takeNext 10 = .ok (.dup, 1) := by decide +kernel
theorem dX1_takeNext_11 : decode cX1_takeNext 11 = .ok (.getfield 28, 3) := by decide +kernel
theorem dX1_takeNext_14 : decode cX1_takeNext 14 = .ok (.iconst 1, 1) := by decide +kernel
theorem dX1_takeNext_15 : decode cX1_takeNext 15 = .ok (.iadd, 1) := by decide +kernel
theorem dX1_takeNext_16 : decode cX1_takeNext 16 = .ok (.putfield 28, 3) := by decide +kernel
theorem dX1_takeNext_19 : decode cX1_takeNext 19 = .ok (.iload_n 1, 1) := by decide +kernel
theorem dX1_takeNext_20 : decode cX1_takeNext 20 = .ok (.ireturn, 1) := by decide +kernel
theorem dX1_putNext_0 : decode cX1_putNext 0 = .ok (.aload_n 0, 1) := by decide +kernel
theorem dX1_putNext_1 : decode cX1_putNext 1 = .ok (.aload_n 0, 1) := by decide +kernel
theorem dX1_putNext_2 : decode cX1_putNext 2 = .ok (.getfield 28, 3) := by decide +kernel
theorem dX1_putNext_5 : decode cX1_putNext 5 = .ok (.iload_n 1, 1) := by decide +kernel
theorem dX1_putNext_6 : decode cX1_putNext 6 = .ok (.invokevirtual 54, 3) := by decide +kernel
theorem dX1_putNext_9 : decode cX1_putNext 9 = .ok (.pop, 1) := by decide +kernel
theorem dX1_putNext_10 : decode cX1_putNext 10 = .ok (.aload_n 0, 1) := by decide +kernel
theorem dX1_putNext_11 : decode cX1_putNext 11 = .ok (.dup, 1) := by decide +kernel
theorem dX1_putNext_12 : decode cX1_putNext 12 = .ok (.getfield 28, 3) := by decide +kernel
theorem dX1_putNext_15 : decode cX1_putNext 15 = .ok (.iconst 1, 1) := by decide +kernel
theorem dX1_putNext_16 : decode cX1_putNext 16 = .ok (.iadd, 1) := by decide +kernel
theorem dX1_putNext_17 : decode cX1_putNext 17 = .ok (.putfield 28, 3) := by decide +kernel
theorem dX1_putNext_20 : decode cX1_putNext 20 = .ok (.return_, 1) := by decide +kernel
theorem dX1_numberOf_0 : decode cX1_numberOf 0 = .ok (.iload_n 1, 1) := by decide +kernel
theorem dX1_numberOf_1 : decode cX1_numberOf 1 = .ok (.tableswitch 132 0 8 #[51, 56, 61, 66, 71, 76, 93, 106, 119], 51) := by decide +kernel
theorem dX1_numberOf_52 : decode cX1_numberOf 52 = .ok (.aload_n 0, 1) := by decide +kernel
theorem dX1_numberOf_53 : decode cX1_numberOf 53 = .ok (.getfield 28, 3) := by decide +kernel
theorem dX1_numberOf_56 : decode cX1_numberOf 56 = .ok (.ireturn, 1) := by decide +kernel
theorem dX1_numberOf_57 : decode cX1_numberOf 57 = .ok (.aload_n 0, 1) := by decide +kernel
theorem dX1_numberOf_58 : decode cX1_numberOf 58 = .ok (.getfield 31, 3) := by decide +kernel
theorem dX1_numberOf_61 : decode cX1_numberOf 61 = .ok (.ireturn, 1) := by decide +kernel
theorem dX1_numberOf_62 : decode cX1_numberOf 62 = .ok (.aload_n 0, 1) := by decide +kernel
theorem dX1_numberOf_63 : decode cX1_numberOf 63 = .ok (.getfield 25, 3) := by decide +kernel
theorem dX1_numberOf_66 : decode cX1_numberOf 66 = .ok (.ireturn, 1) := by decide +kernel
theorem dX1_numberOf_67 : decode cX1_numberOf 67 = .ok (.aload_n 0, 1) := by decide +kernel
theorem dX1_numberOf_68 : decode cX1_numberOf 68 = .ok (.invokevirtual 57, 3) := by decide +kernel
theorem dX1_numberOf_71 : decode cX1_numberOf 71 = .ok (.ireturn, 1) := by decide +kernel
theorem dX1_numberOf_72 : decode cX1_numberOf 72 = .ok (.aload_n 0, 1) := by decide +kernel
theorem dX1_numberOf_73 : decode cX1_numberOf 73 = .ok (.getfield 34, 3) := by decide +kernel
theorem dX1_numberOf_76 : decode cX1_numberOf 76 = .ok (.ireturn, 1) := by decide +kernel
theorem dX1_numberOf_77 : decode cX1_numberOf 77 = .ok (.aload_n 0, 1) := by decide +kernel
theorem dX1_numberOf_78 : decode cX1_numberOf 78 = .ok (.getfield 37, 3) := by decide +kernel
theorem dX1_numberOf_81 : decode cX1_numberOf 81 = .ok (.ifCond .eq 8, 3) := by decide +kernel
theorem dX1_numberOf_84 : decode cX1_numberOf 84 = .ok (.bipush (-9), 2) := by decide +kernel
theorem dX1_numberOf_86 : decode cX1_numberOf 86 = .ok (.goto 7, 3) := by decide +kernel
theorem dX1_numberOf_89 : decode cX1_numberOf 89 = .ok (.aload_n 0, 1) := by decide +kernel
theorem dX1_numberOf_90 : decode cX1_numberOf 90 = .ok (.getfield 15, 3) := by decide +kernel
theorem dX1_numberOf_93 : decode cX1_numberOf 93 = .ok (.ireturn, 1) := by decide +kernel
theorem dX1_numberOf_94 : decode cX1_numberOf 94 = .ok (.aload_n 0, 1) := by decide +kernel
theorem dX1_numberOf_95 : decode cX1_numberOf 95 = .ok (.invokevirtual 57, 3) := by decide +kernel
theorem dX1_numberOf_98 : decode cX1_numberOf 98 = .ok (.ifCond .le 7, 3) := by decide +kernel
theorem dX1_numberOf_101 : decode cX1_numberOf 101 = .ok (.iconst 1, 1) := by decide +kernel
theorem dX1_numberOf_102 : decode cX1_numberOf 102 = .ok (.goto 4, 3) := by decide +kernel
theorem dX1_numberOf_105 : decode cX1_numberOf 105 = .ok (.iconst 0, 1) := by decide +kernel
theorem dX1_numberOf_106 : decode cX1_numberOf 106 = .ok (.ireturn, 1) := by decide +kernel
theorem dX1_numberOf_107 : decode cX1_numberOf 107 = .ok (.aload_n 0, 1) := by decide +kernel
theorem dX1_numberOf_108 : decode cX1_numberOf 108 = .ok (.getfield 37, 3) := by decide +kernel
theorem dX1_numberOf_111 : decode cX1_numberOf 111 = .ok (.ifCond .eq 7, 3) := by decide +kernel
theorem dX1_numberOf_114 : decode cX1_numberOf 114 = .ok (.iconst 1, 1) := by decide +kernel
theorem dX1_numberOf_115 : decode cX1_numberOf 115 = .ok (.goto 4, 3) := by decide +kernel
theorem dX1_numberOf_118 : decode cX1_numberOf 118 = .ok (.iconst 0, 1) := by decide +kernel
theorem dX1_numberOf_119 : decode cX1_numberOf 119 = .ok (.ireturn, 1) := by decide +kernel
theorem dX1_numberOf_120 : decode cX1_numberOf 120 = .ok (.aload_n 0, 1) := by decide +kernel
theorem dX1_numberOf_121 : decode cX1_numberOf 121 = .ok (.getfield 37, 3) := by decide +kernel
theorem dX1_numberOf_124 : decode cX1_numberOf 124 = .ok (.ifCond .eq 7, 3) := by decide +kernel
theorem dX1_numberOf_127 : decode cX1_numberOf 127 = .ok (.iconst 0, 1) := by decide +kernel
theorem dX1_numberOf_128 : decode cX1_numberOf 128 = .ok (.goto 4, 3) := by decide +kernel
theorem dX1_numberOf_131 : decode cX1_numberOf 131 = .ok (.iconst 1, 1) := by decide +kernel
theorem dX1_numberOf_132 : decode cX1_numberOf 132 = .ok (.ireturn, 1) := by decide +kernel
theorem dX1_numberOf_133 : decode cX1_numberOf 133 = .ok (.aload_n 0, 1) := by decide +kernel
theorem dX1_numberOf_134 : decode cX1_numberOf 134 = .ok (.getfield 25, 3) := by decide +kernel
theorem dX1_numberOf_137 : decode cX1_numberOf 137 = .ok (.aload_n 0, 1) := by decide +kernel
theorem dX1_numberOf_138 : decode cX1_numberOf 138 = .ok (.getfield 31, 3) := by decide +kernel
theorem dX1_numberOf_141 : decode cX1_numberOf 141 = .ok (.isub, 1) := by decide +kernel
theorem dX1_numberOf_142 : decode cX1_numberOf 142 = .ok (.ireturn, 1) := by decide +kernel
theorem dX1_isInOrder_0 : decode cX1_isInOrder 0 = .ok (.aload_n 0, 1) := by decide +kernel
theorem dX1_isInOrder_1 : decode cX1_isInOrder 1 = .ok (.invokevirtual 60, 3) := by decide +kernel
theorem dX1_isInOrder_4 : decode cX1_isInOrder 4 = .ok (.ifCond .eq 23, 3) := by decide +kernel
theorem dX1_isInOrder_7 : decode cX1_isInOrder 7 = .ok (.aload_n 0, 1) := by decide +kernel
theorem dX1_isInOrder_8 : decode cX1_isInOrder 8 = .ok (.getfield 34, 3) := by decide +kernel
theorem dX1_isInOrder_11 : decode cX1_isInOrder 11 = .ok (.ifCond .lt 14, 3) := by decide +kernel
theorem dX1_isInOrder_14 : decode cX1_isInOrder 14 = .ok (.aload_n 0, 1) := by decide +kernel
theorem dX1_isInOrder_15 : decode cX1_isInOrder 15 = .ok (.getfield 34, 3) := by decide +kernel
theorem dX1_isInOrder_18 : decode cX1_isInOrder 18 = .ok (.aload_n 0, 1) := by decide +kernel
theorem dX1_isInOrder_19 : decode cX1_isInOrder 19 = .ok (.getfield 28, 3) := by decide +kernel
theorem dX1_isInOrder_22 : decode cX1_isInOrder 22 = .ok (.if_icmp .le 5, 3) := by decide +kernel
theorem dX1_isInOrder_25 : decode cX1_isInOrder 25 = .ok (.iconst 0, 1) := by decide +kernel
theorem dX1_isInOrder_26 : decode cX1_isInOrder 26 = .ok (.ireturn, 1) := by decide +kernel
theorem dX1_isInOrder_27 : decode cX1_isInOrder 27 = .ok (.aload_n 0, 1) := by decide +kernel
theorem dX1_isInOrder_28 : decode cX1_isInOrder 28 = .ok (.getfield 28, 3) := by decide +kernel
theorem dX1_isInOrder_31 : decode cX1_isInOrder 31 = .ok (.ifCond .lt 45, 3) := by decide +kernel
theorem dX1_isInOrder_34 : decode cX1_isInOrder 34 = .ok (.aload_n 0, 1) := by decide +kernel
theorem dX1_isInOrder_35 : decode cX1_isInOrder 35 = .ok (.getfield 28, 3) := by decide +kernel
theorem dX1_isInOrder_38 : decode cX1_isInOrder 38 = .ok (.aload_n 0, 1) := by decide +kernel
theorem dX1_isInOrder_39 : decode cX1_isInOrder 39 = .ok (.getfield 31, 3) := by decide +kernel
theorem dX1_isInOrder_42 : decode cX1_isInOrder 42 = .ok (.if_icmp .gt 34, 3) := by decide +kernel
theorem dX1_isInOrder_45 : decode cX1_isInOrder 45 = .ok (.aload_n 0, 1) := by decide +kernel
theorem dX1_isInOrder_46 : decode cX1_isInOrder 46 = .ok (.getfield 31, 3) := by decide +kernel
theorem dX1_isInOrder_49 : decode cX1_isInOrder 49 = .ok (.aload_n 0, 1) := by decide +kernel
theorem dX1_isInOrder_50 : decode cX1_isInOrder 50 = .ok (.getfield 25, 3) := by decide +kernel
theorem dX1_isInOrder_53 : decode cX1_isInOrder 53 = .ok (.if_icmp .gt 23, 3) := by decide +kernel
theorem dX1_isInOrder_56 : decode cX1_isInOrder 56 = .ok (.aload_n 0, 1) := by decide +kernel
theorem dX1_isInOrder_57 : decode cX1_isInOrder 57 = .ok (.invokevirtual 57, 3) := by decide +kernel
theorem dX1_isInOrder_60 : decode cX1_isInOrder 60 = .ok (.aload_n 0, 1) := by decide +kernel
theorem dX1_isInOrder_61 : decode cX1_isInOrder 61 = .ok (.getfield 31, 3) := by decide +kernel
theorem dX1_isInOrder_64 : decode cX1_isInOrder 64 = .ok (.aload_n 0, 1) := by decide +kernel
theorem dX1_isInOrder_65 : decode cX1_isInOrder 65 = .ok (.getfield 28, 3) := by decide +kernel
theorem dX1_isInOrder_68 : decode cX1_isInOrder 68 = .ok (.isub, 1) := by decide +kernel
theorem dX1_isInOrder_69 : decode cX1_isInOrder 69 = .ok (.if_icmp .ne 7, 3) := by decide +kernel
theorem dX1_isInOrder_72 : decode cX1_isInOrder 72 = .ok (.iconst 1, 1) := by decide +kernel
theorem dX1_isInOrder_73 : decode cX1_isInOrder 73 = .ok (.goto 4, 3) := by decide +kernel
theorem dX1_isInOrder_76 : decode cX1_isInOrder 76 = .ok (.iconst 0, 1) := by decide +kernel
theorem dX1_isInOrder_77 : decode cX1_isInOrder 77 = .ok (.ireturn, 1) := by decide +kernel
theorem dX3_isWithin_0 : decode cX3_isWithin 0 = .ok (.iload_n 0, 1) := by decide +kernel
theorem dX3_isWithin_1 : decode cX3_isWithin 1 = .ok (.iload_n 1, 1) := by decide +kernel
theorem dX3_isWithin_2 : decode cX3_isWithin 2 = .ok (.if_icmp .lt 12, 3) := by decide +kernel
theorem dX3_isWithin_5 : decode cX3_isWithin 5 = .ok (.iload_n 0, 1) := by decide +kernel
theorem dX3_isWithin_6 : decode cX3_isWithin 6 = .ok (.iload_n 2, 1) := by decide +kernel
theorem dX3_isWithin_7 : decode cX3_isWithin 7 = .ok (.if_icmp .gt 7, 3) := by decide +kernel
theorem dX3_isWithin_10 : decode cX3_isWithin 10 = .ok (.iconst 1, 1) := by decide +kernel
theorem dX3_isWithin_11 : decode cX3_isWithin 11 = .ok (.goto 4, 3) := by decide +kernel
theorem dX3_isWithin_14 : decode cX3_isWithin 14 = .ok (.iconst 0, 1) := by decide +kernel
theorem dX3_isWithin_15 : decode cX3_isWithin 15 = .ok (.ireturn, 1) := by decide +kernel
theorem dX3_done_0 : decode cX3_done 0 = .ok (.aload_n 0, 1) := by decide +kernel
theorem dX3_done_1 : decode cX3_done 1 = .ok (.dup, 1) := by decide +kernel
theorem dX3_done_2 : decode cX3_done 2 = .ok (.getfield 42, 3) := by decide +kernel
theorem dX3_done_5 : decode cX3_done 5 = .ok (.iconst 1, 1) := by decide +kernel
theorem dX3_done_6 : decode cX3_done 6 = .ok (.iadd, 1) := by decide +kernel
theorem dX3_done_7 : decode cX3_done 7 = .ok (.putfield 42, 3) := by decide +kernel
theorem dX3_done_10 : decode cX3_done 10 = .ok (.iload_n 1, 1) := by decide +kernel
theorem dX3_done_11 : decode cX3_done 11 = .ok (.ireturn, 1) := by decide +kernel
theorem dX3_refuse_0 : decode cX3_refuse 0 = .ok (.iload_n 1, 1) := by decide +kernel
theorem dX3_refuse_1 : decode cX3_refuse 1 = .ok (.ifCond .lt 22, 3) := by decide +kernel
theorem dX3_refuse_4 : decode cX3_refuse 4 = .ok (.iload_n 1, 1) := by decide +kernel
theorem dX3_refuse_5 : decode cX3_refuse 5 = .ok (.aload_n 0, 1) := by decide +kernel
theorem dX3_refuse_6 : decode cX3_refuse 6 = .ok (.getfield 38, 3) := by decide +kernel
theorem dX3_refuse_9 : decode cX3_refuse 9 = .ok (.arraylength, 1) := by decide +kernel
theorem dX3_refuse_10 : decode cX3_refuse 10 = .ok (.if_icmp .ge 13, 3) := by decide +kernel
theorem dX3_refuse_13 : decode cX3_refuse 13 = .ok (.aload_n 0, 1) := by decide +kernel
theorem dX3_refuse_14 : decode cX3_refuse 14 = .ok (.getfield 38, 3) := by decide +kernel
theorem dX3_refuse_17 : decode cX3_refuse 17 = .ok (.iload_n 1, 1) := by decide +kernel
theorem dX3_refuse_18 : decode cX3_refuse 18 = .ok (.dup2, 1) := by decide +kernel
theorem dX3_refuse_19 : decode cX3_refuse 19 = .ok (.iaload, 1) := by decide +kernel
theorem dX3_refuse_20 : decode cX3_refuse 20 = .ok (.iconst 1, 1) := by decide +kernel
theorem dX3_refuse_21 : decode cX3_refuse 21 = .ok (.iadd, 1) := by decide +kernel
theorem dX3_refuse_22 : decode cX3_refuse 22 = .ok (.iastore, 1) := by decide +kernel
theorem dX3_refuse_23 : decode cX3_refuse 23 = .ok (.bipush (-9), 2) := by decide +kernel
theorem dX3_refuse_25 : decode cX3_refuse 25 = .ok (.ireturn, 1) := by decide +kernel
theorem dX3_paneOf_0 : decode cX3_paneOf 0 = .ok (.iload_n 1, 1) := by decide +kernel
theorem dX3_paneOf_1 : decode cX3_paneOf 1 = .ok (.ifCond .lt 12, 3) := by decide +kernel
theorem dX3_paneOf_4 : decode cX3_paneOf 4 = .ok (.iload_n 1, 1) := by decide +kernel
theorem dX3_paneOf_5 : decode cX3_paneOf 5 = .ok (.aload_n 0, 1) := by decide +kernel
theorem dX3_paneOf_6 : decode cX3_paneOf 6 = .ok (.getfield 20, 3) := by decide +kernel
theorem dX3_paneOf_9 : decode cX3_paneOf 9 = .ok (.arraylength, 1) := by decide +kernel
theorem dX3_paneOf_10 : decode cX3_paneOf 10 = .ok (.if_icmp .lt 13, 3) := by decide +kernel
theorem dX3_paneOf_13 : decode cX3_paneOf 13 = .ok (.new 142, 3) := by decide +kernel
theorem dX3_paneOf_16 : decode cX3_paneOf 16 = .ok (.dup, 1) := by decide +kernel
theorem dX3_paneOf_17 : decode cX3_paneOf 17 = .ok (.ldc 218, 2) := by decide +kernel
theorem dX3_paneOf_19 : decode cX3_paneOf 19 = .ok (.invokespecial 146, 3) := by decide +kernel
theorem dX3_paneOf_22 : decode cX3_paneOf 22 = .ok (.athrow, 1) := by decide +kernel
theorem dX3_paneOf_23 : decode cX3_paneOf 23 = .ok (.aload_n 0, 1) := by decide +kernel
theorem dX3_paneOf_24 : decode cX3_paneOf 24 = .ok (.getfield 20, 3) := by decide +kernel
theorem dX3_paneOf_27 : decode cX3_paneOf 27 = .ok (.iload_n 1, 1) := by decide +kernel
theorem dX3_paneOf_28 : decode cX3_paneOf 28 = .ok (.aaload, 1) := by decide +kernel
theorem dX3_paneOf_29 : decode cX3_paneOf 29 = .ok (.areturn, 1) := by decide +kernel
theorem dX3_needWithin_0 : decode cX3_needWithin 0 = .ok (.iload_n 0, 1) := by decide +kernel
theorem dX3_needWithin_1 : decode cX3_needWithin 1 = .ok (.iload_n 1, 1) := by decide +kernel
theorem dX3_needWithin_2 : decode cX3_needWithin 2 = .ok (.iload_n 2, 1) := by decide +kernel
theorem dX3_needWithin_3 : decode cX3_needWithin 3 = .ok (.invokestatic 82, 3) := by decide +kernel
theorem dX3_needWithin_6 : decode cX3_needWithin 6 = .ok (.ifCond .ne 13, 3) := by decide +kernel
theorem dX3_needWithin_9 : decode cX3_needWithin 9 = .ok (.new 220, 3) := by decide +kernel
theorem dX3_needWithin_12 : decode cX3_needWithin 12 = .ok (.dup, 1) := by decide +kernel
theorem dX3_needWithin_13 : decode cX3_needWithin 13 = .ok (.ldc 222, 2) := by decide +kernel
theorem dX3_needWithin_15 : decode cX3_needWithin 15 = .ok (.invokespecial 224, 3) := by decide +kernel
theorem dX3_needWithin_18 : decode cX3_needWithin 18 = .ok (.athrow, 1) := by decide +kernel
theorem dX3_needWithin_19 : decode cX3_needWithin 19 = .ok (.return_, 1) := by decide +kernel
theorem dX3_needValue_0 : decode cX3_needValue 0 = .ok (.iload_n 0, 1) := by decide +kernel
theorem dX3_needValue_1 : decode cX3_needValue 1 = .ok (.ifCond .ge 13, 3) := by decide +kernel
theorem dX3_needValue_4 : decode cX3_needValue 4 = .ok (.new 220, 3) := by decide +kernel
theorem dX3_needValue_7 : decode cX3_needValue 7 = .ok (.dup, 1) := by decide +kernel
theorem dX3_needValue_8 : decode cX3_needValue 8 = .ok (.ldc 225, 2) := by decide +kernel
theorem dX3_needValue_10 : decode cX3_needValue 10 = .ok (.invokespecial 224, 3) := by decide +kernel
theorem dX3_needValue_13 : decode cX3_needValue 13 = .ok (.athrow, 1) := by decide +kernel
theorem dX3_needValue_14 : decode cX3_needValue 14 = .ok (.return_, 1) := by decide +kernel
theorem z_nIn {x : Int32} {n : Nat} (h : vp_in x n) (hn : n < 100000) : ¬ Int32.ofNat n ≤ x := by
  obtain ⟨h1, h2⟩ := z_inT.mp h
  have e : (Int32.ofNat n).toInt = n := nI_toInt (n := n) (by omega)
  rw [z_le, e]
  omega
theorem z_ge0 {x : Int32} {n : Nat} (h : vp_in x n) : ¬ x < 0 := fun q => h (Or.inl q)
theorem z_inO {x : Int32} {n : Nat} (h1 : ¬ x < 0) (h2 : ¬ Int32.ofNat n ≤ x) (hn : n < 100000) : vp_in x n := by
  rw [z_inT]
  rw [z_ltI, z_t0] at h1
  have e : (Int32.ofNat n).toInt = n := nI_toInt (n := n) (by omega)
  rw [z_le, e] at h2
  omega
theorem z_nIt {x : Int32} {n : Nat} (h : vp_in x n) (hn : n < 100000 := by decide) : x < Int32.ofNat n := Int32.not_le.mp (z_nIn h hn)
theorem z_nIf {x : Int32} {n : Nat} (h : ¬ vp_in x n) (h1 : ¬ x < 0) (hn : n < 100000 := by decide) : ¬ x < Int32.ofNat n := fun q => h (z_inO h1 (Int32.not_le.mpr q) hn)
def z_hi (x l : Int32) : Int32 := if x < 0 then 0 else if l ≤ x then 0 else 1
def z_hm (k : Int32) : Int32 := if k = -1 then 0 else 1
theorem z_hi_n (x l : Int32) : narrow .boolean (.int (z_hi x l)) = .int (z_hi x l) := by
  unfold z_hi
  split
  · rfl
  · split <;> rfl
theorem z_hm_n (k : Int32) : narrow .boolean (.int (z_hm k)) = .int (z_hm k) := by
  unfold z_hm
  split <;> rfl
set_option maxRecDepth 20000 in
theorem c_X2_length (l : Launch) (G : zG) {M : zM} {r : Nat} {vs : Nat} {nv : Nat} {fv : Nat → Int32}  (h_r : M r = some (cRw vs)) (h_vs : M vs = some (aI G nv fv))  : z_Mi l G qX2_length (z_rm 1 0 0) [.ref r] M (fun r M' => r = Int32.ofNat nv ∧ M' = M)  := by
  refine z_Mi_of _ (plainFor_of_name rfl) rfl (Nat.le_of_ble_eq_true rfl) (fun X hl hG hnm C ret => ?_)
  subst hl; subst hG
  have C : z_C X cX2_length RX2 1 (z_rm 1 0 0) := C
  show z_W X M 0 0 0 [(0, .ref r)] []
  refine z_aload_n C dX2_length_0 rfl 0 rfl ?_
  refine gf_X2_7 C h_r dX2_length_1 ?_
  refine z_alenI C (v := Int32.ofNat nv) h_vs rfl dX2_length_4 ?_
  exact ret dX2_length_5 rfl (⟨rfl, rfl⟩) (by decide) (by decide)
set_option maxRecDepth 20000 in
theorem c_X2_hasPlace_g (l : Launch) (G : zG) {M : zM} {r : Nat} {pl : Int32} {vs : Nat} {nv : Nat} {fv : Nat → Int32}  (h_r : M r = some (cRw vs)) (h_vs : M vs = some (aI G nv fv))  : z_Mi l G qX2_hasPlace (z_rm 1 0 0) [.ref r, .int pl] M (fun r' M' => r' = z_hi pl (Int32.ofNat nv) ∧ M' = M)  := by
  refine z_Mi_of _ (plainFor_of_name rfl) rfl (Nat.le_of_ble_eq_true rfl) (fun X hl hG hnm C ret => ?_)
  subst hl; subst hG
  have C : z_C X cX2_hasPlace RX2 2 (z_rm 1 0 0) := C
  show z_W X M 0 0 0 [(0, .ref r), (1, .int pl)] []
  refine z_iload_n C dX2_hasPlace_0 rfl 1 rfl ?_
  refine z_if_lt C (tgt := 17) dX2_hasPlace_1 (by decide) (fun c1 => ?_) (fun c1 => ?_)
  · refine z_iconst C (v := 0) dX2_hasPlace_17 (by decide) ?_
    refine ret dX2_hasPlace_18 rfl ?_ (by decide) (by decide)
    exact ⟨by simp [z_hi, *], rfl⟩
  · refine z_iload_n C dX2_hasPlace_4 rfl 1 rfl ?_
    refine z_aload_n C dX2_hasPlace_5 rfl 0 rfl ?_
    refine gf_X2_7 C h_r dX2_hasPlace_6 ?_
    refine z_alenI C (v := Int32.ofNat nv) h_vs rfl dX2_hasPlace_9 ?_
    refine z_icmp_ge C (tgt := 17) dX2_hasPlace_10 (by decide) (fun c10 => ?_) (fun c10 => ?_)
    · refine z_iconst C (v := 0) dX2_hasPlace_17 (by decide) ?_
      refine ret dX2_hasPlace_18 rfl ?_ (by decide) (by decide)
      exact ⟨by simp [z_hi, *], rfl⟩
    · refine z_iconst C (v := 1) dX2_hasPlace_13 (by decide) ?_
      refine z_goto C (tgt := 18) dX2_hasPlace_14 (by decide) ?_
      refine ret dX2_hasPlace_18 rfl ?_ (by decide) (by decide)
      exact ⟨by simp [z_hi, *], rfl⟩
set_option maxRecDepth 20000 in
theorem c_X2_hasPlace (l : Launch) (G : zG) {M : zM} {r : Nat} {pl : Int32} {vs : Nat} {nv : Nat} {fv : Nat → Int32}  (h_r : M r = some (cRw vs)) (h_vs : M vs = some (aI G nv fv)) (h_pl : vp_in pl nv) (h_nv : nv < 100000) : z_Mi l G qX2_hasPlace (z_rm 1 0 0) [.ref r, .int pl] M (fun r M' => r = 1 ∧ M' = M)  := by
  refine z_Mi_of _ (plainFor_of_name rfl) rfl (Nat.le_of_ble_eq_true rfl) (fun X hl hG hnm C ret => ?_)
  subst hl; subst hG
  have C : z_C X cX2_hasPlace RX2 2 (z_rm 1 0 0) := C
  show z_W X M 0 0 0 [(0, .ref r), (1, .int pl)] []
  refine z_iload_n C dX2_hasPlace_0 rfl 1 rfl ?_
  refine z_if_lt C (tgt := 17) dX2_hasPlace_1 (by decide) (fun c1 => absurd c1 (z_ge0 h_pl)) (fun _ => ?_)
  refine z_iload_n C dX2_hasPlace_4 rfl 1 rfl ?_
  refine z_aload_n C dX2_hasPlace_5 rfl 0 rfl ?_
  refine gf_X2_7 C h_r dX2_hasPlace_6 ?_
  refine z_alenI C (v := Int32.ofNat nv) h_vs rfl dX2_hasPlace_9 ?_
  refine z_icmp_ge C (tgt := 17) dX2_hasPlace_10 (by decide) (fun c10 => absurd c10 (z_nIn h_pl h_nv)) (fun _ => ?_)
  refine z_iconst C (v := 1) dX2_hasPlace_13 (by decide) ?_
  refine z_goto C (tgt := 18) dX2_hasPlace_14 (by decide) ?_
  exact ret dX2_hasPlace_18 rfl (⟨rfl, rfl⟩) (by decide) (by decide)
set_option maxRecDepth 20000 in
theorem c_X2_valueAt (l : Launch) (G : zG) {M : zM} {r : Nat} {pl : Int32} {vs : Nat} {nv : Nat} {fv : Nat → Int32}  (h_r : M r = some (cRw vs)) (h_vs : M vs = some (aI G nv fv)) (h_pl : vp_in pl nv) (h_nv : nv < 100000) : z_Mi l G qX2_valueAt (z_rm 2 0 0) [.ref r, .int pl] M (fun r M' => r = fv pl.toNatClampNeg ∧ M' = M)  := by
  refine z_Mi_of _ (plainFor_of_name rfl) rfl (Nat.le_of_ble_eq_true rfl) (fun X hl hG hnm C ret => ?_)
  subst hl; subst hG
  have C : z_C X cX2_valueAt RX2 2 (z_rm 2 0 0) := C
  show z_W X M 0 0 0 [(0, .ref r), (1, .int pl)] []
  refine z_aload_n C dX2_valueAt_0 rfl 0 rfl ?_
  refine z_iload_n C dX2_valueAt_1 rfl 1 rfl ?_
  refine z_callVi (rest := []) (k' := 0) (n' := 0) C (c_X2_hasPlace (z_l X) (z_G X) h_r h_vs h_pl h_nv) (cs_X2_13 C (by decide)) h_r rfl rfl rfl rfl (Nat.le_of_ble_eq_true rfl) rfl rfl (by decide) (by decide) dX2_valueAt_2 (fun x2 M' hq => ?_)
  obtain ⟨rfl, rfl⟩ := hq
  refine z_if_eq C (tgt := 17) dX2_valueAt_5 (by decide) (fun c5 => absurd c5 (by decide)) (fun _ => ?_)
  refine z_aload_n C dX2_valueAt_8 rfl 0 rfl ?_
  refine gf_X2_7 C h_r dX2_valueAt_9 ?_
  refine z_iload_n C dX2_valueAt_12 rfl 1 rfl ?_
  refine z_iald (j := pl.toNatClampNeg) C h_vs h_pl rfl dX2_valueAt_13 ?_
  refine z_goto C (tgt := 18) dX2_valueAt_14 (by decide) ?_
  exact ret dX2_valueAt_18 rfl (⟨rfl, rfl⟩) (by decide) (by decide)
set_option maxRecDepth 20000 in
theorem c_X2_exchangeAt (l : Launch) (G : zG) {M : zM} {r : Nat} {pl : Int32} {v : Int32} {vs : Nat} {nv : Nat} {fv : Nat → Int32}  (h_r : M r = some (cRw vs)) (h_vs : M vs = some (aI G nv fv)) (h_pl : vp_in pl nv) (h_nv : nv < 100000) : z_Mi l G qX2_exchangeAt (z_rm 2 0 0) [.ref r, .int pl, .int v] M (fun r M' => r = fv pl.toNatClampNeg ∧ M' = z_up M vs (aI G nv (upd fv pl.toNatClampNeg v)))  := by
  refine z_Mi_of _ (plainFor_of_name rfl) rfl (Nat.le_of_ble_eq_true rfl) (fun X hl hG hnm C ret => ?_)
  subst hl; subst hG
  have C : z_C X cX2_exchangeAt RX2 4 (z_rm 2 0 0) := C
  show z_W X M 0 0 0 [(0, .ref r), (1, .int pl), (2, .int v)] []
  refine z_aload_n C dX2_exchangeAt_0 rfl 0 rfl ?_
  refine z_iload_n C dX2_exchangeAt_1 rfl 1 rfl ?_
  refine z_callVi (rest := []) (k' := 0) (n' := 0) C (c_X2_hasPlace (z_l X) (z_G X) h_r h_vs h_pl h_nv) (cs_X2_13 C (by decide)) h_r rfl rfl rfl rfl (Nat.le_of_ble_eq_true rfl) rfl rfl (by decide) (by decide) dX2_exchangeAt_2 (fun x2 M' hq => ?_)
  obtain ⟨rfl, rfl⟩ := hq
  refine z_if_ne C (tgt := 10) dX2_exchangeAt_5 (by decide) (fun _ => ?_) (fun c5 => absurd c5 (by decide))
  refine z_aload_n C dX2_exchangeAt_10 rfl 0 rfl ?_
  refine gf_X2_7 C h_r dX2_exchangeAt_11 ?_
  refine z_iload_n C dX2_exchangeAt_14 rfl 1 rfl ?_
  refine z_iald (j := pl.toNatClampNeg) C h_vs h_pl rfl dX2_exchangeAt_15 ?_
  refine z_istore_n (lv' := [(3, .int (fv pl.toNatClampNeg)), (0, .ref r), (1, .int pl), (2, .int v)]) C dX2_exchangeAt_16 rfl (by decide) rfl ?_
  refine z_aload_n C dX2_exchangeAt_17 rfl 1 rfl ?_
  refine gf_X2_7 C h_r dX2_exchangeAt_18 ?_
  refine z_iload_n C dX2_exchangeAt_21 rfl 2 rfl ?_
  refine z_iload_n C dX2_exchangeAt_22 rfl 3 rfl ?_
  refine z_iast (j := pl.toNatClampNeg) C h_vs h_pl rfl dX2_exchangeAt_23 ?_
  refine z_iload_n C dX2_exchangeAt_24 rfl 0 rfl ?_
  exact ret dX2_exchangeAt_25 rfl (⟨rfl, rfl⟩) (by decide) (by decide)
set_option maxRecDepth 20000 in
theorem c_X1_left (l : Launch) (G : zG) {M : zM} {p : Nat} {ov : Nat} {sa : Int32} {cp : Int32} {po : Int32} {li : Int32} {mk : Int32} {rd : Int32}  (h_p : M p = some (cPn ov sa cp po li mk rd))  : z_Mi l G qX1_left (z_rm 1 0 0) [.ref p] M (fun r M' => r = li - po ∧ M' = M)  := by
  refine z_Mi_of _ (plainFor_of_name rfl) rfl (Nat.le_of_ble_eq_true rfl) (fun X hl hG hnm C ret => ?_)
  subst hl; subst hG
  have C : z_C X cX1_left RX1 1 (z_rm 1 0 0) := C
  show z_W X M 0 0 0 [(0, .ref p)] []
  refine z_aload_n C dX1_left_0 rfl 0 rfl ?_
  refine gf_X1_31 C h_p dX1_left_1 ?_
  refine z_aload_n C dX1_left_4 rfl 0 rfl ?_
  refine gf_X1_28 C h_p dX1_left_5 ?_
  refine z_isub C dX1_left_8 ?_
  exact ret dX1_left_9 rfl (⟨rfl, rfl⟩) (by decide) (by decide)
set_option maxRecDepth 20000 in
theorem c_X1_hasMark (l : Launch) (G : zG) {M : zM} {p : Nat} {ov : Nat} {sa : Int32} {cp : Int32} {po : Int32} {li : Int32} {mk : Int32} {rd : Int32}  (h_p : M p = some (cPn ov sa cp po li mk rd))  : z_Mi l G qX1_hasMark (z_rm 1 0 0) [.ref p] M (fun r M' => r = z_hm mk ∧ M' = M)  := by
  refine z_Mi_of _ (plainFor_of_name rfl) rfl (Nat.le_of_ble_eq_true rfl) (fun X hl hG hnm C ret => ?_)
  subst hl; subst hG
  have C : z_C X cX1_hasMark RX1 1 (z_rm 1 0 0) := C
  show z_W X M 0 0 0 [(0, .ref p)] []
  refine z_aload_n C dX1_hasMark_0 rfl 0 rfl ?_
  refine gf_X1_34 C h_p dX1_hasMark_1 ?_
  refine z_iconst C (v := (-1)) dX1_hasMark_4 (by decide) ?_
  refine z_icmp_eq C (tgt := 12) dX1_hasMark_5 (by decide) (fun c5 => ?_) (fun c5 => ?_)
  · refine z_iconst C (v := 0) dX1_hasMark_12 (by decide) ?_
    refine ret dX1_hasMark_13 rfl ?_ (by decide) (by decide)
    exact ⟨by simp [z_hm, *], rfl⟩
  · refine z_iconst C (v := 1) dX1_hasMark_8 (by decide) ?_
    refine z_goto C (tgt := 13) dX1_hasMark_9 (by decide) ?_
    refine ret dX1_hasMark_13 rfl ?_ (by decide) (by decide)
    exact ⟨by simp [z_hm, *], rfl⟩
set_option maxRecDepth 20000 in
theorem c_X1_hasIndex (l : Launch) (G : zG) {M : zM} {p : Nat} {ix : Int32} {ov : Nat} {sa : Int32} {cp : Int32} {po : Int32} {li : Int32} {mk : Int32} {rd : Int32}  (h_p : M p = some (cPn ov sa cp po li mk rd))  : z_Mi l G qX1_hasIndex (z_rm 1 0 0) [.ref p, .int ix] M (fun r M' => r = z_hi ix li ∧ M' = M)  := by
  refine z_Mi_of _ (plainFor_of_name rfl) rfl (Nat.le_of_ble_eq_true rfl) (fun X hl hG hnm C ret => ?_)
  subst hl; subst hG
  have C : z_C X cX1_hasIndex RX1 2 (z_rm 1 0 0) := C
  show z_W X M 0 0 0 [(0, .ref p), (1, .int ix)] []
  refine z_iload_n C dX1_hasIndex_0 rfl 1 rfl ?_
  refine z_if_lt C (tgt := 16) dX1_hasIndex_1 (by decide) (fun c1 => ?_) (fun c1 => ?_)
  · refine z_iconst C (v := 0) dX1_hasIndex_16 (by decide) ?_
    refine ret dX1_hasIndex_17 rfl ?_ (by decide) (by decide)
    exact ⟨by simp [z_hi, *], rfl⟩
  · refine z_iload_n C dX1_hasIndex_4 rfl 1 rfl ?_
    refine z_aload_n C dX1_hasIndex_5 rfl 0 rfl ?_
    refine gf_X1_31 C h_p dX1_hasIndex_6 ?_
    refine z_icmp_ge C (tgt := 16) dX1_hasIndex_9 (by decide) (fun c9 => ?_) (fun c9 => ?_)
    · refine z_iconst C (v := 0) dX1_hasIndex_16 (by decide) ?_
      refine ret dX1_hasIndex_17 rfl ?_ (by decide) (by decide)
      exact ⟨by simp [z_hi, *], rfl⟩
    · refine z_iconst C (v := 1) dX1_hasIndex_12 (by decide) ?_
      refine z_goto C (tgt := 17) dX1_hasIndex_13 (by decide) ?_
      refine ret dX1_hasIndex_17 rfl ?_ (by decide) (by decide)
      exact ⟨by simp [z_hi, *], rfl⟩
set_option maxRecDepth 20000 in
theorem c_X1_shows (l : Launch) (G : zG) {M : zM} {p : Nat} {ix : Int32} {ov : Nat} {sa : Int32} {cp : Int32} {po : Int32} {li : Int32} {mk : Int32} {rd : Int32}  (h_p : M p = some (cPn ov sa cp po li mk rd))  : z_Mi l G qX1_shows (z_rm 1 0 0) [.ref p, .int ix] M (fun r M' => r = z_hi ix cp ∧ M' = M)  := by
  refine z_Mi_of _ (plainFor_of_name rfl) rfl (Nat.le_of_ble_eq_true rfl) (fun X hl hG hnm C ret => ?_)
  subst hl; subst hG
  have C : z_C X cX1_shows RX1 2 (z_rm 1 0 0) := C
  show z_W X M 0 0 0 [(0, .ref p), (1, .int ix)] []
  refine z_iload_n C dX1_shows_0 rfl 1 rfl ?_
  refine z_if_lt C (tgt := 16) dX1_shows_1 (by decide) (fun c1 => ?_) (fun c1 => ?_)
  · refine z_iconst C (v := 0) dX1_shows_16 (by decide) ?_
    refine ret dX1_shows_17 rfl ?_ (by decide) (by decide)
    exact ⟨by simp [z_hi, *], rfl⟩
  · refine z_iload_n C dX1_shows_4 rfl 1 rfl ?_
    refine z_aload_n C dX1_shows_5 rfl 0 rfl ?_
    refine gf_X1_25 C h_p dX1_shows_6 ?_
    refine z_icmp_ge C (tgt := 16) dX1_shows_9 (by decide) (fun c9 => ?_) (fun c9 => ?_)
    · refine z_iconst C (v := 0) dX1_shows_16 (by decide) ?_
      refine ret dX1_shows_17 rfl ?_ (by decide) (by decide)
      exact ⟨by simp [z_hi, *], rfl⟩
    · refine z_iconst C (v := 1) dX1_shows_12 (by decide) ?_
      refine z_goto C (tgt := 17) dX1_shows_13 (by decide) ?_
      refine ret dX1_shows_17 rfl ?_ (by decide) (by decide)
      exact ⟨by simp [z_hi, *], rfl⟩
set_option maxRecDepth 20000 in
theorem c_X1_beginAgain (l : Launch) (G : zG) {M : zM} {p : Nat} {nl : Int32} {ov : Nat} {sa : Int32} {cp : Int32} {po : Int32} {li : Int32} {mk : Int32} {rd : Int32}  (h_p : M p = some (cPn ov sa cp po li mk rd))  : z_Mv l G qX1_beginAgain (z_rm 1 0 0) [.ref p, .int nl] M (fun M' => M' = z_up M p (cPn ov sa cp 0 nl (-1) rd))  := by
  refine z_Mv_of _ (plainFor_of_name rfl) rfl (Nat.le_of_ble_eq_true rfl) (fun X hl hG hnm C ret => ?_)
  subst hl; subst hG
  have C : z_C X cX1_beginAgain RX1 2 (z_rm 1 0 0) := C
  show z_W X M 0 0 0 [(0, .ref p), (1, .int nl)] []
  refine z_aload_n C dX1_beginAgain_0 rfl 0 rfl ?_
  refine z_iconst C (v := 0) dX1_beginAgain_1 (by decide) ?_
  refine pf_X1_28 C h_p dX1_beginAgain_2 ?_
  refine z_aload_n C dX1_beginAgain_5 rfl 0 rfl ?_
  refine z_iload_n C dX1_beginAgain_6 rfl 1 rfl ?_
  refine pg_X1_31 C dX1_beginAgain_7 ?_
  refine z_aload_n C dX1_beginAgain_10 rfl 0 rfl ?_
  refine z_iconst C (v := (-1)) dX1_beginAgain_11 (by decide) ?_
  refine pg_X1_34 C dX1_beginAgain_12 ?_
  exact ret dX1_beginAgain_15 (rfl) (by decide) (by decide)
set_option maxRecDepth 20000 in
theorem c_X1_moveTo (l : Launch) (G : zG) {M : zM} {p : Nat} {pl : Int32} {ov : Nat} {sa : Int32} {cp : Int32} {po : Int32} {li : Int32} {mk : Int32} {rd : Int32}  (h_p : M p = some (cPn ov sa cp po li mk rd))  : z_Mv l G qX1_moveTo (z_rm 1 0 0) [.ref p, .int pl] M (fun M' => ((mk ≤ pl) ∧ M' = z_up M p (cPn ov sa cp pl li mk rd)) ∨ ((¬ mk ≤ pl) ∧ M' = z_up M p (cPn ov sa cp pl li (-1) rd)))  := by
  refine z_Mv_of _ (plainFor_of_name rfl) rfl (Nat.le_of_ble_eq_true rfl) (fun X hl hG hnm C ret => ?_)
  subst hl; subst hG
  have C : z_C X cX1_moveTo RX1 2 (z_rm 1 0 0) := C
  show z_W X M 0 0 0 [(0, .ref p), (1, .int pl)] []
  refine z_aload_n C dX1_moveTo_0 rfl 0 rfl ?_
  refine z_iload_n C dX1_moveTo_1 rfl 1 rfl ?_
  refine pf_X1_28 C h_p dX1_moveTo_2 ?_
  refine z_aload_n C dX1_moveTo_5 rfl 0 rfl ?_
  refine gf_X1_34 C (z_up_s _ _ _) dX1_moveTo_6 ?_
  refine z_iload_n C dX1_moveTo_9 rfl 1 rfl ?_
  refine z_icmp_le C (tgt := 18) dX1_moveTo_10 (by decide) (fun c10 => ?_) (fun c10 => ?_)
  · exact ret dX1_moveTo_18 (Or.inl ⟨c10, rfl⟩) (by decide) (by decide)
  · refine z_aload_n C dX1_moveTo_13 rfl 0 rfl ?_
    refine z_iconst C (v := (-1)) dX1_moveTo_14 (by decide) ?_
    refine pg_X1_34 C dX1_moveTo_15 ?_
    exact ret dX1_moveTo_18 (Or.inr (⟨c10, rfl⟩)) (by decide) (by decide)
set_option maxRecDepth 20000 in
theorem c_X1_endAt (l : Launch) (G : zG) {M : zM} {p : Nat} {pl : Int32} {ov : Nat} {sa : Int32} {cp : Int32} {po : Int32} {li : Int32} {mk : Int32} {rd : Int32}  (h_p : M p = some (cPn ov sa cp po li mk rd))  : z_Mv l G qX1_endAt (z_rm 1 0 0) [.ref p, .int pl] M (fun M' => ((po ≤ pl) ∧ (mk ≤ pl) ∧ M' = z_up M p (cPn ov sa cp po pl mk rd)) ∨ ((po ≤ pl) ∧ (¬ mk ≤ pl) ∧ M' = z_up M p (cPn ov sa cp po pl (-1) rd)) ∨ ((¬ po ≤ pl) ∧ (mk ≤ pl) ∧ M' = z_up M p (cPn ov sa cp pl pl mk rd)) ∨ ((¬ po ≤ pl) ∧ (¬ mk ≤ pl) ∧ M' = z_up M p (cPn ov sa cp pl pl (-1) rd)))  := by
  refine z_Mv_of _ (plainFor_of_name rfl) rfl (Nat.le_of_ble_eq_true rfl) (fun X hl hG hnm C ret => ?_)
  subst hl; subst hG
  have C : z_C X cX1_endAt RX1 2 (z_rm 1 0 0) := C
  show z_W X M 0 0 0 [(0, .ref p), (1, .int pl)] []
  refine z_aload_n C dX1_endAt_0 rfl 0 rfl ?_
  refine z_iload_n C dX1_endAt_1 rfl 1 rfl ?_
  refine pf_X1_31 C h_p dX1_endAt_2 ?_
  refine z_aload_n C dX1_endAt_5 rfl 0 rfl ?_
  refine gf_X1_28 C (z_up_s _ _ _) dX1_endAt_6 ?_
  refine z_iload_n C dX1_endAt_9 rfl 1 rfl ?_
  refine z_icmp_le C (tgt := 18) dX1_endAt_10 (by decide) (fun c10 => ?_) (fun c10 => ?_)
  · refine z_aload_n C dX1_endAt_18 rfl 0 rfl ?_
    refine gf_X1_34 C (z_up_s _ _ _) dX1_endAt_19 ?_
    refine z_iload_n C dX1_endAt_22 rfl 1 rfl ?_
    refine z_icmp_le C (tgt := 31) dX1_endAt_23 (by decide) (fun c23 => ?_) (fun c23 => ?_)
    · exact ret dX1_endAt_31 (Or.inl ⟨c10, c23, rfl⟩) (by decide) (by decide)
    · refine z_aload_n C dX1_endAt_26 rfl 0 rfl ?_
      refine z_iconst C (v := (-1)) dX1_endAt_27 (by decide) ?_
      refine pg_X1_34 C dX1_endAt_28 ?_
      exact ret dX1_endAt_31 (Or.inr (Or.inl ⟨c10, c23, rfl⟩)) (by decide) (by decide)
  · refine z_aload_n C dX1_endAt_13 rfl 0 rfl ?_
    refine z_iload_n C dX1_endAt_14 rfl 1 rfl ?_
    refine pg_X1_28 C dX1_endAt_15 ?_
    refine z_aload_n C dX1_endAt_18 rfl 0 rfl ?_
    refine gf_X1_34 C (z_up_s _ _ _) dX1_endAt_19 ?_
    refine z_iload_n C dX1_endAt_22 rfl 1 rfl ?_
    refine z_icmp_le C (tgt := 31) dX1_endAt_23 (by decide) (fun c23 => ?_) (fun c23 => ?_)
    · exact ret dX1_endAt_31 (Or.inr (Or.inr (Or.inl ⟨c10, c23, rfl⟩))) (by decide) (by decide)
    · refine z_aload_n C dX1_endAt_26 rfl 0 rfl ?_
      refine z_iconst C (v := (-1)) dX1_endAt_27 (by decide) ?_
      refine pg_X1_34 C dX1_endAt_28 ?_
      exact ret dX1_endAt_31 (Or.inr (Or.inr (Or.inr (⟨c10, c23, rfl⟩)))) (by decide) (by decide)
set_option maxRecDepth 20000 in
theorem c_X1_showAll (l : Launch) (G : zG) {M : zM} {p : Nat} {r : Nat} {ov : Nat} {sa : Int32} {cp : Int32} {po : Int32} {li : Int32} {mk : Int32} {rd : Int32} {vs : Nat} {nv : Nat} {fv : Nat → Int32}  (h_p : M p = some (cPn ov sa cp po li mk rd)) (h_r : M r = some (cRw vs)) (h_vs : M vs = some (aI G nv fv))  : z_Mv l G qX1_showAll (z_rm 2 0 0) [.ref p, .ref r] M (fun M' => M' = z_up M p (cPn r 0 (Int32.ofNat nv) 0 (Int32.ofNat nv) (-1) 0))  := by
  refine z_Mv_of _ (plainFor_of_name rfl) rfl (Nat.le_of_ble_eq_true rfl) (fun X hl hG hnm C ret => ?_)
  subst hl; subst hG
  have C : z_C X cX1_showAll RX1 2 (z_rm 2 0 0) := C
  show z_W X M 0 0 0 [(0, .ref p), (1, .ref r)] []
  refine z_aload_n C dX1_showAll_0 rfl 0 rfl ?_
  refine z_aload_n C dX1_showAll_1 rfl 1 rfl ?_
  refine pf_X1_9 C h_p dX1_showAll_2 ?_
  refine z_aload_n C dX1_showAll_5 rfl 0 rfl ?_
  refine z_iconst C (v := 0) dX1_showAll_6 (by decide) ?_
  refine pg_X1_15 C dX1_showAll_7 ?_
  refine z_aload_n C dX1_showAll_10 rfl 0 rfl ?_
  refine z_aload_n C dX1_showAll_11 rfl 1 rfl ?_
  refine z_callVi (rest := [.ref p]) (k' := 0) (n' := 0) C (c_X2_length (z_l X) (z_G X) ((z_up_n _ _ (z_ne h_r h_p (by intro h; cases h))).trans h_r) ((z_up_n _ _ (z_ne h_vs h_p (by intro h; cases h))).trans h_vs)) (cs_X1_19 C (by decide)) ((z_up_n _ _ (z_ne h_r h_p (by intro h; cases h))).trans h_r) rfl rfl rfl rfl (Nat.le_of_ble_eq_true rfl) rfl rfl (by decide) (by decide) dX1_showAll_12 (fun x12 M' hq => ?_)
  obtain ⟨rfl, rfl⟩ := hq
  refine pg_X1_25 C dX1_showAll_15 ?_
  refine z_aload_n C dX1_showAll_18 rfl 0 rfl ?_
  refine z_iconst C (v := 0) dX1_showAll_19 (by decide) ?_
  refine pg_X1_37 C rfl rfl dX1_showAll_20 ?_
  refine z_aload_n C dX1_showAll_23 rfl 0 rfl ?_
  refine z_aload_n C dX1_showAll_24 rfl 0 rfl ?_
  refine gf_X1_25 C (z_up_s _ _ _) dX1_showAll_25 ?_
  refine z_callVv (rest := []) (k' := 0) (n' := 0) C (c_X1_beginAgain (z_l X) (z_G X) (z_up_s _ _ _)) (cs_X1_41 C (by decide)) (z_up_s _ _ _) rfl rfl rfl rfl (Nat.le_of_ble_eq_true rfl) rfl rfl (by decide) (by decide) dX1_showAll_28 (fun M' hq => ?_)
  obtain rfl := hq
  rw [z_up_up]
  exact ret dX1_showAll_31 (rfl) (by decide) (by decide)
set_option maxRecDepth 20000 in
theorem c_X1_becomeTwin (l : Launch) (G : zG) {M : zM} {p : Nat} {o : Nat} {ov : Nat} {sa : Int32} {cp : Int32} {po : Int32} {li : Int32} {mk : Int32} {rd : Int32} {ov2 : Nat} {sa2 : Int32} {cp2 : Int32} {po2 : Int32} {li2 : Int32} {mk2 : Int32} {rd2 : Int32}  (h_p : M p = some (cPn ov sa cp po li mk rd)) (h_o : M o = some (cPn ov2 sa2 cp2 po2 li2 mk2 rd2)) (h_po : p ≠ o) (h_b1 : narrow .boolean (.int rd2) = .int rd2) (h_b2 : fits .boolean (.int rd2) = true) : z_Mv l G qX1_becomeTwin (z_rm 1 0 0) [.ref p, .ref o] M (fun M' => M' = z_up M p (cPn ov2 sa2 cp2 po2 li2 mk2 rd2))  := by
  refine z_Mv_of _ (plainFor_of_name rfl) rfl (Nat.le_of_ble_eq_true rfl) (fun X hl hG hnm C ret => ?_)
  subst hl; subst hG
  have C : z_C X cX1_becomeTwin RX1 2 (z_rm 1 0 0) := C
  show z_W X M 0 0 0 [(0, .ref p), (1, .ref o)] []
  refine z_aload_n C dX1_becomeTwin_0 rfl 0 rfl ?_
  refine z_aload_n C dX1_becomeTwin_1 rfl 1 rfl ?_
  refine gf_X1_9 C h_o dX1_becomeTwin_2 ?_
  refine pf_X1_9 C h_p dX1_becomeTwin_5 ?_
  refine z_aload_n C dX1_becomeTwin_8 rfl 0 rfl ?_
  refine z_aload_n C dX1_becomeTwin_9 rfl 1 rfl ?_
  refine gf_X1_15 C ((z_up_n _ _ (Ne.symm h_po)).trans h_o) dX1_becomeTwin_10 ?_
  refine pg_X1_15 C dX1_becomeTwin_13 ?_
  refine z_aload_n C dX1_becomeTwin_16 rfl 0 rfl ?_
  refine z_aload_n C dX1_becomeTwin_17 rfl 1 rfl ?_
  refine gf_X1_25 C ((z_up_n _ _ (Ne.symm h_po)).trans h_o) dX1_becomeTwin_18 ?_
  refine pg_X1_25 C dX1_becomeTwin_21 ?_
  refine z_aload_n C dX1_becomeTwin_24 rfl 0 rfl ?_
  refine z_aload_n C dX1_becomeTwin_25 rfl 1 rfl ?_
  refine gf_X1_28 C ((z_up_n _ _ (Ne.symm h_po)).trans h_o) dX1_becomeTwin_26 ?_
  refine pg_X1_28 C dX1_becomeTwin_29 ?_
  refine z_aload_n C dX1_becomeTwin_32 rfl 0 rfl ?_
  refine z_aload_n C dX1_becomeTwin_33 rfl 1 rfl ?_
  refine gf_X1_31 C ((z_up_n _ _ (Ne.symm h_po)).trans h_o) dX1_becomeTwin_34 ?_
  refine pg_X1_31 C dX1_becomeTwin_37 ?_
  refine z_aload_n C dX1_becomeTwin_40 rfl 0 rfl ?_
  refine z_aload_n C dX1_becomeTwin_41 rfl 1 rfl ?_
  refine gf_X1_34 C ((z_up_n _ _ (Ne.symm h_po)).trans h_o) dX1_becomeTwin_42 ?_
  refine pg_X1_34 C dX1_becomeTwin_45 ?_
  refine z_aload_n C dX1_becomeTwin_48 rfl 0 rfl ?_
  refine z_aload_n C dX1_becomeTwin_49 rfl 1 rfl ?_
  refine gf_X1_37 C ((z_up_n _ _ (Ne.symm h_po)).trans h_o) dX1_becomeTwin_50 ?_
  refine pg_X1_37 C h_b1 h_b2 dX1_becomeTwin_53 ?_
  exact ret dX1_becomeTwin_56 (rfl) (by decide) (by decide)
set_option maxRecDepth 20000 in
theorem c_X1_becomeTwin_s (l : Launch) (G : zG) {M : zM} {p : Nat} {ov : Nat} {sa : Int32} {cp : Int32} {po : Int32} {li : Int32} {mk : Int32} {rd : Int32}  (h_p : M p = some (cPn ov sa cp po li mk rd)) (h_b1 : narrow .boolean (.int rd) = .int rd) (h_b2 : fits .boolean (.int rd) = true) : z_Mv l G qX1_becomeTwin (z_rm 1 0 0) [.ref p, .ref p] M (fun M' => M' = z_up M p (cPn ov sa cp po li mk rd))  := by
  refine z_Mv_of _ (plainFor_of_name rfl) rfl (Nat.le_of_ble_eq_true rfl) (fun X hl hG hnm C ret => ?_)
  subst hl; subst hG
  have C : z_C X cX1_becomeTwin RX1 2 (z_rm 1 0 0) := C
  show z_W X M 0 0 0 [(0, .ref p), (1, .ref p)] []
  refine z_aload_n C dX1_becomeTwin_0 rfl 0 rfl ?_
  refine z_aload_n C dX1_becomeTwin_1 rfl 1 rfl ?_
  refine gf_X1_9 C h_p dX1_becomeTwin_2 ?_
  refine pf_X1_9 C h_p dX1_becomeTwin_5 ?_
  refine z_aload_n C dX1_becomeTwin_8 rfl 0 rfl ?_
  refine z_aload_n C dX1_becomeTwin_9 rfl 1 rfl ?_
  refine gf_X1_15 C (z_up_s _ _ _) dX1_becomeTwin_10 ?_
  refine pg_X1_15 C dX1_becomeTwin_13 ?_
  refine z_aload_n C dX1_becomeTwin_16 rfl 0 rfl ?_
  refine z_aload_n C dX1_becomeTwin_17 rfl 1 rfl ?_
  refine gf_X1_25 C (z_up_s _ _ _) dX1_becomeTwin_18 ?_
  refine pg_X1_25 C dX1_becomeTwin_21 ?_
  refine z_aload_n C dX1_becomeTwin_24 rfl 0 rfl ?_
  refine z_aload_n C dX1_becomeTwin_25 rfl 1 rfl ?_
  refine gf_X1_28 C (z_up_s _ _ _) dX1_becomeTwin_26 ?_
  refine pg_X1_28 C dX1_becomeTwin_29 ?_
  refine z_aload_n C dX1_becomeTwin_32 rfl 0 rfl ?_
  refine z_aload_n C dX1_becomeTwin_33 rfl 1 rfl ?_
  refine gf_X1_31 C (z_up_s _ _ _) dX1_becomeTwin_34 ?_
  refine pg_X1_31 C dX1_becomeTwin_37 ?_
  refine z_aload_n C dX1_becomeTwin_40 rfl 0 rfl ?_
  refine z_aload_n C dX1_becomeTwin_41 rfl 1 rfl ?_
  refine gf_X1_34 C (z_up_s _ _ _) dX1_becomeTwin_42 ?_
  refine pg_X1_34 C dX1_becomeTwin_45 ?_
  refine z_aload_n C dX1_becomeTwin_48 rfl 0 rfl ?_
  refine z_aload_n C dX1_becomeTwin_49 rfl 1 rfl ?_
  refine gf_X1_37 C (z_up_s _ _ _) dX1_becomeTwin_50 ?_
  refine pg_X1_37 C h_b1 h_b2 dX1_becomeTwin_53 ?_
  exact ret dX1_becomeTwin_56 (rfl) (by decide) (by decide)
set_option maxRecDepth 20000 in
theorem c_X1_becomePart (l : Launch) (G : zG) {M : zM} {p : Nat} {o : Nat} {ix : Int32} {mn : Int32} {ov : Nat} {sa : Int32} {cp : Int32} {po : Int32} {li : Int32} {mk : Int32} {rd : Int32} {ov2 : Nat} {sa2 : Int32} {cp2 : Int32} {po2 : Int32} {li2 : Int32} {mk2 : Int32} {rd2 : Int32}  (h_p : M p = some (cPn ov sa cp po li mk rd)) (h_o : M o = some (cPn ov2 sa2 cp2 po2 li2 mk2 rd2)) (h_po : p ≠ o) (h_b1 : narrow .boolean (.int rd2) = .int rd2) (h_b2 : fits .boolean (.int rd2) = true) : z_Mv l G qX1_becomePart (z_rm 2 0 0) [.ref p, .ref o, .int ix, .int mn] M (fun M' => M' = z_up M p (cPn ov2 (sa2 + ix) mn 0 mn (-1) rd2))  := by
  refine z_Mv_of _ (plainFor_of_name rfl) rfl (Nat.le_of_ble_eq_true rfl) (fun X hl hG hnm C ret => ?_)
  subst hl; subst hG
  have C : z_C X cX1_becomePart RX1 4 (z_rm 2 0 0) := C
  show z_W X M 0 0 0 [(0, .ref p), (1, .ref o), (2, .int ix), (3, .int mn)] []
  refine z_aload_n C dX1_becomePart_0 rfl 0 rfl ?_
  refine z_aload_n C dX1_becomePart_1 rfl 1 rfl ?_
  refine gf_X1_9 C h_o dX1_becomePart_2 ?_
  refine pf_X1_9 C h_p dX1_becomePart_5 ?_
  refine z_aload_n C dX1_becomePart_8 rfl 0 rfl ?_
  refine z_aload_n C dX1_becomePart_9 rfl 1 rfl ?_
  refine gf_X1_15 C ((z_up_n _ _ (Ne.symm h_po)).trans h_o) dX1_becomePart_10 ?_
  refine z_iload_n C dX1_becomePart_13 rfl 2 rfl ?_
  refine z_iadd C dX1_becomePart_14 ?_
  refine pg_X1_15 C dX1_becomePart_15 ?_
  refine z_aload_n C dX1_becomePart_18 rfl 0 rfl ?_
  refine z_iload_n C dX1_becomePart_19 rfl 3 rfl ?_
  refine pg_X1_25 C dX1_becomePart_20 ?_
  refine z_aload_n C dX1_becomePart_23 rfl 0 rfl ?_
  refine z_aload_n C dX1_becomePart_24 rfl 1 rfl ?_
  refine gf_X1_37 C ((z_up_n _ _ (Ne.symm h_po)).trans h_o) dX1_becomePart_25 ?_
  refine pg_X1_37 C h_b1 h_b2 dX1_becomePart_28 ?_
  refine z_aload_n C dX1_becomePart_31 rfl 0 rfl ?_
  refine z_iload_n C dX1_becomePart_32 rfl 3 rfl ?_
  refine z_callVv (rest := []) (k' := 0) (n' := 0) C (c_X1_beginAgain (z_l X) (z_G X) (z_up_s _ _ _)) (cs_X1_41 C (by decide)) (z_up_s _ _ _) rfl rfl rfl rfl (Nat.le_of_ble_eq_true rfl) rfl rfl (by decide) (by decide) dX1_becomePart_33 (fun M' hq => ?_)
  obtain rfl := hq
  rw [z_up_up]
  exact ret dX1_becomePart_36 (rfl) (by decide) (by decide)
set_option maxRecDepth 20000 in
theorem c_X1_becomePart_s (l : Launch) (G : zG) {M : zM} {p : Nat} {ix : Int32} {mn : Int32} {ov : Nat} {sa : Int32} {cp : Int32} {po : Int32} {li : Int32} {mk : Int32} {rd : Int32}  (h_p : M p = some (cPn ov sa cp po li mk rd)) (h_b1 : narrow .boolean (.int rd) = .int rd) (h_b2 : fits .boolean (.int rd) = true) : z_Mv l G qX1_becomePart (z_rm 2 0 0) [.ref p, .ref p, .int ix, .int mn] M (fun M' => M' = z_up M p (cPn ov (sa + ix) mn 0 mn (-1) rd))  := by
  refine z_Mv_of _ (plainFor_of_name rfl) rfl (Nat.le_of_ble_eq_true rfl) (fun X hl hG hnm C ret => ?_)
  subst hl; subst hG
  have C : z_C X cX1_becomePart RX1 4 (z_rm 2 0 0) := C
  show z_W X M 0 0 0 [(0, .ref p), (1, .ref p), (2, .int ix), (3, .int mn)] []
  refine z_aload_n C dX1_becomePart_0 rfl 0 rfl ?_
  refine z_aload_n C dX1_becomePart_1 rfl 1 rfl ?_
  refine gf_X1_9 C h_p dX1_becomePart_2 ?_
  refine pf_X1_9 C h_p dX1_becomePart_5 ?_
  refine z_aload_n C dX1_becomePart_8 rfl 0 rfl ?_
  refine z_aload_n C dX1_becomePart_9 rfl 1 rfl ?_
  refine gf_X1_15 C (z_up_s _ _ _) dX1_becomePart_10 ?_
  refine z_iload_n C dX1_becomePart_13 rfl 2 rfl ?_
  refine z_iadd C dX1_becomePart_14 ?_
  refine pg_X1_15 C dX1_becomePart_15 ?_
  refine z_aload_n C dX1_becomePart_18 rfl 0 rfl ?_
  refine z_iload_n C dX1_becomePart_19 rfl 3 rfl ?_
  refine pg_X1_25 C dX1_becomePart_20 ?_
  refine z_aload_n C dX1_becomePart_23 rfl 0 rfl ?_
  refine z_aload_n C dX1_becomePart_24 rfl 1 rfl ?_
  refine gf_X1_37 C (z_up_s _ _ _) dX1_becomePart_25 ?_
  refine pg_X1_37 C h_b1 h_b2 dX1_becomePart_28 ?_
  refine z_aload_n C dX1_becomePart_31 rfl 0 rfl ?_
  refine z_iload_n C dX1_becomePart_32 rfl 3 rfl ?_
  refine z_callVv (rest := []) (k' := 0) (n' := 0) C (c_X1_beginAgain (z_l X) (z_G X) (z_up_s _ _ _)) (cs_X1_41 C (by decide)) (z_up_s _ _ _) rfl rfl rfl rfl (Nat.le_of_ble_eq_true rfl) rfl rfl (by decide) (by decide) dX1_becomePart_33 (fun M' hq => ?_)
  obtain rfl := hq
  rw [z_up_up]
  exact ret dX1_becomePart_36 (rfl) (by decide) (by decide)
set_option maxRecDepth 20000 in
theorem c_X1_valueAt (l : Launch) (G : zG) {M : zM} {p : Nat} {ix : Int32} {ov : Nat} {sa : Int32} {cp : Int32} {po : Int32} {li : Int32} {mk : Int32} {rd : Int32} {vs : Nat} {nv : Nat} {fv : Nat → Int32}  (h_p : M p = some (cPn ov sa cp po li mk rd)) (h_ov : M ov = some (cRw vs)) (h_vs : M vs = some (aI G nv fv)) (h_pl : vp_in (sa + ix) nv) (h_nv : nv < 100000) : z_Mi l G qX1_valueAt (z_rm 3 0 0) [.ref p, .int ix] M (fun r M' => r = fv (sa + ix).toNatClampNeg ∧ M' = M)  := by
  refine z_Mi_of _ (plainFor_of_name rfl) rfl (Nat.le_of_ble_eq_true rfl) (fun X hl hG hnm C ret => ?_)
  subst hl; subst hG
  have C : z_C X cX1_valueAt RX1 2 (z_rm 3 0 0) := C
  show z_W X M 0 0 0 [(0, .ref p), (1, .int ix)] []
  refine z_aload_n C dX1_valueAt_0 rfl 0 rfl ?_
  refine gf_X1_9 C h_p dX1_valueAt_1 ?_
  refine z_aload_n C dX1_valueAt_4 rfl 0 rfl ?_
  refine gf_X1_15 C h_p dX1_valueAt_5 ?_
  refine z_iload_n C dX1_valueAt_8 rfl 1 rfl ?_
  refine z_iadd C dX1_valueAt_9 ?_
  refine z_callVi (rest := []) (k' := 0) (n' := 0) C (c_X2_valueAt (z_l X) (z_G X) h_ov h_vs h_pl h_nv) (cs_X1_45 C (by decide)) h_ov rfl rfl rfl rfl (Nat.le_of_ble_eq_true rfl) rfl rfl (by decide) (by decide) dX1_valueAt_10 (fun x10 M' hq => ?_)
  obtain ⟨rfl, rfl⟩ := hq
  exact ret dX1_valueAt_13 rfl (⟨rfl, rfl⟩) (by decide) (by decide)
set_option maxRecDepth 20000 in
theorem c_X1_replace (l : Launch) (G : zG) {M : zM} {p : Nat} {ix : Int32} {v : Int32} {ov : Nat} {sa : Int32} {cp : Int32} {po : Int32} {li : Int32} {mk : Int32} {rd : Int32} {vs : Nat} {nv : Nat} {fv : Nat → Int32}  (h_p : M p = some (cPn ov sa cp po li mk rd)) (h_ov : M ov = some (cRw vs)) (h_vs : M vs = some (aI G nv fv)) (h_pl : vp_in (sa + ix) nv) (h_nv : nv < 100000) : z_Mi l G qX1_replace (z_rm 3 0 0) [.ref p, .int ix, .int v] M (fun r M' => r = fv (sa + ix).toNatClampNeg ∧ M' = z_up M vs (aI G nv (upd fv (sa + ix).toNatClampNeg v)))  := by
  refine z_Mi_of _ (plainFor_of_name rfl) rfl (Nat.le_of_ble_eq_true rfl) (fun X hl hG hnm C ret => ?_)
  subst hl; subst hG
  have C : z_C X cX1_replace RX1 3 (z_rm 3 0 0) := C
  show z_W X M 0 0 0 [(0, .ref p), (1, .int ix), (2, .int v)] []
  refine z_aload_n C dX1_replace_0 rfl 0 rfl ?_
  refine gf_X1_9 C h_p dX1_replace_1 ?_
  refine z_aload_n C dX1_replace_4 rfl 0 rfl ?_
  refine gf_X1_15 C h_p dX1_replace_5 ?_
  refine z_iload_n C dX1_replace_8 rfl 1 rfl ?_
  refine z_iadd C dX1_replace_9 ?_
  refine z_iload_n C dX1_replace_10 rfl 2 rfl ?_
  refine z_callVi (rest := []) (k' := 0) (n' := 0) C (c_X2_exchangeAt (z_l X) (z_G X) h_ov h_vs h_pl h_nv) (cs_X1_49 C (by decide)) h_ov rfl rfl rfl rfl (Nat.le_of_ble_eq_true rfl) rfl rfl (by decide) (by decide) dX1_replace_11 (fun x11 M' hq => ?_)
  obtain ⟨rfl, rfl⟩ := hq
  exact ret dX1_replace_14 rfl (⟨rfl, rfl⟩) (by decide) (by decide)
set_option maxRecDepth 20000 in
theorem c_X1_takeNext (l : Launch) (G : zG) {M : zM} {p : Nat} {ov : Nat} {sa : Int32} {cp : Int32} {po : Int32} {li : Int32} {mk : Int32} {rd : Int32} {vs : Nat} {nv : Nat} {fv : Nat → Int32}  (h_p : M p = some (cPn ov sa cp po li mk rd)) (h_ov : M ov = some (cRw vs)) (h_vs : M vs = some (aI G nv fv)) (h_pl : vp_in (sa + po) nv) (h_nv : nv < 100000) : z_Mi l G qX1_takeNext (z_rm 4 0 0) [.ref p] M (fun r M' => r = fv (sa + po).toNatClampNeg ∧ M' = z_up M p (cPn ov sa cp (po + 1) li mk rd))  := by
  refine z_Mi_of _ (plainFor_of_name rfl) rfl (Nat.le_of_ble_eq_true rfl) (fun X hl hG hnm C ret => ?_)
  subst hl; subst hG
  have C : z_C X cX1_takeNext RX1 2 (z_rm 4 0 0) := C
  show z_W X M 0 0 0 [(0, .ref p)] []
  refine z_aload_n C dX1_takeNext_0 rfl 0 rfl ?_
  refine z_aload_n C dX1_takeNext_1 rfl 0 rfl ?_
  refine gf_X1_28 C h_p dX1_takeNext_2 ?_
  refine z_callVi (rest := []) (k' := 0) (n' := 0) C (c_X1_valueAt (z_l X) (z_G X) h_p h_ov h_vs h_pl h_nv) (cs_X1_53 C (by decide)) h_p rfl rfl rfl rfl (Nat.le_of_ble_eq_true rfl) rfl rfl (by decide) (by decide) dX1_takeNext_5 (fun x5 M' hq => ?_)
  obtain ⟨rfl, rfl⟩ := hq
  refine z_istore_n (lv' := [(1, .int (fv (sa + po).toNatClampNeg)), (0, .ref p)]) C dX1_takeNext_8 rfl (by decide) rfl ?_
  refine z_aload_n C dX1_takeNext_9 rfl 1 rfl ?_
  refine z_dup C dX1_takeNext_10 rfl ?_
  refine gf_X1_28 C h_p dX1_takeNext_11 ?_
  refine z_iconst C (v := 1) dX1_takeNext_14 (by decide) ?_
  refine z_iadd C dX1_takeNext_15 ?_
  refine pf_X1_28 C h_p dX1_takeNext_16 ?_
  refine z_iload_n C dX1_takeNext_19 rfl 0 rfl ?_
  exact ret dX1_takeNext_20 rfl (⟨rfl, rfl⟩) (by decide) (by decide)
set_option maxRecDepth 20000 in
theorem c_X1_putNext (l : Launch) (G : zG) {M : zM} {p : Nat} {v : Int32} {ov : Nat} {sa : Int32} {cp : Int32} {po : Int32} {li : Int32} {mk : Int32} {rd : Int32} {vs : Nat} {nv : Nat} {fv : Nat → Int32}  (h_p : M p = some (cPn ov sa cp po li mk rd)) (h_ov : M ov = some (cRw vs)) (h_vs : M vs = some (aI G nv fv)) (h_pl : vp_in (sa + po) nv) (h_nv : nv < 100000) : z_Mv l G qX1_putNext (z_rm 4 0 0) [.ref p, .int v] M (fun M' => M' = z_up (z_up M vs (aI G nv (upd fv (sa + po).toNatClampNeg v))) p (cPn ov sa cp (po + 1) li mk rd))  := by
  refine z_Mv_of _ (plainFor_of_name rfl) rfl (Nat.le_of_ble_eq_true rfl) (fun X hl hG hnm C ret => ?_)
  subst hl; subst hG
  have C : z_C X cX1_putNext RX1 2 (z_rm 4 0 0) := C
  show z_W X M 0 0 0 [(0, .ref p), (1, .int v)] []
  refine z_aload_n C dX1_putNext_0 rfl 0 rfl ?_
  refine z_aload_n C dX1_putNext_1 rfl 0 rfl ?_
  refine gf_X1_28 C h_p dX1_putNext_2 ?_
  refine z_iload_n C dX1_putNext_5 rfl 1 rfl ?_
  refine z_callVi (rest := []) (k' := 0) (n' := 0) C (c_X1_replace (z_l X) (z_G X) h_p h_ov h_vs h_pl h_nv) (cs_X1_54 C (by decide)) h_p rfl rfl rfl rfl (Nat.le_of_ble_eq_true rfl) rfl rfl (by decide) (by decide) dX1_putNext_6 (fun x6 M' hq => ?_)
  obtain ⟨rfl, rfl⟩ := hq
  refine z_pop C dX1_putNext_9 rfl ?_
  refine z_aload_n C dX1_putNext_10 rfl 0 rfl ?_
  refine z_dup C dX1_putNext_11 rfl ?_
  refine gf_X1_28 C ((z_up_n _ _ (z_ne h_p h_vs (by intro h; cases h))).trans h_p) dX1_putNext_12 ?_
  refine z_iconst C (v := 1) dX1_putNext_15 (by decide) ?_
  refine z_iadd C dX1_putNext_16 ?_
  refine pf_X1_28 C ((z_up_n _ _ (z_ne h_p h_vs (by intro h; cases h))).trans h_p) dX1_putNext_17 ?_
  exact ret dX1_putNext_20 (rfl) (by decide) (by decide)
set_option maxRecDepth 20000 in
theorem c_X1_numberOf (l : Launch) (G : zG) {M : zM} {p : Nat} {wh : Int32} {ov : Nat} {sa : Int32} {cp : Int32} {po : Int32} {li : Int32} {mk : Int32} {rd : Int32}  (h_p : M p = some (cPn ov sa cp po li mk rd))  : z_Mi l G qX1_numberOf (z_rm 2 0 0) [.ref p, .int wh] M (fun r M' => ((wh = 0) ∧ r = po ∧ M' = M) ∨ ((wh = 1) ∧ r = li ∧ M' = M) ∨ ((wh = 2) ∧ r = cp ∧ M' = M) ∨ ((wh = 3) ∧ r = li - po ∧ M' = M) ∨ ((wh = 4) ∧ r = mk ∧ M' = M) ∨ ((wh = 5) ∧ (rd = 0) ∧ r = sa ∧ M' = M) ∨ ((wh = 5) ∧ (¬ rd = 0) ∧ r = (-9) ∧ M' = M) ∨ ((wh = 6) ∧ ((li - po) ≤ 0) ∧ r = 0 ∧ M' = M) ∨ ((wh = 6) ∧ (¬ (li - po) ≤ 0) ∧ r = 1 ∧ M' = M) ∨ ((wh = 7) ∧ (rd = 0) ∧ r = 0 ∧ M' = M) ∨ ((wh = 7) ∧ (¬ rd = 0) ∧ r = 1 ∧ M' = M) ∨ ((wh = 8) ∧ (rd = 0) ∧ r = 1 ∧ M' = M) ∨ ((wh = 8) ∧ (¬ rd = 0) ∧ r = 0 ∧ M' = M) ∨ ((¬ wh = 0 ∧ ¬ wh = 1 ∧ ¬ wh = 2 ∧ ¬ wh = 3 ∧ ¬ wh = 4 ∧ ¬ wh = 5 ∧ ¬ wh = 6 ∧ ¬ wh = 7 ∧ ¬ wh = 8) ∧ r = cp - li ∧ M' = M))  := by
  refine z_Mi_of _ (plainFor_of_name rfl) rfl (Nat.le_of_ble_eq_true rfl) (fun X hl hG hnm C ret => ?_)
  subst hl; subst hG
  have C : z_C X cX1_numberOf RX1 2 (z_rm 2 0 0) := C
  show z_W X M 0 0 0 [(0, .ref p), (1, .int wh)] []
  refine z_iload_n C dX1_numberOf_0 rfl 1 rfl ?_
  refine z_swi (fun x1 e1 => ?_)
  by_cases c1_0 : x1 = 0
  · refine z_tin C (v := 0) (tgt := 52) dX1_numberOf_1 c1_0 (by decide) (by decide) (by decide) (by decide) ?_
    refine z_aload_n C dX1_numberOf_52 rfl 0 rfl ?_
    refine gf_X1_28 C h_p dX1_numberOf_53 ?_
    exact ret dX1_numberOf_56 rfl (Or.inl ⟨(z_swe e1 c1_0), rfl, rfl⟩) (by decide) (by decide)
  by_cases c1_1 : x1 = 1
  · refine z_tin C (v := 1) (tgt := 57) dX1_numberOf_1 c1_1 (by decide) (by decide) (by decide) (by decide) ?_
    refine z_aload_n C dX1_numberOf_57 rfl 0 rfl ?_
    refine gf_X1_31 C h_p dX1_numberOf_58 ?_
    exact ret dX1_numberOf_61 rfl (Or.inr (Or.inl ⟨(z_swe e1 c1_1), rfl, rfl⟩)) (by decide) (by decide)
  by_cases c1_2 : x1 = 2
  · refine z_tin C (v := 2) (tgt := 62) dX1_numberOf_1 c1_2 (by decide) (by decide) (by decide) (by decide) ?_
    refine z_aload_n C dX1_numberOf_62 rfl 0 rfl ?_
    refine gf_X1_25 C h_p dX1_numberOf_63 ?_
    exact ret dX1_numberOf_66 rfl (Or.inr (Or.inr (Or.inl ⟨(z_swe e1 c1_2), rfl, rfl⟩))) (by decide) (by decide)
  by_cases c1_3 : x1 = 3
  · refine z_tin C (v := 3) (tgt := 67) dX1_numberOf_1 c1_3 (by decide) (by decide) (by decide) (by decide) ?_
    refine z_aload_n C dX1_numberOf_67 rfl 0 rfl ?_
    refine z_callVi (rest := []) (k' := 0) (n' := 0) C (c_X1_left (z_l X) (z_G X) h_p) (cs_X1_57 C (by decide)) h_p rfl rfl rfl rfl (Nat.le_of_ble_eq_true rfl) rfl rfl (by decide) (by decide) dX1_numberOf_68 (fun x68 M' hq => ?_)
    obtain ⟨rfl, rfl⟩ := hq
    exact ret dX1_numberOf_71 rfl (Or.inr (Or.inr (Or.inr (Or.inl ⟨(z_swe e1 c1_3), rfl, rfl⟩)))) (by decide) (by decide)
  by_cases c1_4 : x1 = 4
  · refine z_tin C (v := 4) (tgt := 72) dX1_numberOf_1 c1_4 (by decide) (by decide) (by decide) (by decide) ?_
    refine z_aload_n C dX1_numberOf_72 rfl 0 rfl ?_
    refine gf_X1_34 C h_p dX1_numberOf_73 ?_
    exact ret dX1_numberOf_76 rfl (Or.inr (Or.inr (Or.inr (Or.inr (Or.inl ⟨(z_swe e1 c1_4), rfl, rfl⟩))))) (by decide) (by decide)
  by_cases c1_5 : x1 = 5
  · refine z_tin C (v := 5) (tgt := 77) dX1_numberOf_1 c1_5 (by decide) (by decide) (by decide) (by decide) ?_
    refine z_aload_n C dX1_numberOf_77 rfl 0 rfl ?_
    refine gf_X1_37 C h_p dX1_numberOf_78 ?_
    refine z_if_eq C (tgt := 89) dX1_numberOf_81 (by decide) (fun c81 => ?_) (fun c81 => ?_)
    · refine z_aload_n C dX1_numberOf_89 rfl 0 rfl ?_
      refine gf_X1_15 C h_p dX1_numberOf_90 ?_
      exact ret dX1_numberOf_93 rfl (Or.inr (Or.inr (Or.inr (Or.inr (Or.inr (Or.inl ⟨(z_swe e1 c1_5), c81, rfl, rfl⟩)))))) (by decide) (by decide)
    · refine z_bipush C (v := (-9)) dX1_numberOf_84 (by decide) ?_
      refine z_goto C (tgt := 93) dX1_numberOf_86 (by decide) ?_
      exact ret dX1_numberOf_93 rfl (Or.inr (Or.inr (Or.inr (Or.inr (Or.inr (Or.inr (Or.inl ⟨(z_swe e1 c1_5), c81, rfl, rfl⟩))))))) (by decide) (by decide)
  by_cases c1_6 : x1 = 6
  · refine z_tin C (v := 6) (tgt := 94) dX1_numberOf_1 c1_6 (by decide) (by decide) (by decide) (by decide) ?_
    refine z_aload_n C dX1_numberOf_94 rfl 0 rfl ?_
    refine z_callVi (rest := []) (k' := 0) (n' := 0) C (c_X1_left (z_l X) (z_G X) h_p) (cs_X1_57 C (by decide)) h_p rfl rfl rfl rfl (Nat.le_of_ble_eq_true rfl) rfl rfl (by decide) (by decide) dX1_numberOf_95 (fun x95 M' hq => ?_)
    obtain ⟨rfl, rfl⟩ := hq
    refine z_if_le C (tgt := 105) dX1_numberOf_98 (by decide) (fun c98 => ?_) (fun c98 => ?_)
    · refine z_iconst C (v := 0) dX1_numberOf_105 (by decide) ?_
      exact ret dX1_numberOf_106 rfl (Or.inr (Or.inr (Or.inr (Or.inr (Or.inr (Or.inr (Or.inr (Or.inl ⟨(z_swe e1 c1_6), c98, rfl, rfl⟩)))))))) (by decide) (by decide)
    · refine z_iconst C (v := 1) dX1_numberOf_101 (by decide) ?_
      refine z_goto C (tgt := 106) dX1_numberOf_102 (by decide) ?_
      exact ret dX1_numberOf_106 rfl (Or.inr (Or.inr (Or.inr (Or.inr (Or.inr (Or.inr (Or.inr (Or.inr (Or.inl ⟨(z_swe e1 c1_6), c98, rfl, rfl⟩))))))))) (by decide) (by decide)
  by_cases c1_7 : x1 = 7
  · refine z_tin C (v := 7) (tgt := 107) dX1_numberOf_1 c1_7 (by decide) (by decide) (by decide) (by decide) ?_
    refine z_aload_n C dX1_numberOf_107 rfl 0 rfl ?_
    refine gf_X1_37 C h_p dX1_numberOf_108 ?_
    refine z_if_eq C (tgt := 118) dX1_numberOf_111 (by decide) (fun c111 => ?_) (fun c111 => ?_)
    · refine z_iconst C (v := 0) dX1_numberOf_118 (by decide) ?_
      exact ret dX1_numberOf_119 rfl (Or.inr (Or.inr (Or.inr (Or.inr (Or.inr (Or.inr (Or.inr (Or.inr (Or.inr (Or.inl ⟨(z_swe e1 c1_7), c111, rfl, rfl⟩)))))))))) (by decide) (by decide)
    · refine z_iconst C (v := 1) dX1_numberOf_114 (by decide) ?_
      refine z_goto C (tgt := 119) dX1_numberOf_115 (by decide) ?_
      exact ret dX1_numberOf_119 rfl (Or.inr (Or.inr (Or.inr (Or.inr (Or.inr (Or.inr (Or.inr (Or.inr (Or.inr (Or.inr (Or.inl ⟨(z_swe e1 c1_7), c111, rfl, rfl⟩))))))))))) (by decide) (by decide)
  by_cases c1_8 : x1 = 8
  · refine z_tin C (v := 8) (tgt := 120) dX1_numberOf_1 c1_8 (by decide) (by decide) (by decide) (by decide) ?_
    refine z_aload_n C dX1_numberOf_120 rfl 0 rfl ?_
    refine gf_X1_37 C h_p dX1_numberOf_121 ?_
    refine z_if_eq C (tgt := 131) dX1_numberOf_124 (by decide) (fun c124 => ?_) (fun c124 => ?_)
    · refine z_iconst C (v := 1) dX1_numberOf_131 (by decide) ?_
      exact ret dX1_numberOf_132 rfl (Or.inr (Or.inr (Or.inr (Or.inr (Or.inr (Or.inr (Or.inr (Or.inr (Or.inr (Or.inr (Or.inr (Or.inl ⟨(z_swe e1 c1_8), c124, rfl, rfl⟩)))))))))))) (by decide) (by decide)
    · refine z_iconst C (v := 0) dX1_numberOf_127 (by decide) ?_
      refine z_goto C (tgt := 132) dX1_numberOf_128 (by decide) ?_
      exact ret dX1_numberOf_132 rfl (Or.inr (Or.inr (Or.inr (Or.inr (Or.inr (Or.inr (Or.inr (Or.inr (Or.inr (Or.inr (Or.inr (Or.inr (Or.inl ⟨(z_swe e1 c1_8), c124, rfl, rfl⟩))))))))))))) (by decide) (by decide)
  refine z_tout C (tgt := 133) dX1_numberOf_1 (z_ou9 c1_0 c1_1 c1_2 c1_3 c1_4 c1_5 c1_6 c1_7 c1_8) (by decide) ?_
  have g1_0 : ¬ wh = 0 := fun q => c1_0 (e1.trans q)
  have g1_1 : ¬ wh = 1 := fun q => c1_1 (e1.trans q)
  have g1_2 : ¬ wh = 2 := fun q => c1_2 (e1.trans q)
  have g1_3 : ¬ wh = 3 := fun q => c1_3 (e1.trans q)
  have g1_4 : ¬ wh = 4 := fun q => c1_4 (e1.trans q)
  have g1_5 : ¬ wh = 5 := fun q => c1_5 (e1.trans q)
  have g1_6 : ¬ wh = 6 := fun q => c1_6 (e1.trans q)
  have g1_7 : ¬ wh = 7 := fun q => c1_7 (e1.trans q)
  have g1_8 : ¬ wh = 8 := fun q => c1_8 (e1.trans q)
  refine z_aload_n C dX1_numberOf_133 rfl 0 rfl ?_
  refine gf_X1_25 C h_p dX1_numberOf_134 ?_
  refine z_aload_n C dX1_numberOf_137 rfl 0 rfl ?_
  refine gf_X1_31 C h_p dX1_numberOf_138 ?_
  refine z_isub C dX1_numberOf_141 ?_
  exact ret dX1_numberOf_142 rfl (Or.inr (Or.inr (Or.inr (Or.inr (Or.inr (Or.inr (Or.inr (Or.inr (Or.inr (Or.inr (Or.inr (Or.inr (Or.inr (⟨⟨g1_0, g1_1, g1_2, g1_3, g1_4, g1_5, g1_6, g1_7, g1_8⟩, rfl, rfl⟩)))))))))))))) (by decide) (by decide)
set_option maxRecDepth 20000 in
theorem c_X1_isInOrder (l : Launch) (G : zG) {M : zM} {p : Nat} {ov : Nat} {sa : Int32} {cp : Int32} {po : Int32} {li : Int32} {mk : Int32} {rd : Int32}  (h_p : M p = some (cPn ov sa cp po li mk rd))  : z_Mi l G qX1_isInOrder (z_rm 2 0 0) [.ref p] M (fun r M' => (((z_hm mk) = 0) ∧ (po < 0) ∧ r = 0 ∧ M' = M) ∨ (((z_hm mk) = 0) ∧ (¬ po < 0) ∧ (li < po) ∧ r = 0 ∧ M' = M) ∨ (((z_hm mk) = 0) ∧ (¬ po < 0) ∧ (¬ li < po) ∧ (cp < li) ∧ r = 0 ∧ M' = M) ∨ (((z_hm mk) = 0) ∧ (¬ po < 0) ∧ (¬ li < po) ∧ (¬ cp < li) ∧ (¬ (li - po) = (li - po)) ∧ r = 0 ∧ M' = M) ∨ (((z_hm mk) = 0) ∧ (¬ po < 0) ∧ (¬ li < po) ∧ (¬ cp < li) ∧ ((li - po) = (li - po)) ∧ r = 1 ∧ M' = M) ∨ ((¬ (z_hm mk) = 0) ∧ (mk < 0) ∧ r = 0 ∧ M' = M) ∨ ((¬ (z_hm mk) = 0) ∧ (¬ mk < 0) ∧ (mk ≤ po) ∧ (po < 0) ∧ r = 0 ∧ M' = M) ∨ ((¬ (z_hm mk) = 0) ∧ (¬ mk < 0) ∧ (mk ≤ po) ∧ (¬ po < 0) ∧ (li < po) ∧ r = 0 ∧ M' = M) ∨ ((¬ (z_hm mk) = 0) ∧ (¬ mk < 0) ∧ (mk ≤ po) ∧ (¬ po < 0) ∧ (¬ li < po) ∧ (cp < li) ∧ r = 0 ∧ M' = M) ∨ ((¬ (z_hm mk) = 0) ∧ (¬ mk < 0) ∧ (mk ≤ po) ∧ (¬ po < 0) ∧ (¬ li < po) ∧ (¬ cp < li) ∧ (¬ (li - po) = (li - po)) ∧ r = 0 ∧ M' = M) ∨ ((¬ (z_hm mk) = 0) ∧ (¬ mk < 0) ∧ (mk ≤ po) ∧ (¬ po < 0) ∧ (¬ li < po) ∧ (¬ cp < li) ∧ ((li - po) = (li - po)) ∧ r = 1 ∧ M' = M) ∨ ((¬ (z_hm mk) = 0) ∧ (¬ mk < 0) ∧ (¬ mk ≤ po) ∧ r = 0 ∧ M' = M))  := by
  refine z_Mi_of _ (plainFor_of_name rfl) rfl (Nat.le_of_ble_eq_true rfl) (fun X hl hG hnm C ret => ?_)
  subst hl; subst hG
  have C : z_C X cX1_isInOrder RX1 1 (z_rm 2 0 0) := C
  show z_W X M 0 0 0 [(0, .ref p)] []
  refine z_aload_n C dX1_isInOrder_0 rfl 0 rfl ?_
  refine z_callVi (rest := []) (k' := 0) (n' := 0) C (c_X1_hasMark (z_l X) (z_G X) h_p) (cs_X1_60 C (by decide)) h_p rfl rfl rfl rfl (Nat.le_of_ble_eq_true rfl) rfl rfl (by decide) (by decide) dX1_isInOrder_1 (fun x1 M' hq => ?_)
  obtain ⟨rfl, rfl⟩ := hq
  refine z_if_eq C (tgt := 27) dX1_isInOrder_4 (by decide) (fun c4 => ?_) (fun c4 => ?_)
  · refine z_aload_n C dX1_isInOrder_27 rfl 0 rfl ?_
    refine gf_X1_28 C h_p dX1_isInOrder_28 ?_
    refine z_if_lt C (tgt := 76) dX1_isInOrder_31 (by decide) (fun c31 => ?_) (fun c31 => ?_)
    · refine z_iconst C (v := 0) dX1_isInOrder_76 (by decide) ?_
      exact ret dX1_isInOrder_77 rfl (Or.inl ⟨c4, c31, rfl, rfl⟩) (by decide) (by decide)
    · refine z_aload_n C dX1_isInOrder_34 rfl 0 rfl ?_
      refine gf_X1_28 C h_p dX1_isInOrder_35 ?_
      refine z_aload_n C dX1_isInOrder_38 rfl 0 rfl ?_
      refine gf_X1_31 C h_p dX1_isInOrder_39 ?_
      refine z_icmp_gt C (tgt := 76) dX1_isInOrder_42 (by decide) (fun c42 => ?_) (fun c42 => ?_)
      · refine z_iconst C (v := 0) dX1_isInOrder_76 (by decide) ?_
        exact ret dX1_isInOrder_77 rfl (Or.inr (Or.inl ⟨c4, c31, c42, rfl, rfl⟩)) (by decide) (by decide)
      · refine z_aload_n C dX1_isInOrder_45 rfl 0 rfl ?_
        refine gf_X1_31 C h_p dX1_isInOrder_46 ?_
        refine z_aload_n C dX1_isInOrder_49 rfl 0 rfl ?_
        refine gf_X1_25 C h_p dX1_isInOrder_50 ?_
        refine z_icmp_gt C (tgt := 76) dX1_isInOrder_53 (by decide) (fun c53 => ?_) (fun c53 => ?_)
        · refine z_iconst C (v := 0) dX1_isInOrder_76 (by decide) ?_
          exact ret dX1_isInOrder_77 rfl (Or.inr (Or.inr (Or.inl ⟨c4, c31, c42, c53, rfl, rfl⟩))) (by decide) (by decide)
        · refine z_aload_n C dX1_isInOrder_56 rfl 0 rfl ?_
          refine z_callVi (rest := []) (k' := 0) (n' := 0) C (c_X1_left (z_l X) (z_G X) h_p) (cs_X1_57 C (by decide)) h_p rfl rfl rfl rfl (Nat.le_of_ble_eq_true rfl) rfl rfl (by decide) (by decide) dX1_isInOrder_57 (fun x57 M' hq => ?_)
          obtain ⟨rfl, rfl⟩ := hq
          refine z_aload_n C dX1_isInOrder_60 rfl 0 rfl ?_
          refine gf_X1_31 C h_p dX1_isInOrder_61 ?_
          refine z_aload_n C dX1_isInOrder_64 rfl 0 rfl ?_
          refine gf_X1_28 C h_p dX1_isInOrder_65 ?_
          refine z_isub C dX1_isInOrder_68 ?_
          refine z_icmp_ne C (tgt := 76) dX1_isInOrder_69 (by decide) (fun c69 => ?_) (fun c69 => ?_)
          · refine z_iconst C (v := 0) dX1_isInOrder_76 (by decide) ?_
            exact ret dX1_isInOrder_77 rfl (Or.inr (Or.inr (Or.inr (Or.inl ⟨c4, c31, c42, c53, c69, rfl, rfl⟩)))) (by decide) (by decide)
          · refine z_iconst C (v := 1) dX1_isInOrder_72 (by decide) ?_
            refine z_goto C (tgt := 77) dX1_isInOrder_73 (by decide) ?_
            exact ret dX1_isInOrder_77 rfl (Or.inr (Or.inr (Or.inr (Or.inr (Or.inl ⟨c4, c31, c42, c53, c69, rfl, rfl⟩))))) (by decide) (by decide)
  · refine z_aload_n C dX1_isInOrder_7 rfl 0 rfl ?_
    refine gf_X1_34 C h_p dX1_isInOrder_8 ?_
    refine z_if_lt C (tgt := 25) dX1_isInOrder_11 (by decide) (fun c11 => ?_) (fun c11 => ?_)
    · refine z_iconst C (v := 0) dX1_isInOrder_25 (by decide) ?_
      exact ret dX1_isInOrder_26 rfl (Or.inr (Or.inr (Or.inr (Or.inr (Or.inr (Or.inl ⟨c4, c11, rfl, rfl⟩)))))) (by decide) (by decide)
    · refine z_aload_n C dX1_isInOrder_14 rfl 0 rfl ?_
      refine gf_X1_34 C h_p dX1_isInOrder_15 ?_
      refine z_aload_n C dX1_isInOrder_18 rfl 0 rfl ?_
      refine gf_X1_28 C h_p dX1_isInOrder_19 ?_
      refine z_icmp_le C (tgt := 27) dX1_isInOrder_22 (by decide) (fun c22 => ?_) (fun c22 => ?_)
      · refine z_aload_n C dX1_isInOrder_27 rfl 0 rfl ?_
        refine gf_X1_28 C h_p dX1_isInOrder_28 ?_
        refine z_if_lt C (tgt := 76) dX1_isInOrder_31 (by decide) (fun c31 => ?_) (fun c31 => ?_)
        · refine z_iconst C (v := 0) dX1_isInOrder_76 (by decide) ?_
          exact ret dX1_isInOrder_77 rfl (Or.inr (Or.inr (Or.inr (Or.inr (Or.inr (Or.inr (Or.inl ⟨c4, c11, c22, c31, rfl, rfl⟩))))))) (by decide) (by decide)
        · refine z_aload_n C dX1_isInOrder_34 rfl 0 rfl ?_
          refine gf_X1_28 C h_p dX1_isInOrder_35 ?_
          refine z_aload_n C dX1_isInOrder_38 rfl 0 rfl ?_
          refine gf_X1_31 C h_p dX1_isInOrder_39 ?_
          refine z_icmp_gt C (tgt := 76) dX1_isInOrder_42 (by decide) (fun c42 => ?_) (fun c42 => ?_)
          · refine z_iconst C (v := 0) dX1_isInOrder_76 (by decide) ?_
            exact ret dX1_isInOrder_77 rfl (Or.inr (Or.inr (Or.inr (Or.inr (Or.inr (Or.inr (Or.inr (Or.inl ⟨c4, c11, c22, c31, c42, rfl, rfl⟩)))))))) (by decide) (by decide)
          · refine z_aload_n C dX1_isInOrder_45 rfl 0 rfl ?_
            refine gf_X1_31 C h_p dX1_isInOrder_46 ?_
            refine z_aload_n C dX1_isInOrder_49 rfl 0 rfl ?_
            refine gf_X1_25 C h_p dX1_isInOrder_50 ?_
            refine z_icmp_gt C (tgt := 76) dX1_isInOrder_53 (by decide) (fun c53 => ?_) (fun c53 => ?_)
            · refine z_iconst C (v := 0) dX1_isInOrder_76 (by decide) ?_
              exact ret dX1_isInOrder_77 rfl (Or.inr (Or.inr (Or.inr (Or.inr (Or.inr (Or.inr (Or.inr (Or.inr (Or.inl ⟨c4, c11, c22, c31, c42, c53, rfl, rfl⟩))))))))) (by decide) (by decide)
            · refine z_aload_n C dX1_isInOrder_56 rfl 0 rfl ?_
              refine z_callVi (rest := []) (k' := 0) (n' := 0) C (c_X1_left (z_l X) (z_G X) h_p) (cs_X1_57 C (by decide)) h_p rfl rfl rfl rfl (Nat.le_of_ble_eq_true rfl) rfl rfl (by decide) (by decide) dX1_isInOrder_57 (fun x57 M' hq => ?_)
              obtain ⟨rfl, rfl⟩ := hq
              refine z_aload_n C dX1_isInOrder_60 rfl 0 rfl ?_
              refine gf_X1_31 C h_p dX1_isInOrder_61 ?_
              refine z_aload_n C dX1_isInOrder_64 rfl 0 rfl ?_
              refine gf_X1_28 C h_p dX1_isInOrder_65 ?_
              refine z_isub C dX1_isInOrder_68 ?_
              refine z_icmp_ne C (tgt := 76) dX1_isInOrder_69 (by decide) (fun c69 => ?_) (fun c69 => ?_)
              · refine z_iconst C (v := 0) dX1_isInOrder_76 (by decide) ?_
                exact ret dX1_isInOrder_77 rfl (Or.inr (Or.inr (Or.inr (Or.inr (Or.inr (Or.inr (Or.inr (Or.inr (Or.inr (Or.inl ⟨c4, c11, c22, c31, c42, c53, c69, rfl, rfl⟩)))))))))) (by decide) (by decide)
              · refine z_iconst C (v := 1) dX1_isInOrder_72 (by decide) ?_
                refine z_goto C (tgt := 77) dX1_isInOrder_73 (by decide) ?_
                exact ret dX1_isInOrder_77 rfl (Or.inr (Or.inr (Or.inr (Or.inr (Or.inr (Or.inr (Or.inr (Or.inr (Or.inr (Or.inr (Or.inl ⟨c4, c11, c22, c31, c42, c53, c69, rfl, rfl⟩))))))))))) (by decide) (by decide)
      · refine z_iconst C (v := 0) dX1_isInOrder_25 (by decide) ?_
        exact ret dX1_isInOrder_26 rfl (Or.inr (Or.inr (Or.inr (Or.inr (Or.inr (Or.inr (Or.inr (Or.inr (Or.inr (Or.inr (Or.inr (⟨c4, c11, c22, rfl, rfl⟩)))))))))))) (by decide) (by decide)
set_option maxRecDepth 20000 in
theorem c_X3_isWithin (l : Launch) (G : zG) {M : zM} {v : Int32} {a : Int32} {b : Int32}    : z_Mi l G qX3_isWithin (z_rm 1 0 0) [.int v, .int a, .int b] M (fun r M' => r = z_is v a b ∧ M' = M)  := by
  refine z_Mi_of _ (plainFor_of_name rfl) rfl (Nat.le_of_ble_eq_true rfl) (fun X hl hG hnm C ret => ?_)
  subst hl; subst hG
  have C : z_C X cX3_isWithin RX3 3 (z_rm 1 0 0) := C
  show z_W X M 0 0 0 [(0, .int v), (1, .int a), (2, .int b)] []
  refine z_iload_n C dX3_isWithin_0 rfl 0 rfl ?_
  refine z_iload_n C dX3_isWithin_1 rfl 1 rfl ?_
  refine z_icmp_lt C (tgt := 14) dX3_isWithin_2 (by decide) (fun c2 => ?_) (fun c2 => ?_)
  · refine z_iconst C (v := 0) dX3_isWithin_14 (by decide) ?_
    refine ret dX3_isWithin_15 rfl ?_ (by decide) (by decide)
    exact ⟨by simp [z_is, *], rfl⟩
  · refine z_iload_n C dX3_isWithin_5 rfl 0 rfl ?_
    refine z_iload_n C dX3_isWithin_6 rfl 2 rfl ?_
    refine z_icmp_gt C (tgt := 14) dX3_isWithin_7 (by decide) (fun c7 => ?_) (fun c7 => ?_)
    · refine z_iconst C (v := 0) dX3_isWithin_14 (by decide) ?_
      refine ret dX3_isWithin_15 rfl ?_ (by decide) (by decide)
      exact ⟨by simp [z_is, *], rfl⟩
    · refine z_iconst C (v := 1) dX3_isWithin_10 (by decide) ?_
      refine z_goto C (tgt := 15) dX3_isWithin_11 (by decide) ?_
      refine ret dX3_isWithin_15 rfl ?_ (by decide) (by decide)
      exact ⟨by simp [z_is, *], rfl⟩
set_option maxRecDepth 20000 in
theorem c_X3_done (l : Launch) (G : zG) {M : zM} {x : Nat} {r0 : Int32} {lr : Nat} {pa : Nat} {sp : Nat} {ln : Nat} {rf : Nat} {ac : Int32} {kn : Int32}  (h_x : M x = some (cMp lr pa sp ln rf ac kn))  : z_Mi l G qX3_done (z_rm 1 0 0) [.ref x, .int r0] M (fun r M' => r = r0 ∧ M' = z_up M x (cMp lr pa sp ln rf (ac + 1) kn))  := by
  refine z_Mi_of _ (plainFor_of_name rfl) rfl (Nat.le_of_ble_eq_true rfl) (fun X hl hG hnm C ret => ?_)
  subst hl; subst hG
  have C : z_C X cX3_done RX3 2 (z_rm 1 0 0) := C
  show z_W X M 0 0 0 [(0, .ref x), (1, .int r0)] []
  refine z_aload_n C dX3_done_0 rfl 0 rfl ?_
  refine z_dup C dX3_done_1 rfl ?_
  refine gf_X3_42 C h_x dX3_done_2 ?_
  refine z_iconst C (v := 1) dX3_done_5 (by decide) ?_
  refine z_iadd C dX3_done_6 ?_
  refine pf_X3_42 C h_x dX3_done_7 ?_
  refine z_iload_n C dX3_done_10 rfl 1 rfl ?_
  exact ret dX3_done_11 rfl (⟨rfl, rfl⟩) (by decide) (by decide)
set_option maxRecDepth 20000 in
theorem c_X3_refuse (l : Launch) (G : zG) {M : zM} {x : Nat} {kd : Int32} {lr : Nat} {pa : Nat} {sp : Nat} {ln : Nat} {rf : Nat} {ac : Int32} {kn : Int32} {fr : Nat → Int32} {kj : Nat} (h_x : M x = some (cMp lr pa sp ln rf ac kn)) (h_rf : M rf = some (aI G 6 fr)) (h_kd : vp_in kd 6) (h_kj : kd.toNatClampNeg = kj) : z_Mi l G qX3_refuse (z_rm 1 0 0) [.ref x, .int kd] M (fun r M' => r = (-9) ∧ M' = z_up M rf (aI G 6 (upd fr kj ((fr kj) + 1))))  := by
  refine z_Mi_of _ (plainFor_of_name rfl) rfl (Nat.le_of_ble_eq_true rfl) (fun X hl hG hnm C ret => ?_)
  subst hl; subst hG
  have C : z_C X cX3_refuse RX3 2 (z_rm 1 0 0) := C
  show z_W X M 0 0 0 [(0, .ref x), (1, .int kd)] []
  refine z_iload_n C dX3_refuse_0 rfl 1 rfl ?_
  refine z_if_lt C (tgt := 23) dX3_refuse_1 (by decide) (fun c1 => absurd c1 (z_ge0 h_kd)) (fun _ => ?_)
  refine z_iload_n C dX3_refuse_4 rfl 1 rfl ?_
  refine z_aload_n C dX3_refuse_5 rfl 0 rfl ?_
  refine gf_X3_38 C h_x dX3_refuse_6 ?_
  refine z_alenI C (v := Int32.ofNat 6) h_rf rfl dX3_refuse_9 ?_
  refine z_icmp_ge C (tgt := 23) dX3_refuse_10 (by decide) (fun c10 => absurd c10 (z_nIn h_kd (by decide))) (fun _ => ?_)
  refine z_aload_n C dX3_refuse_13 rfl 0 rfl ?_
  refine gf_X3_38 C h_x dX3_refuse_14 ?_
  refine z_iload_n C dX3_refuse_17 rfl 1 rfl ?_
  refine z_dup2 C dX3_refuse_18 rfl rfl ?_
  refine z_iald (j := kj) C h_rf h_kd h_kj dX3_refuse_19 ?_
  refine z_iconst C (v := 1) dX3_refuse_20 (by decide) ?_
  refine z_iadd C dX3_refuse_21 ?_
  refine z_iast (j := kj) C h_rf h_kd h_kj dX3_refuse_22 ?_
  refine z_bipush C (v := (-9)) dX3_refuse_23 (by decide) ?_
  exact ret dX3_refuse_25 rfl (⟨rfl, rfl⟩) (by decide) (by decide)
set_option maxRecDepth 20000 in
theorem c_X3_paneOf (l : Launch) (G : zG) (h_st : l.stackTraces = false) {M : zM} {x : Nat} {pane : Int32} {lr : Nat} {pa : Nat} {sp : Nat} {ln : Nat} {rf : Nat} {ac : Int32} {kn : Int32} {fp : Nat → Option Nat} {p : Nat} {ov : Nat} {sa : Int32} {cp : Int32} {po : Int32} {li : Int32} {mk : Int32} {rd : Int32} {i : Nat} (h_x : M x = some (cMp lr pa sp ln rf ac kn)) (h_pa : M pa = some (aP G 6 fp)) (h_p : M p = some (cPn ov sa cp po li mk rd)) (h_ip : vp_in pane 6) (h_ij : pane.toNatClampNeg = i) (h_fp : fp i = some p) : z_Xr l G qX3_paneOf (z_rm 7 1 6) [.ref x, .int pane] M (fun r M' => r = p ∧ M' = M) (fun E M' => False) := by
  refine z_Xr_of _ _ h_st rfl rfl (by first | exact Or.inl ⟨_, rfl⟩ | exact Or.inr ⟨_, rfl⟩) (Nat.le_of_ble_eq_true rfl) (fun X hl hG C ret thr prp => ?_)
  subst hl; subst hG
  have C : z_C X cX3_paneOf RX3 2 (z_rm 7 1 6) := C
  show z_W X M 0 0 0 [(0, .ref x), (1, .int pane)] []
  refine z_iload_n C dX3_paneOf_0 rfl 1 rfl ?_
  refine z_if_lt C (tgt := 13) dX3_paneOf_1 (by decide) (fun c1 => absurd c1 (z_ge0 h_ip)) (fun _ => ?_)
  refine z_iload_n C dX3_paneOf_4 rfl 1 rfl ?_
  refine z_aload_n C dX3_paneOf_5 rfl 0 rfl ?_
  refine gf_X3_20 C h_x dX3_paneOf_6 ?_
  refine z_alenP C (v := Int32.ofNat 6) h_pa rfl dX3_paneOf_9 ?_
  refine z_icmp_lt C (tgt := 23) dX3_paneOf_10 (by decide) (fun _ => ?_) (fun c10 => absurd (z_nIt h_ip) c10)
  refine z_aload_n C dX3_paneOf_23 rfl 0 rfl ?_
  refine gf_X3_20 C h_x dX3_paneOf_24 ?_
  refine z_iload_n C dX3_paneOf_27 rfl 1 rfl ?_
  refine z_aaldP (j := i) C h_pa h_ip h_ij h_fp dX3_paneOf_28 ?_
  exact ret dX3_paneOf_29 (⟨rfl, rfl⟩) (by decide) (by decide)
set_option maxRecDepth 20000 in
theorem c_X3_paneOf_bad (l : Launch) (G : zG) (h_st : l.stackTraces = false) {M : zM} {x : Nat} {pane : Int32} {lr : Nat} {pa : Nat} {sp : Nat} {ln : Nat} {rf : Nat} {ac : Int32} {kn : Int32} {fp : Nat → Option Nat}  (h_x : M x = some (cMp lr pa sp ln rf ac kn)) (h_pa : M pa = some (aP G 6 fp)) (h_ip : ¬ vp_in pane 6) : z_Xr l G qX3_paneOf (z_rm 7 1 6) [.ref x, .int pane] M (fun r M' => False) (fun E M' => ((pane < 0) ∧ E = "java/lang/IndexOutOfBoundsException" ∧ M' = M) ∨ ((¬ pane < 0) ∧ E = "java/lang/IndexOutOfBoundsException" ∧ M' = M)) := by
  refine z_Xr_of _ _ h_st rfl rfl (by first | exact Or.inl ⟨_, rfl⟩ | exact Or.inr ⟨_, rfl⟩) (Nat.le_of_ble_eq_true rfl) (fun X hl hG C ret thr prp => ?_)
  subst hl; subst hG
  have C : z_C X cX3_paneOf RX3 2 (z_rm 7 1 6) := C
  show z_W X M 0 0 0 [(0, .ref x), (1, .int pane)] []
  refine z_iload_n C dX3_paneOf_0 rfl 1 rfl ?_
  refine z_if_lt C (tgt := 13) dX3_paneOf_1 (by decide) (fun c1 => ?_) (fun c1 => ?_)
  · exact thr "java/lang/IndexOutOfBoundsException" "no such pane" z_nm 142 218 146 (by decide +kernel) (by decide +kernel) kw703 kw14 rfl (by decide +kernel) (ht_I C) hg_I dX3_paneOf_13 dX3_paneOf_16 dX3_paneOf_17 dX3_paneOf_19 dX3_paneOf_22 (by decide) (Nat.le_of_ble_eq_true rfl) (by decide) (by decide) (Or.inl ⟨c1, rfl, rfl⟩)
  · refine z_iload_n C dX3_paneOf_4 rfl 1 rfl ?_
    refine z_aload_n C dX3_paneOf_5 rfl 0 rfl ?_
    refine gf_X3_20 C h_x dX3_paneOf_6 ?_
    refine z_alenP C (v := Int32.ofNat 6) h_pa rfl dX3_paneOf_9 ?_
    refine z_icmp_lt C (tgt := 23) dX3_paneOf_10 (by decide) (fun c10 => absurd c10 (z_nIf h_ip c1)) (fun _ => ?_)
    exact thr "java/lang/IndexOutOfBoundsException" "no such pane" z_nm 142 218 146 (by decide +kernel) (by decide +kernel) kw703 kw14 rfl (by decide +kernel) (ht_I C) hg_I dX3_paneOf_13 dX3_paneOf_16 dX3_paneOf_17 dX3_paneOf_19 dX3_paneOf_22 (by decide) (Nat.le_of_ble_eq_true rfl) (by decide) (by decide) (Or.inr (⟨c1, rfl, rfl⟩))
set_option maxRecDepth 20000 in
theorem c_X3_needWithin (l : Launch) (G : zG) (h_st : l.stackTraces = false) {M : zM} {v : Int32} {a : Int32} {b : Int32}    : z_Xv l G qX3_needWithin (z_rm 7 1 6) [.int v, .int a, .int b] M (fun M' => (¬ (z_is v a b) = 0) ∧ M' = M) (fun E M' => ((z_is v a b) = 0) ∧ E = "java/lang/IllegalArgumentException" ∧ M' = M) := by
  refine z_Xv_of _ _ h_st rfl rfl (Nat.le_of_ble_eq_true rfl) (fun X hl hG C ret thr prp => ?_)
  subst hl; subst hG
  have C : z_C X cX3_needWithin RX3 3 (z_rm 7 1 6) := C
  show z_W X M 0 0 0 [(0, .int v), (1, .int a), (2, .int b)] []
  refine z_iload_n C dX3_needWithin_0 rfl 0 rfl ?_
  refine z_iload_n C dX3_needWithin_1 rfl 1 rfl ?_
  refine z_iload_n C dX3_needWithin_2 rfl 2 rfl ?_
  refine z_callSi (rest := []) (k' := 0) (n' := 0) C (c_X3_isWithin (z_l X) (z_G X) ) (cs_X3_82 C (by decide)) rfl rfl (Nat.le_of_ble_eq_true rfl) rfl rfl (by decide) (by decide) dX3_needWithin_3 (fun x3 M' hq => ?_)
  obtain ⟨rfl, rfl⟩ := hq
  refine z_if_ne C (tgt := 19) dX3_needWithin_6 (by decide) (fun c6 => ?_) (fun c6 => ?_)
  · exact ret dX3_needWithin_19 (⟨c6, rfl⟩) (by decide) (by decide)
  · exact thr "java/lang/IllegalArgumentException" "a number is out of its bounds" z_nm 220 222 224 (by decide +kernel) (by decide +kernel) kw722 kw15 rfl (by decide +kernel) (ht_A C) hg_A dX3_needWithin_9 dX3_needWithin_12 dX3_needWithin_13 dX3_needWithin_15 dX3_needWithin_18 (by decide) (Nat.le_of_ble_eq_true rfl) (by decide) (by decide) (⟨c6, rfl, rfl⟩)
set_option maxRecDepth 20000 in
theorem c_X3_needValue (l : Launch) (G : zG) (h_st : l.stackTraces = false) {M : zM} {v : Int32}    : z_Xv l G qX3_needValue (z_rm 7 1 6) [.int v] M (fun M' => (0 ≤ v) ∧ M' = M) (fun E M' => (¬ 0 ≤ v) ∧ E = "java/lang/IllegalArgumentException" ∧ M' = M) := by
  refine z_Xv_of _ _ h_st rfl rfl (Nat.le_of_ble_eq_true rfl) (fun X hl hG C ret thr prp => ?_)
  subst hl; subst hG
  have C : z_C X cX3_needValue RX3 1 (z_rm 7 1 6) := C
  show z_W X M 0 0 0 [(0, .int v)] []
  refine z_iload_n C dX3_needValue_0 rfl 0 rfl ?_
  refine z_if_ge C (tgt := 14) dX3_needValue_1 (by decide) (fun c1 => ?_) (fun c1 => ?_)
  · exact ret dX3_needValue_14 (⟨c1, rfl⟩) (by decide) (by decide)
  · exact thr "java/lang/IllegalArgumentException" "a value is below 0" z_nm 220 225 224 (by decide +kernel) (by decide +kernel) kw722 kw15 rfl (by decide +kernel) (ht_A C) hg_A dX3_needValue_4 dX3_needValue_7 dX3_needValue_8 dX3_needValue_10 dX3_needValue_13 (by decide) (Nat.le_of_ble_eq_true rfl) (by decide) (by decide) (⟨c1, rfl, rfl⟩)
