theorem dX10_forget_0 : decode cX10_forget 0 = .ok (.aload_n 0, 1) := by decide +kernel
theorem dX10_forget_1 : decode cX10_forget 1 = .ok (.iconst 0, 1) := by decide +kernel
theorem dX10_forget_10 : decode cX10_forget 10 = .ok (.aload_n 0, 1) := by decide +kernel
theorem dX10_forget_11 : decode cX10_forget 11 = .ok (.iconst 0, 1) := by decide +kernel
theorem dX10_forget_12 : decode cX10_forget 12 = .ok (.putfield 18, 3) := by decide +kernel
theorem dX10_forget_15 : decode cX10_forget 15 = .ok (.aload_n 0, 1) := by decide +kernel
theorem dX10_forget_16 : decode cX10_forget 16 = .ok (.iconst 0, 1) := by decide +kernel
theorem dX10_forget_17 : decode cX10_forget 17 = .ok (.putfield 21, 3) := by decide +kernel
theorem dX10_forget_2 : decode cX10_forget 2 = .ok (.putfield 9, 3) := by decide +kernel
theorem dX10_forget_20 : decode cX10_forget 20 = .ok (.aload_n 0, 1) := by decide +kernel
theorem dX10_forget_21 : decode cX10_forget 21 = .ok (.iconst 0, 1) := by decide +kernel
theorem dX10_forget_22 : decode cX10_forget 22 = .ok (.putfield 24, 3) := by decide +kernel
theorem dX10_forget_25 : decode cX10_forget 25 = .ok (.aload_n 0, 1) := by decide +kernel
theorem dX10_forget_26 : decode cX10_forget 26 = .ok (.getfield 53, 3) := by decide +kernel
theorem dX10_forget_29 : decode cX10_forget 29 = .ok (.invokevirtual 57, 3) := by decide +kernel
theorem dX10_forget_32 : decode cX10_forget 32 = .ok (.return_, 1) := by decide +kernel
theorem dX10_forget_5 : decode cX10_forget 5 = .ok (.aload_n 0, 1) := by decide +kernel
theorem dX10_forget_6 : decode cX10_forget 6 = .ok (.iconst 0, 1) := by decide +kernel
theorem dX10_forget_7 : decode cX10_forget 7 = .ok (.putfield 15, 3) := by decide +kernel
theorem dX11_at_0 : decode cX11_at 0 = .ok (.iload_n 1, 1) := by decide +kernel
theorem dX11_at_1 : decode cX11_at 1 = .ok (.invokestatic 131, 3) := by decide +kernel
theorem dX11_at_11 : decode cX11_at 11 = .ok (.iload_n 2, 1) := by decide +kernel
theorem dX11_at_12 : decode cX11_at 12 = .ok (.aload_n 0, 1) := by decide +kernel
theorem dX11_at_13 : decode cX11_at 13 = .ok (.getfield 39, 3) := by decide +kernel
theorem dX11_at_16 : decode cX11_at 16 = .ok (.getfield 135, 3) := by decide +kernel
theorem dX11_at_19 : decode cX11_at 19 = .ok (.if_icmp .lt 5, 3) := by decide +kernel
theorem dX11_at_22 : decode cX11_at 22 = .ok (.iconst (-1), 1) := by decide +kernel
theorem dX11_at_23 : decode cX11_at 23 = .ok (.ireturn, 1) := by decide +kernel
theorem dX11_at_4 : decode cX11_at 4 = .ok (.ifCond .eq 18, 3) := by decide +kernel
theorem dX11_at_7 : decode cX11_at 7 = .ok (.iload_n 2, 1) := by decide +kernel
theorem dX11_at_8 : decode cX11_at 8 = .ok (.ifCond .lt 14, 3) := by decide +kernel
theorem dX11_end_0 : decode cX11_end 0 = .ok (.iload_n 1, 1) := by decide +kernel
theorem dX11_end_1 : decode cX11_end 1 = .ok (.ifCond .lt 11, 3) := by decide +kernel
theorem dX11_end_12 : decode cX11_end 12 = .ok (.iconst (-1), 1) := by decide +kernel
theorem dX11_end_13 : decode cX11_end 13 = .ok (.ireturn, 1) := by decide +kernel
theorem dX11_end_14 : decode cX11_end 14 = .ok (.aload_n 0, 1) := by decide +kernel
theorem dX11_end_15 : decode cX11_end 15 = .ok (.iload_n 1, 1) := by decide +kernel
theorem dX11_end_16 : decode cX11_end 16 = .ok (.putfield 13, 3) := by decide +kernel
theorem dX11_end_19 : decode cX11_end 19 = .ok (.iload_n 1, 1) := by decide +kernel
theorem dX11_end_20 : decode cX11_end 20 = .ok (.ireturn, 1) := by decide +kernel
theorem dX11_end_4 : decode cX11_end 4 = .ok (.iload_n 1, 1) := by decide +kernel
theorem dX11_end_5 : decode cX11_end 5 = .ok (.aload_n 0, 1) := by decide +kernel
theorem dX11_end_6 : decode cX11_end 6 = .ok (.getfield 13, 3) := by decide +kernel
theorem dX11_end_9 : decode cX11_end 9 = .ok (.if_icmp .le 5, 3) := by decide +kernel
theorem dX11_fault_0 : decode cX11_fault 0 = .ok (.iload_n 1, 1) := by decide +kernel
theorem dX11_fault_1 : decode cX11_fault 1 = .ok (.ifCond .ne 11, 3) := by decide +kernel
theorem dX11_fault_11 : decode cX11_fault 11 = .ok (.ireturn, 1) := by decide +kernel
theorem dX11_fault_12 : decode cX11_fault 12 = .ok (.iload_n 1, 1) := by decide +kernel
theorem dX11_fault_13 : decode cX11_fault 13 = .ok (.iconst 1, 1) := by decide +kernel
theorem dX11_fault_14 : decode cX11_fault 14 = .ok (.if_icmp .ne 13, 3) := by decide +kernel
theorem dX11_fault_17 : decode cX11_fault 17 = .ok (.aload_n 0, 1) := by decide +kernel
theorem dX11_fault_18 : decode cX11_fault 18 = .ok (.getfield 32, 3) := by decide +kernel
theorem dX11_fault_21 : decode cX11_fault 21 = .ok (.getfield 128, 3) := by decide +kernel
theorem dX11_fault_24 : decode cX11_fault 24 = .ok (.goto 4, 3) := by decide +kernel
theorem dX11_fault_27 : decode cX11_fault 27 = .ok (.iconst (-1), 1) := by decide +kernel
theorem dX11_fault_28 : decode cX11_fault 28 = .ok (.ireturn, 1) := by decide +kernel
theorem dX11_fault_4 : decode cX11_fault 4 = .ok (.aload_n 0, 1) := by decide +kernel
theorem dX11_fault_5 : decode cX11_fault 5 = .ok (.getfield 32, 3) := by decide +kernel
theorem dX11_fault_8 : decode cX11_fault 8 = .ok (.getfield 125, 3) := by decide +kernel
theorem dX11_feed_0 : decode cX11_feed 0 = .ok (.aload_n 0, 1) := by decide +kernel
theorem dX11_feed_1 : decode cX11_feed 1 = .ok (.getfield 13, 3) := by decide +kernel
theorem dX11_feed_10 : decode cX11_feed 10 = .ok (.if_icmp .le 5, 3) := by decide +kernel
theorem dX11_feed_15 : decode cX11_feed 15 = .ok (.aload_n 0, 1) := by decide +kernel
theorem dX11_feed_16 : decode cX11_feed 16 = .ok (.iload_n 1, 1) := by decide +kernel
theorem dX11_feed_17 : decode cX11_feed 17 = .ok (.invokevirtual 94, 3) := by decide +kernel
theorem dX11_feed_20 : decode cX11_feed 20 = .ok (.aload_n 0, 1) := by decide +kernel
theorem dX11_feed_21 : decode cX11_feed 21 = .ok (.iload_n 2, 1) := by decide +kernel
theorem dX11_feed_22 : decode cX11_feed 22 = .ok (.invokevirtual 94, 3) := by decide +kernel
theorem dX11_feed_25 : decode cX11_feed 25 = .ok (.aload_n 0, 1) := by decide +kernel
theorem dX11_feed_26 : decode cX11_feed 26 = .ok (.iload_n 3, 1) := by decide +kernel
theorem dX11_feed_27 : decode cX11_feed 27 = .ok (.invokevirtual 94, 3) := by decide +kernel
theorem dX11_feed_30 : decode cX11_feed 30 = .ok (.aload_n 0, 1) := by decide +kernel
theorem dX11_feed_31 : decode cX11_feed 31 = .ok (.iload 4, 2) := by decide +kernel
theorem dX11_feed_33 : decode cX11_feed 33 = .ok (.invokevirtual 94, 3) := by decide +kernel
theorem dX11_feed_36 : decode cX11_feed 36 = .ok (.aload_n 0, 1) := by decide +kernel
theorem dX11_feed_37 : decode cX11_feed 37 = .ok (.iload 5, 2) := by decide +kernel
theorem dX11_feed_39 : decode cX11_feed 39 = .ok (.invokevirtual 94, 3) := by decide +kernel
theorem dX11_feed_4 : decode cX11_feed 4 = .ok (.bipush 20, 2) := by decide +kernel
theorem dX11_feed_42 : decode cX11_feed 42 = .ok (.aload_n 0, 1) := by decide +kernel
theorem dX11_feed_43 : decode cX11_feed 43 = .ok (.getfield 13, 3) := by decide +kernel
theorem dX11_feed_46 : decode cX11_feed 46 = .ok (.ireturn, 1) := by decide +kernel
theorem dX11_feed_6 : decode cX11_feed 6 = .ok (.iadd, 1) := by decide +kernel
theorem dX11_feed_7 : decode cX11_feed 7 = .ok (.sipush 1600, 3) := by decide +kernel
theorem dX11_game_0 : decode cX11_game 0 = .ok (.aload_n 0, 1) := by decide +kernel
theorem dX11_game_1 : decode cX11_game 1 = .ok (.getfield 24, 3) := by decide +kernel
theorem dX11_game_11 : decode cX11_game 11 = .ok (.aload_n 0, 1) := by decide +kernel
theorem dX11_game_12 : decode cX11_game 12 = .ok (.getfield 13, 3) := by decide +kernel
theorem dX11_game_15 : decode cX11_game 15 = .ok (.aload_n 0, 1) := by decide +kernel
theorem dX11_game_16 : decode cX11_game 16 = .ok (.getfield 24, 3) := by decide +kernel
theorem dX11_game_19 : decode cX11_game 19 = .ok (.invokevirtual 101, 3) := by decide +kernel
theorem dX11_game_22 : decode cX11_game 22 = .ok (.ifCond .ne 5, 3) := by decide +kernel
theorem dX11_game_27 : decode cX11_game 27 = .ok (.aload_n 0, 1) := by decide +kernel
theorem dX11_game_28 : decode cX11_game 28 = .ok (.getfield 20, 3) := by decide +kernel
theorem dX11_game_31 : decode cX11_game 31 = .ok (.astore_n 1, 1) := by decide +kernel
theorem dX11_game_32 : decode cX11_game 32 = .ok (.aload_n 0, 1) := by decide +kernel
theorem dX11_game_33 : decode cX11_game 33 = .ok (.aload_n 0, 1) := by decide +kernel
theorem dX11_game_34 : decode cX11_game 34 = .ok (.getfield 24, 3) := by decide +kernel
theorem dX11_game_37 : decode cX11_game 37 = .ok (.putfield 20, 3) := by decide +kernel
theorem dX11_game_4 : decode cX11_game 4 = .ok (.invokevirtual 98, 3) := by decide +kernel
theorem dX11_game_40 : decode cX11_game 40 = .ok (.aload_n 0, 1) := by decide +kernel
theorem dX11_game_41 : decode cX11_game 41 = .ok (.aload_n 1, 1) := by decide +kernel
theorem dX11_game_42 : decode cX11_game 42 = .ok (.putfield 24, 3) := by decide +kernel
theorem dX11_game_45 : decode cX11_game 45 = .ok (.aload_n 0, 1) := by decide +kernel
theorem dX11_game_46 : decode cX11_game 46 = .ok (.iconst 0, 1) := by decide +kernel
theorem dX11_game_47 : decode cX11_game 47 = .ok (.putfield 13, 3) := by decide +kernel
theorem dX11_game_50 : decode cX11_game 50 = .ok (.aload_n 0, 1) := by decide +kernel
theorem dX11_game_51 : decode cX11_game 51 = .ok (.invokevirtual 91, 3) := by decide +kernel
theorem dX11_game_54 : decode cX11_game 54 = .ok (.aload_n 0, 1) := by decide +kernel
theorem dX11_game_55 : decode cX11_game 55 = .ok (.getfield 20, 3) := by decide +kernel
theorem dX11_game_58 : decode cX11_game 58 = .ok (.getfield 105, 3) := by decide +kernel
theorem dX11_game_61 : decode cX11_game 61 = .ok (.ireturn, 1) := by decide +kernel
theorem dX11_game_7 : decode cX11_game 7 = .ok (.aload_n 0, 1) := by decide +kernel
theorem dX11_game_8 : decode cX11_game 8 = .ok (.getfield 32, 3) := by decide +kernel
theorem dX11_isKeeper_0 : decode cX11_isKeeper 0 = .ok (.iload_n 0, 1) := by decide +kernel
theorem dX11_isKeeper_1 : decode cX11_isKeeper 1 = .ok (.ifCond .eq 8, 3) := by decide +kernel
theorem dX11_isKeeper_10 : decode cX11_isKeeper 10 = .ok (.goto 4, 3) := by decide +kernel
theorem dX11_isKeeper_13 : decode cX11_isKeeper 13 = .ok (.iconst 0, 1) := by decide +kernel
theorem dX11_isKeeper_14 : decode cX11_isKeeper 14 = .ok (.ireturn, 1) := by decide +kernel
theorem dX11_isKeeper_4 : decode cX11_isKeeper 4 = .ok (.iload_n 0, 1) := by decide +kernel
theorem dX11_isKeeper_5 : decode cX11_isKeeper 5 = .ok (.iconst 1, 1) := by decide +kernel
theorem dX11_isKeeper_6 : decode cX11_isKeeper 6 = .ok (.if_icmp .ne 7, 3) := by decide +kernel
theorem dX11_isKeeper_9 : decode cX11_isKeeper 9 = .ok (.iconst 1, 1) := by decide +kernel
theorem dX11_move_0 : decode cX11_move 0 = .ok (.iload_n 1, 1) := by decide +kernel
theorem dX11_move_1 : decode cX11_move 1 = .ok (.invokestatic 131, 3) := by decide +kernel
theorem dX11_move_11 : decode cX11_move 11 = .ok (.iload_n 3, 1) := by decide +kernel
theorem dX11_move_12 : decode cX11_move 12 = .ok (.iconst 2, 1) := by decide +kernel
theorem dX11_move_13 : decode cX11_move 13 = .ok (.if_icmp .le 6, 3) := by decide +kernel
theorem dX11_move_16 : decode cX11_move 16 = .ok (.bipush (-2), 2) := by decide +kernel
theorem dX11_move_18 : decode cX11_move 18 = .ok (.ireturn, 1) := by decide +kernel
theorem dX11_move_19 : decode cX11_move 19 = .ok (.aload_n 0, 1) := by decide +kernel
theorem dX11_move_20 : decode cX11_move 20 = .ok (.getfield 55, 3) := by decide +kernel
theorem dX11_move_23 : decode cX11_move 23 = .ok (.iload_n 1, 1) := by decide +kernel
theorem dX11_move_24 : decode cX11_move 24 = .ok (.invokevirtual 138, 3) := by decide +kernel
theorem dX11_move_27 : decode cX11_move 27 = .ok (.astore 4, 2) := by decide +kernel
theorem dX11_move_29 : decode cX11_move 29 = .ok (.aload_n 0, 1) := by decide +kernel
theorem dX11_move_30 : decode cX11_move 30 = .ok (.getfield 39, 3) := by decide +kernel
theorem dX11_move_33 : decode cX11_move 33 = .ok (.aload 4, 2) := by decide +kernel
theorem dX11_move_35 : decode cX11_move 35 = .ok (.iload_n 2, 1) := by decide +kernel
theorem dX11_move_36 : decode cX11_move 36 = .ok (.invokevirtual 155, 3) := by decide +kernel
theorem dX11_move_39 : decode cX11_move 39 = .ok (.istore 5, 2) := by decide +kernel
theorem dX11_move_4 : decode cX11_move 4 = .ok (.ifCond .eq 12, 3) := by decide +kernel
theorem dX11_move_41 : decode cX11_move 41 = .ok (.iload 5, 2) := by decide +kernel
theorem dX11_move_43 : decode cX11_move 43 = .ok (.iconst (-1), 1) := by decide +kernel
theorem dX11_move_44 : decode cX11_move 44 = .ok (.if_icmp .ne 6, 3) := by decide +kernel
theorem dX11_move_47 : decode cX11_move 47 = .ok (.bipush (-2), 2) := by decide +kernel
theorem dX11_move_49 : decode cX11_move 49 = .ok (.ireturn, 1) := by decide +kernel
theorem dX11_move_7 : decode cX11_move 7 = .ok (.iload_n 3, 1) := by decide +kernel
theorem dX11_move_8 : decode cX11_move 8 = .ok (.ifCond .lt 8, 3) := by decide +kernel
theorem dX11_moves_0 : decode cX11_moves 0 = .ok (.iload_n 1, 1) := by decide +kernel
theorem dX11_moves_1 : decode cX11_moves 1 = .ok (.invokestatic 131, 3) := by decide +kernel
theorem dX11_moves_11 : decode cX11_moves 11 = .ok (.aload_n 0, 1) := by decide +kernel
theorem dX11_moves_12 : decode cX11_moves 12 = .ok (.getfield 55, 3) := by decide +kernel
theorem dX11_moves_15 : decode cX11_moves 15 = .ok (.iload_n 1, 1) := by decide +kernel
theorem dX11_moves_16 : decode cX11_moves 16 = .ok (.invokevirtual 138, 3) := by decide +kernel
theorem dX11_moves_19 : decode cX11_moves 19 = .ok (.invokevirtual 151, 3) := by decide +kernel
theorem dX11_moves_22 : decode cX11_moves 22 = .ok (.goto 4, 3) := by decide +kernel
theorem dX11_moves_25 : decode cX11_moves 25 = .ok (.iconst (-1), 1) := by decide +kernel
theorem dX11_moves_26 : decode cX11_moves 26 = .ok (.ireturn, 1) := by decide +kernel
theorem dX11_moves_4 : decode cX11_moves 4 = .ok (.ifCond .eq 21, 3) := by decide +kernel
theorem dX11_moves_7 : decode cX11_moves 7 = .ok (.aload_n 0, 1) := by decide +kernel
theorem dX11_moves_8 : decode cX11_moves 8 = .ok (.getfield 39, 3) := by decide +kernel
theorem dX11_putFour_0 : decode cX11_putFour 0 = .ok (.bipush 24, 2) := by decide +kernel
theorem dX11_putFour_11 : decode cX11_putFour 11 = .ok (.sipush 1600, 3) := by decide +kernel
theorem dX11_putFour_14 : decode cX11_putFour 14 = .ok (.if_icmp .ge 32, 3) := by decide +kernel
theorem dX11_putFour_17 : decode cX11_putFour 17 = .ok (.aload_n 0, 1) := by decide +kernel
theorem dX11_putFour_18 : decode cX11_putFour 18 = .ok (.getfield 9, 3) := by decide +kernel
theorem dX11_putFour_2 : decode cX11_putFour 2 = .ok (.istore_n 2, 1) := by decide +kernel
theorem dX11_putFour_21 : decode cX11_putFour 21 = .ok (.aload_n 0, 1) := by decide +kernel
theorem dX11_putFour_22 : decode cX11_putFour 22 = .ok (.getfield 13, 3) := by decide +kernel
theorem dX11_putFour_25 : decode cX11_putFour 25 = .ok (.iload_n 1, 1) := by decide +kernel
theorem dX11_putFour_26 : decode cX11_putFour 26 = .ok (.iload_n 2, 1) := by decide +kernel
theorem dX11_putFour_27 : decode cX11_putFour 27 = .ok (.iushr, 1) := by decide +kernel
theorem dX11_putFour_28 : decode cX11_putFour 28 = .ok (.i2b, 1) := by decide +kernel
theorem dX11_putFour_29 : decode cX11_putFour 29 = .ok (.bastore, 1) := by decide +kernel
theorem dX11_putFour_3 : decode cX11_putFour 3 = .ok (.iload_n 2, 1) := by decide +kernel
theorem dX11_putFour_30 : decode cX11_putFour 30 = .ok (.aload_n 0, 1) := by decide +kernel
theorem dX11_putFour_31 : decode cX11_putFour 31 = .ok (.dup, 1) := by decide +kernel
theorem dX11_putFour_32 : decode cX11_putFour 32 = .ok (.getfield 13, 3) := by decide +kernel
theorem dX11_putFour_35 : decode cX11_putFour 35 = .ok (.iconst 1, 1) := by decide +kernel
theorem dX11_putFour_36 : decode cX11_putFour 36 = .ok (.iadd, 1) := by decide +kernel
theorem dX11_putFour_37 : decode cX11_putFour 37 = .ok (.putfield 13, 3) := by decide +kernel
theorem dX11_putFour_4 : decode cX11_putFour 4 = .ok (.ifCond .lt 42, 3) := by decide +kernel
theorem dX11_putFour_40 : decode cX11_putFour 40 = .ok (.iinc 2 (-8), 3) := by decide +kernel
theorem dX11_putFour_43 : decode cX11_putFour 43 = .ok (.goto (-40), 3) := by decide +kernel
theorem dX11_putFour_46 : decode cX11_putFour 46 = .ok (.return_, 1) := by decide +kernel
theorem dX11_putFour_7 : decode cX11_putFour 7 = .ok (.aload_n 0, 1) := by decide +kernel
theorem dX11_putFour_8 : decode cX11_putFour 8 = .ok (.getfield 13, 3) := by decide +kernel
theorem dX11_turn_0 : decode cX11_turn 0 = .ok (.iload_n 1, 1) := by decide +kernel
theorem dX11_turn_1 : decode cX11_turn 1 = .ok (.invokestatic 131, 3) := by decide +kernel
theorem dX11_turn_11 : decode cX11_turn 11 = .ok (.iload_n 1, 1) := by decide +kernel
theorem dX11_turn_12 : decode cX11_turn 12 = .ok (.invokevirtual 138, 3) := by decide +kernel
theorem dX11_turn_15 : decode cX11_turn 15 = .ok (.getfield 148, 3) := by decide +kernel
theorem dX11_turn_18 : decode cX11_turn 18 = .ok (.goto 4, 3) := by decide +kernel
theorem dX11_turn_21 : decode cX11_turn 21 = .ok (.iconst (-1), 1) := by decide +kernel
theorem dX11_turn_22 : decode cX11_turn 22 = .ok (.ireturn, 1) := by decide +kernel
theorem dX11_turn_4 : decode cX11_turn 4 = .ok (.ifCond .eq 17, 3) := by decide +kernel
theorem dX11_turn_7 : decode cX11_turn 7 = .ok (.aload_n 0, 1) := by decide +kernel
theorem dX11_turn_8 : decode cX11_turn 8 = .ok (.getfield 55, 3) := by decide +kernel
theorem dX2_canMove_0 : decode cX2_canMove 0 = .ok (.iconst 0, 1) := by decide +kernel
theorem dX2_canMove_1 : decode cX2_canMove 1 = .ok (.istore_n 2, 1) := by decide +kernel
theorem dX2_canMove_2 : decode cX2_canMove 2 = .ok (.iload_n 2, 1) := by decide +kernel
theorem dX2_canMove_27 : decode cX2_canMove 27 = .ok (.iconst 0, 1) := by decide +kernel
theorem dX2_canMove_28 : decode cX2_canMove 28 = .ok (.ireturn, 1) := by decide +kernel
theorem dX2_canMove_3 : decode cX2_canMove 3 = .ok (.aload_n 0, 1) := by decide +kernel
theorem dX2_canMove_4 : decode cX2_canMove 4 = .ok (.getfield 9, 3) := by decide +kernel
theorem dX2_canMove_7 : decode cX2_canMove 7 = .ok (.if_icmp .ge 20, 3) := by decide +kernel
theorem dX2_countMoves_0 : decode cX2_countMoves 0 = .ok (.iconst 0, 1) := by decide +kernel
theorem dX2_countMoves_1 : decode cX2_countMoves 1 = .ok (.istore_n 2, 1) := by decide +kernel
theorem dX2_countMoves_2 : decode cX2_countMoves 2 = .ok (.iconst 0, 1) := by decide +kernel
theorem dX2_countMoves_3 : decode cX2_countMoves 3 = .ok (.istore_n 3, 1) := by decide +kernel
theorem dX2_countMoves_39 : decode cX2_countMoves 39 = .ok (.iload_n 2, 1) := by decide +kernel
theorem dX2_countMoves_4 : decode cX2_countMoves 4 = .ok (.iload_n 3, 1) := by decide +kernel
theorem dX2_countMoves_40 : decode cX2_countMoves 40 = .ok (.ireturn, 1) := by decide +kernel
theorem dX2_countMoves_5 : decode cX2_countMoves 5 = .ok (.aload_n 0, 1) := by decide +kernel
theorem dX2_countMoves_6 : decode cX2_countMoves 6 = .ok (.getfield 9, 3) := by decide +kernel
theorem dX2_countMoves_9 : decode cX2_countMoves 9 = .ok (.if_icmp .ge 30, 3) := by decide +kernel
theorem dX2_findMove_0 : decode cX2_findMove 0 = .ok (.iload_n 2, 1) := by decide +kernel
theorem dX2_findMove_1 : decode cX2_findMove 1 = .ok (.ifCond .lt 12, 3) := by decide +kernel
theorem dX2_findMove_10 : decode cX2_findMove 10 = .ok (.if_icmp .eq 5, 3) := by decide +kernel
theorem dX2_findMove_13 : decode cX2_findMove 13 = .ok (.iconst (-1), 1) := by decide +kernel
theorem dX2_findMove_14 : decode cX2_findMove 14 = .ok (.ireturn, 1) := by decide +kernel
theorem dX2_findMove_15 : decode cX2_findMove 15 = .ok (.iload_n 2, 1) := by decide +kernel
theorem dX2_findMove_16 : decode cX2_findMove 16 = .ok (.istore_n 3, 1) := by decide +kernel
theorem dX2_findMove_17 : decode cX2_findMove 17 = .ok (.iconst 0, 1) := by decide +kernel
theorem dX2_findMove_18 : decode cX2_findMove 18 = .ok (.istore 4, 2) := by decide +kernel
theorem dX2_findMove_20 : decode cX2_findMove 20 = .ok (.iload 4, 2) := by decide +kernel
theorem dX2_findMove_22 : decode cX2_findMove 22 = .ok (.aload_n 0, 1) := by decide +kernel
theorem dX2_findMove_23 : decode cX2_findMove 23 = .ok (.getfield 9, 3) := by decide +kernel
theorem dX2_findMove_26 : decode cX2_findMove 26 = .ok (.if_icmp .ge 49, 3) := by decide +kernel
theorem dX2_findMove_4 : decode cX2_findMove 4 = .ok (.aload_n 0, 1) := by decide +kernel
theorem dX2_findMove_5 : decode cX2_findMove 5 = .ok (.aload_n 1, 1) := by decide +kernel
theorem dX2_findMove_6 : decode cX2_findMove 6 = .ok (.invokevirtual 115, 3) := by decide +kernel
theorem dX2_findMove_75 : decode cX2_findMove 75 = .ok (.iconst (-1), 1) := by decide +kernel
theorem dX2_findMove_76 : decode cX2_findMove 76 = .ok (.ireturn, 1) := by decide +kernel
theorem dX2_findMove_9 : decode cX2_findMove 9 = .ok (.iconst (-1), 1) := by decide +kernel
theorem dX2_kingless_0 : decode cX2_kingless 0 = .ok (.aload_n 0, 1) := by decide +kernel
theorem dX2_kingless_1 : decode cX2_kingless 1 = .ok (.getfield 21, 3) := by decide +kernel
theorem dX2_kingless_21 : decode cX2_kingless 21 = .ok (.aload_n 0, 1) := by decide +kernel
theorem dX2_kingless_22 : decode cX2_kingless 22 = .ok (.getfield 25, 3) := by decide +kernel
theorem dX2_kingless_25 : decode cX2_kingless 25 = .ok (.ifCond .eq 19, 3) := by decide +kernel
theorem dX2_kingless_4 : decode cX2_kingless 4 = .ok (.ifCond .eq 17, 3) := by decide +kernel
theorem dX2_kingless_44 : decode cX2_kingless 44 = .ok (.iconst (-1), 1) := by decide +kernel
theorem dX2_kingless_45 : decode cX2_kingless 45 = .ok (.ireturn, 1) := by decide +kernel
theorem dX2_loser_0 : decode cX2_loser 0 = .ok (.aload_n 0, 1) := by decide +kernel
theorem dX2_loser_1 : decode cX2_loser 1 = .ok (.aload_n 1, 1) := by decide +kernel
theorem dX2_loser_13 : decode cX2_loser 13 = .ok (.aload_n 0, 1) := by decide +kernel
theorem dX2_loser_14 : decode cX2_loser 14 = .ok (.aload_n 1, 1) := by decide +kernel
theorem dX2_loser_15 : decode cX2_loser 15 = .ok (.invokevirtual 158, 3) := by decide +kernel
theorem dX2_loser_18 : decode cX2_loser 18 = .ok (.ifCond .eq 7, 3) := by decide +kernel
theorem dX2_loser_2 : decode cX2_loser 2 = .ok (.invokevirtual 115, 3) := by decide +kernel
theorem dX2_loser_25 : decode cX2_loser 25 = .ok (.aload_n 1, 1) := by decide +kernel
theorem dX2_loser_26 : decode cX2_loser 26 = .ok (.getfield 123, 3) := by decide +kernel
theorem dX2_loser_29 : decode cX2_loser 29 = .ok (.ireturn, 1) := by decide +kernel
theorem dX2_loser_5 : decode cX2_loser 5 = .ok (.istore_n 2, 1) := by decide +kernel
theorem dX2_loser_6 : decode cX2_loser 6 = .ok (.iload_n 2, 1) := by decide +kernel
theorem dX2_loser_7 : decode cX2_loser 7 = .ok (.iconst (-1), 1) := by decide +kernel
theorem dX2_loser_8 : decode cX2_loser 8 = .ok (.if_icmp .eq 5, 3) := by decide +kernel
theorem dX3_boardNow_0 : decode cX3_boardNow 0 = .ok (.aload_n 0, 1) := by decide +kernel
theorem dX3_boardNow_1 : decode cX3_boardNow 1 = .ok (.getfield 34, 3) := by decide +kernel
theorem dX3_boardNow_10 : decode cX3_boardNow 10 = .ok (.iload_n 1, 1) := by decide +kernel
theorem dX3_boardNow_11 : decode cX3_boardNow 11 = .ok (.iadd, 1) := by decide +kernel
theorem dX3_boardNow_12 : decode cX3_boardNow 12 = .ok (.aaload, 1) := by decide +kernel
theorem dX3_boardNow_13 : decode cX3_boardNow 13 = .ok (.areturn, 1) := by decide +kernel
theorem dX3_boardNow_4 : decode cX3_boardNow 4 = .ok (.iconst 2, 1) := by decide +kernel
theorem dX3_boardNow_5 : decode cX3_boardNow 5 = .ok (.aload_n 0, 1) := by decide +kernel
theorem dX3_boardNow_6 : decode cX3_boardNow 6 = .ok (.getfield 9, 3) := by decide +kernel
theorem dX3_boardNow_9 : decode cX3_boardNow 9 = .ok (.imul, 1) := by decide +kernel
theorem dX4_clear_0 : decode cX4_clear 0 = .ok (.aload_n 0, 1) := by decide +kernel
theorem dX4_clear_1 : decode cX4_clear 1 = .ok (.iconst 0, 1) := by decide +kernel
theorem dX4_clear_10 : decode cX4_clear 10 = .ok (.aload_n 0, 1) := by decide +kernel
theorem dX4_clear_11 : decode cX4_clear 11 = .ok (.iconst 0, 1) := by decide +kernel
theorem dX4_clear_12 : decode cX4_clear 12 = .ok (.putfield 18, 3) := by decide +kernel
theorem dX4_clear_15 : decode cX4_clear 15 = .ok (.aload_n 0, 1) := by decide +kernel
theorem dX4_clear_16 : decode cX4_clear 16 = .ok (.iconst 0, 1) := by decide +kernel
theorem dX4_clear_17 : decode cX4_clear 17 = .ok (.putfield 21, 3) := by decide +kernel
theorem dX4_clear_2 : decode cX4_clear 2 = .ok (.putfield 9, 3) := by decide +kernel
theorem dX4_clear_20 : decode cX4_clear 20 = .ok (.aload_n 0, 1) := by decide +kernel
theorem dX4_clear_21 : decode cX4_clear 21 = .ok (.iconst 0, 1) := by decide +kernel
theorem dX4_clear_22 : decode cX4_clear 22 = .ok (.putfield 24, 3) := by decide +kernel
theorem dX4_clear_25 : decode cX4_clear 25 = .ok (.aload_n 0, 1) := by decide +kernel
theorem dX4_clear_26 : decode cX4_clear 26 = .ok (.iconst 0, 1) := by decide +kernel
theorem dX4_clear_27 : decode cX4_clear 27 = .ok (.putfield 27, 3) := by decide +kernel
theorem dX4_clear_30 : decode cX4_clear 30 = .ok (.aload_n 0, 1) := by decide +kernel
theorem dX4_clear_31 : decode cX4_clear 31 = .ok (.iconst 0, 1) := by decide +kernel
theorem dX4_clear_32 : decode cX4_clear 32 = .ok (.putfield 30, 3) := by decide +kernel
theorem dX4_clear_35 : decode cX4_clear 35 = .ok (.return_, 1) := by decide +kernel
theorem dX4_clear_5 : decode cX4_clear 5 = .ok (.aload_n 0, 1) := by decide +kernel
theorem dX4_clear_6 : decode cX4_clear 6 = .ok (.iconst 0, 1) := by decide +kernel
theorem dX4_clear_7 : decode cX4_clear 7 = .ok (.putfield 15, 3) := by decide +kernel
theorem dX5_look_0 : decode cX5_look 0 = .ok (.aload_n 0, 1) := by decide +kernel
theorem dX5_look_1 : decode cX5_look 1 = .ok (.getfield 18, 3) := by decide +kernel
theorem dX5_look_11 : decode cX5_look 11 = .ok (.if_icmp .ge 35, 3) := by decide +kernel
theorem dX5_look_14 : decode cX5_look 14 = .ok (.aload_n 0, 1) := by decide +kernel
theorem dX5_look_15 : decode cX5_look 15 = .ok (.aload_n 0, 1) := by decide +kernel
theorem dX5_look_16 : decode cX5_look 16 = .ok (.getfield 42, 3) := by decide +kernel
theorem dX5_look_19 : decode cX5_look 19 = .ok (.getfield 64, 3) := by decide +kernel
theorem dX5_look_22 : decode cX5_look 22 = .ok (.aload_n 0, 1) := by decide +kernel
theorem dX5_look_23 : decode cX5_look 23 = .ok (.getfield 18, 3) := by decide +kernel
theorem dX5_look_26 : decode cX5_look 26 = .ok (.baload, 1) := by decide +kernel
theorem dX5_look_27 : decode cX5_look 27 = .ok (.putfield 23, 3) := by decide +kernel
theorem dX5_look_30 : decode cX5_look 30 = .ok (.aload_n 0, 1) := by decide +kernel
theorem dX5_look_31 : decode cX5_look 31 = .ok (.aload_n 0, 1) := by decide +kernel
theorem dX5_look_32 : decode cX5_look 32 = .ok (.getfield 42, 3) := by decide +kernel
theorem dX5_look_35 : decode cX5_look 35 = .ok (.getfield 68, 3) := by decide +kernel
theorem dX5_look_38 : decode cX5_look 38 = .ok (.aload_n 0, 1) := by decide +kernel
theorem dX5_look_39 : decode cX5_look 39 = .ok (.getfield 18, 3) := by decide +kernel
theorem dX5_look_4 : decode cX5_look 4 = .ok (.aload_n 0, 1) := by decide +kernel
theorem dX5_look_42 : decode cX5_look 42 = .ok (.iaload, 1) := by decide +kernel
theorem dX5_look_43 : decode cX5_look 43 = .ok (.putfield 26, 3) := by decide +kernel
theorem dX5_look_46 : decode cX5_look 46 = .ok (.return_, 1) := by decide +kernel
theorem dX5_look_5 : decode cX5_look 5 = .ok (.getfield 42, 3) := by decide +kernel
theorem dX5_look_8 : decode cX5_look 8 = .ok (.getfield 61, 3) := by decide +kernel
theorem dX5_read_0 : decode cX5_read 0 = .ok (.aload_n 0, 1) := by decide +kernel
theorem dX5_read_1 : decode cX5_read 1 = .ok (.aload_n 2, 1) := by decide +kernel
theorem dX5_read_10 : decode cX5_read 10 = .ok (.aload_n 0, 1) := by decide +kernel
theorem dX5_read_11 : decode cX5_read 11 = .ok (.iconst (-1), 1) := by decide +kernel
theorem dX5_read_12 : decode cX5_read 12 = .ok (.putfield 15, 3) := by decide +kernel
theorem dX5_read_15 : decode cX5_read 15 = .ok (.aload_n 0, 1) := by decide +kernel
theorem dX5_read_16 : decode cX5_read 16 = .ok (.getfield 42, 3) := by decide +kernel
theorem dX5_read_19 : decode cX5_read 19 = .ok (.iload_n 1, 1) := by decide +kernel
theorem dX5_read_2 : decode cX5_read 2 = .ok (.putfield 46, 3) := by decide +kernel
theorem dX5_read_20 : decode cX5_read 20 = .ok (.invokevirtual 50, 3) := by decide +kernel
theorem dX5_read_23 : decode cX5_read 23 = .ok (.aload_n 0, 1) := by decide +kernel
theorem dX5_read_24 : decode cX5_read 24 = .ok (.iconst 0, 1) := by decide +kernel
theorem dX5_read_25 : decode cX5_read 25 = .ok (.putfield 18, 3) := by decide +kernel
theorem dX5_read_28 : decode cX5_read 28 = .ok (.aload_n 0, 1) := by decide +kernel
theorem dX5_read_29 : decode cX5_read 29 = .ok (.invokevirtual 54, 3) := by decide +kernel
theorem dX5_read_32 : decode cX5_read 32 = .ok (.iconst 0, 1) := by decide +kernel
theorem dX5_read_33 : decode cX5_read 33 = .ok (.istore_n 3, 1) := by decide +kernel
theorem dX5_read_34 : decode cX5_read 34 = .ok (.iload_n 3, 1) := by decide +kernel
theorem dX5_read_35 : decode cX5_read 35 = .ok (.sipush 1600, 3) := by decide +kernel
theorem dX5_read_38 : decode cX5_read 38 = .ok (.if_icmp .gt 25, 3) := by decide +kernel
theorem dX5_read_41 : decode cX5_read 41 = .ok (.aload_n 0, 1) := by decide +kernel
theorem dX5_read_42 : decode cX5_read 42 = .ok (.getfield 23, 3) := by decide +kernel
theorem dX5_read_45 : decode cX5_read 45 = .ok (.ifCond .eq 18, 3) := by decide +kernel
theorem dX5_read_5 : decode cX5_read 5 = .ok (.aload_n 0, 1) := by decide +kernel
theorem dX5_read_6 : decode cX5_read 6 = .ok (.iconst 0, 1) := by decide +kernel
theorem dX5_read_63 : decode cX5_read 63 = .ok (.iconst 1, 1) := by decide +kernel
theorem dX5_read_64 : decode cX5_read 64 = .ok (.ireturn, 1) := by decide +kernel
theorem dX5_read_7 : decode cX5_read 7 = .ok (.putfield 9, 3) := by decide +kernel
theorem dX9_endOfBlanks_0 : decode cX9_endOfBlanks 0 = .ok (.iload_n 1, 1) := by decide +kernel
theorem dX9_endOfBlanks_1 : decode cX9_endOfBlanks 1 = .ok (.istore_n 2, 1) := by decide +kernel
theorem dX9_endOfBlanks_2 : decode cX9_endOfBlanks 2 = .ok (.iload_n 2, 1) := by decide +kernel
theorem dX9_endOfBlanks_3 : decode cX9_endOfBlanks 3 = .ok (.aload_n 0, 1) := by decide +kernel
theorem dX9_endOfBlanks_38 : decode cX9_endOfBlanks 38 = .ok (.iload_n 2, 1) := by decide +kernel
theorem dX9_endOfBlanks_39 : decode cX9_endOfBlanks 39 = .ok (.ireturn, 1) := by decide +kernel
theorem dX9_endOfBlanks_4 : decode cX9_endOfBlanks 4 = .ok (.getfield 23, 3) := by decide +kernel
theorem dX9_endOfBlanks_7 : decode cX9_endOfBlanks 7 = .ok (.if_icmp .ge 31, 3) := by decide +kernel
theorem dX9_endOfToken_0 : decode cX9_endOfToken 0 = .ok (.iload_n 1, 1) := by decide +kernel
theorem dX9_endOfToken_1 : decode cX9_endOfToken 1 = .ok (.istore_n 2, 1) := by decide +kernel
theorem dX9_endOfToken_2 : decode cX9_endOfToken 2 = .ok (.aload_n 0, 1) := by decide +kernel
theorem dX9_endOfToken_3 : decode cX9_endOfToken 3 = .ok (.iload_n 1, 1) := by decide +kernel
theorem dX9_endOfToken_34 : decode cX9_endOfToken 34 = .ok (.iload_n 2, 1) := by decide +kernel
theorem dX9_endOfToken_35 : decode cX9_endOfToken 35 = .ok (.aload_n 0, 1) := by decide +kernel
theorem dX9_endOfToken_36 : decode cX9_endOfToken 36 = .ok (.getfield 23, 3) := by decide +kernel
theorem dX9_endOfToken_39 : decode cX9_endOfToken 39 = .ok (.if_icmp .ge 17, 3) := by decide +kernel
theorem dX9_endOfToken_4 : decode cX9_endOfToken 4 = .ok (.invokevirtual 45, 3) := by decide +kernel
theorem dX9_endOfToken_56 : decode cX9_endOfToken 56 = .ok (.iload_n 2, 1) := by decide +kernel
theorem dX9_endOfToken_57 : decode cX9_endOfToken 57 = .ok (.iload_n 1, 1) := by decide +kernel
theorem dX9_endOfToken_58 : decode cX9_endOfToken 58 = .ok (.if_icmp .le 7, 3) := by decide +kernel
theorem dX9_endOfToken_65 : decode cX9_endOfToken 65 = .ok (.iload_n 1, 1) := by decide +kernel
theorem dX9_endOfToken_66 : decode cX9_endOfToken 66 = .ok (.iconst 1, 1) := by decide +kernel
theorem dX9_endOfToken_67 : decode cX9_endOfToken 67 = .ok (.iadd, 1) := by decide +kernel
theorem dX9_endOfToken_68 : decode cX9_endOfToken 68 = .ok (.ireturn, 1) := by decide +kernel
theorem dX9_endOfToken_7 : decode cX9_endOfToken 7 = .ok (.ifCond .eq 27, 3) := by decide +kernel
theorem dX9_isDigit_0 : decode cX9_isDigit 0 = .ok (.iload_n 1, 1) := by decide +kernel
theorem dX9_isDigit_1 : decode cX9_isDigit 1 = .ok (.aload_n 0, 1) := by decide +kernel
theorem dX9_isDigit_2 : decode cX9_isDigit 2 = .ok (.getfield 23, 3) := by decide +kernel
theorem dX9_isDigit_34 : decode cX9_isDigit 34 = .ok (.iconst 0, 1) := by decide +kernel
theorem dX9_isDigit_35 : decode cX9_isDigit 35 = .ok (.ireturn, 1) := by decide +kernel
theorem dX9_isDigit_5 : decode cX9_isDigit 5 = .ok (.if_icmp .ge 29, 3) := by decide +kernel
theorem dX9_kindOf_0 : decode cX9_kindOf 0 = .ok (.iload_n 1, 1) := by decide +kernel
theorem dX9_kindOf_1 : decode cX9_kindOf 1 = .ok (.aload_n 0, 1) := by decide +kernel
theorem dX9_kindOf_2 : decode cX9_kindOf 2 = .ok (.getfield 23, 3) := by decide +kernel
theorem dX9_kindOf_5 : decode cX9_kindOf 5 = .ok (.if_icmp .lt 5, 3) := by decide +kernel
theorem dX9_kindOf_8 : decode cX9_kindOf 8 = .ok (.iconst 0, 1) := by decide +kernel
theorem dX9_kindOf_9 : decode cX9_kindOf 9 = .ok (.ireturn, 1) := by decide +kernel
theorem dX9_scan_0 : decode cX9_scan 0 = .ok (.aload_n 0, 1) := by decide +kernel
theorem dX9_scan_1 : decode cX9_scan 1 = .ok (.iload_n 1, 1) := by decide +kernel
theorem dX9_scan_10 : decode cX9_scan 10 = .ok (.putfield 23, 3) := by decide +kernel
theorem dX9_scan_13 : decode cX9_scan 13 = .ok (.aload_n 0, 1) := by decide +kernel
theorem dX9_scan_14 : decode cX9_scan 14 = .ok (.iconst 0, 1) := by decide +kernel
theorem dX9_scan_15 : decode cX9_scan 15 = .ok (.putfield 9, 3) := by decide +kernel
theorem dX9_scan_18 : decode cX9_scan 18 = .ok (.iconst 3, 1) := by decide +kernel
theorem dX9_scan_19 : decode cX9_scan 19 = .ok (.istore_n 2, 1) := by decide +kernel
theorem dX9_scan_2 : decode cX9_scan 2 = .ok (.aload_n 0, 1) := by decide +kernel
theorem dX9_scan_20 : decode cX9_scan 20 = .ok (.iconst 0, 1) := by decide +kernel
theorem dX9_scan_21 : decode cX9_scan 21 = .ok (.istore_n 3, 1) := by decide +kernel
theorem dX9_scan_22 : decode cX9_scan 22 = .ok (.aload_n 0, 1) := by decide +kernel
theorem dX9_scan_23 : decode cX9_scan 23 = .ok (.getfield 9, 3) := by decide +kernel
theorem dX9_scan_26 : decode cX9_scan 26 = .ok (.sipush 1600, 3) := by decide +kernel
theorem dX9_scan_29 : decode cX9_scan 29 = .ok (.if_icmp .gt 70, 3) := by decide +kernel
theorem dX9_scan_3 : decode cX9_scan 3 = .ok (.getfield 26, 3) := by decide +kernel
theorem dX9_scan_32 : decode cX9_scan 32 = .ok (.iload_n 2, 1) := by decide +kernel
theorem dX9_scan_33 : decode cX9_scan 33 = .ok (.ifCond .eq 66, 3) := by decide +kernel
theorem dX9_scan_36 : decode cX9_scan 36 = .ok (.iload_n 2, 1) := by decide +kernel
theorem dX9_scan_37 : decode cX9_scan 37 = .ok (.iconst 1, 1) := by decide +kernel
theorem dX9_scan_38 : decode cX9_scan 38 = .ok (.if_icmp .eq 61, 3) := by decide +kernel
theorem dX9_scan_41 : decode cX9_scan 41 = .ok (.aload_n 0, 1) := by decide +kernel
theorem dX9_scan_42 : decode cX9_scan 42 = .ok (.iload_n 3, 1) := by decide +kernel
theorem dX9_scan_43 : decode cX9_scan 43 = .ok (.invokevirtual 35, 3) := by decide +kernel
theorem dX9_scan_46 : decode cX9_scan 46 = .ok (.istore_n 3, 1) := by decide +kernel
theorem dX9_scan_47 : decode cX9_scan 47 = .ok (.aload_n 0, 1) := by decide +kernel
theorem dX9_scan_48 : decode cX9_scan 48 = .ok (.iload_n 3, 1) := by decide +kernel
theorem dX9_scan_49 : decode cX9_scan 49 = .ok (.invokevirtual 39, 3) := by decide +kernel
theorem dX9_scan_52 : decode cX9_scan 52 = .ok (.istore 4, 2) := by decide +kernel
theorem dX9_scan_54 : decode cX9_scan 54 = .ok (.aload_n 0, 1) := by decide +kernel
theorem dX9_scan_55 : decode cX9_scan 55 = .ok (.iload_n 3, 1) := by decide +kernel
theorem dX9_scan_56 : decode cX9_scan 56 = .ok (.iload 4, 2) := by decide +kernel
theorem dX9_scan_58 : decode cX9_scan 58 = .ok (.invokevirtual 42, 3) := by decide +kernel
theorem dX9_scan_6 : decode cX9_scan 6 = .ok (.arraylength, 1) := by decide +kernel
theorem dX9_scan_61 : decode cX9_scan 61 = .ok (.istore_n 2, 1) := by decide +kernel
theorem dX9_scan_62 : decode cX9_scan 62 = .ok (.aload_n 0, 1) := by decide +kernel
theorem dX9_scan_63 : decode cX9_scan 63 = .ok (.getfield 15, 3) := by decide +kernel
theorem dX9_scan_66 : decode cX9_scan 66 = .ok (.aload_n 0, 1) := by decide +kernel
theorem dX9_scan_67 : decode cX9_scan 67 = .ok (.getfield 9, 3) := by decide +kernel
theorem dX9_scan_7 : decode cX9_scan 7 = .ok (.invokestatic 29, 3) := by decide +kernel
theorem dX9_scan_70 : decode cX9_scan 70 = .ok (.iload_n 2, 1) := by decide +kernel
theorem dX9_scan_71 : decode cX9_scan 71 = .ok (.i2b, 1) := by decide +kernel
theorem dX9_scan_72 : decode cX9_scan 72 = .ok (.bastore, 1) := by decide +kernel
theorem dX9_scan_73 : decode cX9_scan 73 = .ok (.aload_n 0, 1) := by decide +kernel
theorem dX9_scan_74 : decode cX9_scan 74 = .ok (.getfield 19, 3) := by decide +kernel
theorem dX9_scan_77 : decode cX9_scan 77 = .ok (.aload_n 0, 1) := by decide +kernel
theorem dX9_scan_78 : decode cX9_scan 78 = .ok (.getfield 9, 3) := by decide +kernel
theorem dX9_scan_81 : decode cX9_scan 81 = .ok (.iload_n 3, 1) := by decide +kernel
theorem dX9_scan_82 : decode cX9_scan 82 = .ok (.iastore, 1) := by decide +kernel
theorem dX9_scan_83 : decode cX9_scan 83 = .ok (.aload_n 0, 1) := by decide +kernel
theorem dX9_scan_84 : decode cX9_scan 84 = .ok (.dup, 1) := by decide +kernel
theorem dX9_scan_85 : decode cX9_scan 85 = .ok (.getfield 9, 3) := by decide +kernel
theorem dX9_scan_88 : decode cX9_scan 88 = .ok (.iconst 1, 1) := by decide +kernel
theorem dX9_scan_89 : decode cX9_scan 89 = .ok (.iadd, 1) := by decide +kernel
theorem dX9_scan_90 : decode cX9_scan 90 = .ok (.putfield 9, 3) := by decide +kernel
theorem dX9_scan_93 : decode cX9_scan 93 = .ok (.iload 4, 2) := by decide +kernel
theorem dX9_scan_95 : decode cX9_scan 95 = .ok (.istore_n 3, 1) := by decide +kernel
theorem dX9_scan_96 : decode cX9_scan 96 = .ok (.goto (-74), 3) := by decide +kernel
theorem dX9_scan_99 : decode cX9_scan 99 = .ok (.return_, 1) := by decide +kernel
set_option maxRecDepth 20000 in
theorem ggX10_forget_X4_clear : GoodIn wsX10_forget wsX4_clear := goodIn_r _ [11, 12, 13, 14, 15, 16, 17, 18, 32, 33, 34, 35, 36, 37, 38] (by decide +kernel) (by decide +kernel)
set_option maxRecDepth 20000 in
theorem gX10_forget_X4_clear : GoodIn wsX10_forget (wsV RX10 57 RX4 yX4_clear wsX4_clear) := goodIn_app (goodIn_of _ (by decide +kernel)) ggX10_forget_X4_clear
set_option maxRecDepth 20000 in
theorem ggX11_at_X11_isKeeper : GoodIn wsX11_at wsX11_isKeeper := goodIn_r _ [7] (by decide +kernel) (by decide +kernel)
set_option maxRecDepth 20000 in
theorem gX11_at_X11_isKeeper : GoodIn wsX11_at (va_wsS RX11 131 yX11_isKeeper wsX11_isKeeper) := goodIn_app (goodIn_of _ (by decide +kernel)) ggX11_at_X11_isKeeper
set_option maxRecDepth 20000 in
theorem ggX11_feed_X11_putFour : GoodIn wsX11_feed wsX11_putFour := goodIn_r _ [6, 1, 7, 8, 9, 10, 11, 12, 13, 14, 15, 16, 17, 18, 19] (by decide +kernel) (by decide +kernel)
set_option maxRecDepth 20000 in
theorem gX11_feed_X11_putFour : GoodIn wsX11_feed (wsV RX11 94 RX11 yX11_putFour wsX11_putFour) := goodIn_app (goodIn_of _ (by decide +kernel)) ggX11_feed_X11_putFour
set_option maxRecDepth 20000 in
theorem ggX11_game_X10_forget : GoodIn wsX11_game wsX10_forget := goodIn_r _ [10, 11, 12, 13, 14, 15, 16, 17, 18, 19, 20, 21, 22, 23, 24, 25, 26, 27, 28, 367, 368, 369, 370, 371, 372, 373, 374, 375, 376, 377, 378, 379, 380, 381, 382, 383, 384, 385, 386] (by decide +kernel) (by decide +kernel)
set_option maxRecDepth 20000 in
theorem gX11_game_X10_forget : GoodIn wsX11_game (wsV RX11 98 RX10 yX10_forget wsX10_forget) := goodIn_app (goodIn_of _ (by decide +kernel)) ggX11_game_X10_forget
set_option maxRecDepth 20000 in
theorem ggX11_game_X11_begin : GoodIn wsX11_game wsX11_begin := goodIn_r _ [242, 243, 4, 244, 245, 246, 247, 248, 249, 250, 251, 252, 253, 254, 255, 256, 257, 258, 259, 260, 261, 262, 263, 264, 265, 266, 267, 268, 269, 270, 271, 272, 273, 274, 275, 276, 277, 278, 279, 280, 281, 282, 283, 284, 285, 286, 287, 288, 289, 290, 291, 292, 293, 294, 295, 296, 297, 298, 299, 300, 301, 302, 303, 304, 305, 306, 307, 308, 309, 310, 311, 312, 313, 314, 315, 316, 317, 20, 318, 22, 23, 24, 25, 26, 27, 28, 319, 320, 321, 322, 323, 324, 325, 326, 327, 328, 329, 330, 331, 332, 333, 334, 335, 336, 337, 338, 339, 340, 341, 342, 343, 344, 345, 346, 347, 348, 349, 350, 351, 352, 353, 354, 355, 356, 357, 358, 359, 360, 361, 362, 363, 364, 365, 366, 367, 368, 369, 370, 371, 372, 373, 374, 375, 376, 377, 378, 379, 402, 403, 404, 405, 406, 407, 408, 409, 410, 411, 412, 413, 414, 415, 416, 417, 418, 419, 420, 421, 380, 381, 382, 383, 384, 385, 386, 422, 423, 424, 425, 426, 427, 428, 429, 430, 431, 432, 433, 434, 435, 436, 437] (by decide +kernel) (by decide +kernel)
set_option maxRecDepth 20000 in
theorem gX11_game_X11_begin : GoodIn wsX11_game (wsV RX11 91 RX11 yX11_begin wsX11_begin) := goodIn_app (goodIn_of _ (by decide +kernel)) ggX11_game_X11_begin
set_option maxRecDepth 20000 in
theorem ggX11_game_X5_read : GoodIn wsX11_game wsX5_read := goodIn_r _ [33, 34, 35, 36, 37, 38, 39, 40, 41, 42, 43, 44, 45, 46, 47, 48, 49, 50, 51, 52, 53, 54, 55, 56, 57, 58, 59, 60, 61, 62, 63, 64, 65, 66, 67, 68, 69, 70, 71, 72, 73, 74, 75, 76, 77, 78, 79, 80, 81, 82, 83, 84, 85, 86, 87, 88, 89, 90, 91, 92, 93, 94, 95, 96, 97, 98, 99, 100, 101, 102, 103, 104, 105, 106, 107, 108, 109, 110, 111, 112, 113, 114, 115, 116, 117, 118, 119, 120, 121, 122, 123, 124, 125, 126, 127, 128, 129, 130, 131, 132, 133, 134, 135, 136, 137, 138, 139, 140, 141, 32, 142, 143, 144, 145, 146, 147, 148, 149, 150, 151, 152, 153, 154, 155, 156, 157, 158, 159, 160, 161, 162, 163, 164, 165, 166, 167, 168, 169, 170, 171, 172, 173, 174, 175, 176, 177, 178, 179, 180, 181, 182, 183, 184, 185, 186, 187, 188, 189, 190, 191, 192, 193, 194, 195, 196, 197, 198, 199, 200, 201, 9, 202, 13, 203, 204, 205, 206, 207, 208, 209, 210, 211, 212, 213, 214, 215, 216, 217, 218, 219, 220, 221, 222, 223, 224, 225, 226, 227, 20, 228, 23, 24, 229, 230, 231, 232, 25, 26, 27, 28, 233, 234, 235, 236, 237, 387, 388, 389, 390, 391, 392, 393, 394, 395, 396, 397, 398, 399, 400, 401, 367, 368, 369, 370, 371, 372, 373, 374, 375, 376, 377, 378, 379, 380, 381, 382, 383, 384, 385, 386] (by decide +kernel) (by decide +kernel)
set_option maxRecDepth 20000 in
theorem gX11_game_X5_read : GoodIn wsX11_game (wsV RX11 101 RX5 yX5_read wsX5_read) := goodIn_app (goodIn_of _ (by decide +kernel)) ggX11_game_X5_read
set_option maxRecDepth 20000 in
theorem ggX11_move_X11_isKeeper : GoodIn wsX11_move wsX11_isKeeper := goodIn_r _ [6] (by decide +kernel) (by decide +kernel)
set_option maxRecDepth 20000 in
theorem gX11_move_X11_isKeeper : GoodIn wsX11_move (va_wsS RX11 131 yX11_isKeeper wsX11_isKeeper) := goodIn_app (goodIn_of _ (by decide +kernel)) ggX11_move_X11_isKeeper
set_option maxRecDepth 20000 in
theorem ggX11_move_X2_findMove : GoodIn wsX11_move wsX2_findMove := goodIn_r _ [18, 19, 20, 21, 22, 17, 23, 24, 25, 26, 27, 28, 29, 30, 31, 32, 33, 34, 35, 36, 37, 38, 39, 40, 41, 42, 43, 44, 45, 46, 47, 48, 49, 50, 51, 52, 53, 54, 55, 56, 57, 58, 59, 60, 61, 62, 63, 64, 65, 66, 67, 68, 69, 70, 107, 108, 109, 110, 111, 112, 113, 114, 115, 116, 117, 118, 119, 120, 121, 122, 123, 124, 125] (by decide +kernel) (by decide +kernel)
set_option maxRecDepth 20000 in
theorem gX11_move_X2_findMove : GoodIn wsX11_move (wsV RX11 155 RX2 yX2_findMove wsX2_findMove) := goodIn_app (goodIn_of _ (by decide +kernel)) ggX11_move_X2_findMove
set_option maxRecDepth 20000 in
theorem ggX11_move_X3_boardNow : GoodIn wsX11_move wsX3_boardNow := goodIn_r _ [11, 12, 13, 98, 99, 100, 101, 102, 103, 104, 105, 106] (by decide +kernel) (by decide +kernel)
set_option maxRecDepth 20000 in
theorem gX11_move_X3_boardNow : GoodIn wsX11_move (wsV RX11 138 RX3 yX3_boardNow wsX3_boardNow) := goodIn_app (goodIn_of _ (by decide +kernel)) ggX11_move_X3_boardNow
set_option maxRecDepth 20000 in
theorem ggX11_moves_X11_isKeeper : GoodIn wsX11_moves wsX11_isKeeper := goodIn_r _ [6] (by decide +kernel) (by decide +kernel)
set_option maxRecDepth 20000 in
theorem gX11_moves_X11_isKeeper : GoodIn wsX11_moves (va_wsS RX11 131 yX11_isKeeper wsX11_isKeeper) := goodIn_app (goodIn_of _ (by decide +kernel)) ggX11_moves_X11_isKeeper
set_option maxRecDepth 20000 in
theorem ggX11_moves_X2_countMoves : GoodIn wsX11_moves wsX2_countMoves := goodIn_r _ [18, 19, 20, 21, 22, 17, 23, 24, 25, 26, 27, 28, 29, 30, 31, 32, 33, 34, 35, 36, 37, 38, 39, 40, 41, 42, 43, 44, 45, 46, 47, 48, 49, 50, 51, 52, 53, 54, 55, 56, 57, 58, 59, 60, 61, 62, 63, 64, 65, 66, 67, 89, 90, 91, 92, 93, 94, 95, 96, 97, 98, 99, 100, 101, 102, 103, 104, 105, 106, 107] (by decide +kernel) (by decide +kernel)
set_option maxRecDepth 20000 in
theorem gX11_moves_X2_countMoves : GoodIn wsX11_moves (wsV RX11 151 RX2 yX2_countMoves wsX2_countMoves) := goodIn_app (goodIn_of _ (by decide +kernel)) ggX11_moves_X2_countMoves
set_option maxRecDepth 20000 in
theorem ggX11_moves_X3_boardNow : GoodIn wsX11_moves wsX3_boardNow := goodIn_r _ [11, 12, 13, 80, 81, 82, 83, 84, 85, 86, 87, 88] (by decide +kernel) (by decide +kernel)
set_option maxRecDepth 20000 in
theorem gX11_moves_X3_boardNow : GoodIn wsX11_moves (wsV RX11 138 RX3 yX3_boardNow wsX3_boardNow) := goodIn_app (goodIn_of _ (by decide +kernel)) ggX11_moves_X3_boardNow
set_option maxRecDepth 20000 in
theorem ggX11_turn_X11_isKeeper : GoodIn wsX11_turn wsX11_isKeeper := goodIn_r _ [6] (by decide +kernel) (by decide +kernel)
set_option maxRecDepth 20000 in
theorem gX11_turn_X11_isKeeper : GoodIn wsX11_turn (va_wsS RX11 131 yX11_isKeeper wsX11_isKeeper) := goodIn_app (goodIn_of _ (by decide +kernel)) ggX11_turn_X11_isKeeper
set_option maxRecDepth 20000 in
theorem ggX11_turn_X3_boardNow : GoodIn wsX11_turn wsX3_boardNow := goodIn_r _ [11, 12, 13, 33, 34, 35, 36, 37, 38, 39, 40, 41] (by decide +kernel) (by decide +kernel)
set_option maxRecDepth 20000 in
theorem gX11_turn_X3_boardNow : GoodIn wsX11_turn (wsV RX11 138 RX3 yX3_boardNow wsX3_boardNow) := goodIn_app (goodIn_of _ (by decide +kernel)) ggX11_turn_X3_boardNow
set_option maxRecDepth 20000 in
theorem ggX2_findMove_X2_kingless : GoodIn wsX2_findMove wsX2_kingless := goodIn_r _ [6, 7, 8, 9, 10, 11, 54, 55, 56, 57, 58, 59, 60, 61, 62, 63, 64, 65, 66, 67, 68, 69, 70, 71, 72] (by decide +kernel) (by decide +kernel)
set_option maxRecDepth 20000 in
theorem gX2_findMove_X2_kingless : GoodIn wsX2_findMove (wsV RX2 115 RX2 yX2_kingless wsX2_kingless) := goodIn_app (goodIn_of _ (by decide +kernel)) ggX2_findMove_X2_kingless
set_option maxRecDepth 20000 in
theorem ggX2_loser_X2_canMove : GoodIn wsX2_loser wsX2_canMove := goodIn_r _ [15, 16, 17, 18, 19, 5, 20, 1, 21, 22, 23, 24, 25, 26, 27, 28, 29, 30, 31, 32, 33, 34, 35, 36, 37, 38, 39, 40, 41, 42, 43, 44, 45, 46, 47, 55, 56, 57, 58, 59, 60, 61, 62, 63, 64, 65, 66, 48, 49, 50, 51, 52, 53, 54] (by decide +kernel) (by decide +kernel)
set_option maxRecDepth 20000 in
theorem gX2_loser_X2_canMove : GoodIn wsX2_loser (wsV RX2 158 RX2 yX2_canMove wsX2_canMove) := goodIn_app (goodIn_of _ (by decide +kernel)) ggX2_loser_X2_canMove
set_option maxRecDepth 20000 in
theorem ggX2_loser_X2_kingless : GoodIn wsX2_loser wsX2_kingless := goodIn_r _ [6, 7, 8, 9, 10, 11, 55, 56, 57, 58, 59, 60, 61, 62, 63, 64, 65, 66, 48, 49, 50, 51, 52, 53, 54] (by decide +kernel) (by decide +kernel)
set_option maxRecDepth 20000 in
theorem gX2_loser_X2_kingless : GoodIn wsX2_loser (wsV RX2 115 RX2 yX2_kingless wsX2_kingless) := goodIn_app (goodIn_of _ (by decide +kernel)) ggX2_loser_X2_kingless
set_option maxRecDepth 20000 in
theorem ggX5_read_X5_look : GoodIn wsX5_read wsX5_look := goodIn_r _ [110, 5, 4, 111, 112, 6, 113, 114, 215, 216, 217, 218, 219, 220, 221, 222, 223, 224, 225, 226, 227, 228, 229] (by decide +kernel) (by decide +kernel)
set_option maxRecDepth 20000 in
theorem gX5_read_X5_look : GoodIn wsX5_read (wsV RX5 54 RX5 yX5_look wsX5_look) := goodIn_app (goodIn_of _ (by decide +kernel)) ggX5_read_X5_look
set_option maxRecDepth 20000 in
theorem ggX5_read_X9_scan : GoodIn wsX5_read wsX9_scan := goodIn_r _ [11, 12, 13, 14, 15, 16, 17, 18, 19, 20, 21, 22, 23, 10, 24, 25, 26, 27, 28, 29, 30, 31, 32, 33, 34, 35, 36, 37, 38, 39, 40, 41, 42, 43, 44, 45, 46, 47, 48, 49, 50, 51, 52, 53, 54, 55, 56, 57, 58, 59, 60, 61, 62, 63, 64, 65, 66, 67, 68, 69, 70, 71, 72, 73, 74, 75, 76, 77, 78, 79, 80, 81, 82, 83, 84, 85, 86, 87, 88, 89, 90, 91, 92, 93, 94, 95, 96, 97, 98, 99, 100, 101, 102, 103, 104, 105, 225, 226, 227, 228, 229] (by decide +kernel) (by decide +kernel)
set_option maxRecDepth 20000 in
theorem gX5_read_X9_scan : GoodIn wsX5_read (wsV RX5 50 RX9 yX9_scan wsX9_scan) := goodIn_app (goodIn_of _ (by decide +kernel)) ggX5_read_X9_scan
set_option maxRecDepth 20000 in
theorem ggX9_endOfToken_X9_isDigit : GoodIn wsX9_endOfToken wsX9_isDigit := goodIn_r _ [6, 1, 7, 12, 13, 14, 15, 16] (by decide +kernel) (by decide +kernel)
set_option maxRecDepth 20000 in
theorem gX9_endOfToken_X9_isDigit : GoodIn wsX9_endOfToken (wsV RX9 45 RX9 yX9_isDigit wsX9_isDigit) := goodIn_app (goodIn_of _ (by decide +kernel)) ggX9_endOfToken_X9_isDigit
set_option maxRecDepth 20000 in
theorem ggX9_scan_X9_endOfBlanks : GoodIn wsX9_scan wsX9_endOfBlanks := goodIn_r _ [14, 6, 1, 96, 97, 98, 99, 100] (by decide +kernel) (by decide +kernel)
set_option maxRecDepth 20000 in
theorem gX9_scan_X9_endOfBlanks : GoodIn wsX9_scan (wsV RX9 35 RX9 yX9_endOfBlanks wsX9_endOfBlanks) := goodIn_app (goodIn_of _ (by decide +kernel)) ggX9_scan_X9_endOfBlanks
set_option maxRecDepth 20000 in
theorem ggX9_scan_X9_endOfToken : GoodIn wsX9_scan wsX9_endOfToken := goodIn_r _ [18, 6, 19, 20, 21, 13, 22, 1, 23, 24, 25, 26, 96, 97, 98, 99, 100] (by decide +kernel) (by decide +kernel)
set_option maxRecDepth 20000 in
theorem gX9_scan_X9_endOfToken : GoodIn wsX9_scan (wsV RX9 39 RX9 yX9_endOfToken wsX9_endOfToken) := goodIn_app (goodIn_of _ (by decide +kernel)) ggX9_scan_X9_endOfToken
set_option maxRecDepth 20000 in
theorem ggX9_scan_X9_kindOf : GoodIn wsX9_scan wsX9_kindOf := goodIn_r _ [30, 6, 1, 19, 20, 21, 13, 22, 23, 24, 25, 26, 31, 32, 33, 34, 35, 36, 37, 38, 39, 40, 41, 42, 43, 44, 45, 46, 47, 48, 49, 50, 51, 52, 53, 54, 55, 56, 57, 58, 59, 60, 61, 62, 63, 64, 65, 66, 67, 68, 69, 70, 71, 72, 73, 74, 75, 76, 77, 78, 79, 80, 81, 82, 83, 84, 85, 86, 87, 88, 89, 90, 91, 92, 93, 94, 95, 96, 97, 98, 99, 100] (by decide +kernel) (by decide +kernel)
set_option maxRecDepth 20000 in
theorem gX9_scan_X9_kindOf : GoodIn wsX9_scan (wsV RX9 42 RX9 yX9_kindOf wsX9_kindOf) := goodIn_app (goodIn_of _ (by decide +kernel)) ggX9_scan_X9_kindOf
theorem zk_0 : (0 : Int32).toInt = 0 := by decide
theorem zk_1 : (1 : Int32).toInt = 1 := by decide
theorem zk_2 : (2 : Int32).toInt = 2 := by decide
theorem iuX11_putFour_X11 : ∀ w ∈ u_ws RX11 TX11 12, w ∈ wsX11_putFour := fun _ h => List.mem_cons_of_mem _ (List.mem_append_right _ h)
theorem iuX11_feed_X11 : ∀ w ∈ u_ws RX11 TX11 12, w ∈ wsX11_feed := fun _ h => List.mem_cons_of_mem _ (List.mem_append_right _ h)
theorem iuX11_end_X11 : ∀ w ∈ u_ws RX11 TX11 12, w ∈ wsX11_end := fun _ h => List.mem_cons_of_mem _ (List.mem_append_right _ h)
theorem iuX4_clear_X4 : ∀ w ∈ u_ws RX4 TX4 7, w ∈ wsX4_clear := fun _ h => List.mem_cons_of_mem _ (List.mem_append_right _ h)
theorem iuX10_forget_X10 : ∀ w ∈ u_ws RX10 TX10 13, w ∈ wsX10_forget := fun _ h => List.mem_cons_of_mem _ (List.mem_append_left _ (List.mem_append_right _ h))
theorem iuX9_endOfBlanks_X9 : ∀ w ∈ u_ws RX9 TX9 5, w ∈ wsX9_endOfBlanks := fun _ h => List.mem_cons_of_mem _ (List.mem_append_right _ h)
theorem iuX9_isDigit_X9 : ∀ w ∈ u_ws RX9 TX9 5, w ∈ wsX9_isDigit := fun _ h => List.mem_cons_of_mem _ (List.mem_append_right _ h)
theorem iuX9_endOfToken_X9 : ∀ w ∈ u_ws RX9 TX9 5, w ∈ wsX9_endOfToken := fun _ h => List.mem_cons_of_mem _ (List.mem_append_right _ h)
theorem iuX9_kindOf_X9 : ∀ w ∈ u_ws RX9 TX9 5, w ∈ wsX9_kindOf := fun _ h => List.mem_cons_of_mem _ (List.mem_append_right _ h)
theorem iuX9_scan_X9 : ∀ w ∈ u_ws RX9 TX9 5, w ∈ wsX9_scan := fun _ h => List.mem_cons_of_mem _ (List.mem_append_right _ h)
theorem iuX5_look_X5 : ∀ w ∈ u_ws RX5 TX5 10, w ∈ wsX5_look := fun _ h => List.mem_cons_of_mem _ (List.mem_append_left _ (List.mem_append_right _ h))
theorem iuX5_look_X9 : ∀ w ∈ u_ws RX9 TX9 5, w ∈ wsX5_look := fun _ h => List.mem_cons_of_mem _ (List.mem_append_right _ h)
theorem iuX5_read_X5 : ∀ w ∈ u_ws RX5 TX5 10, w ∈ wsX5_read := fun _ h => List.mem_cons_of_mem _ (List.mem_append_left _ (List.mem_append_left _ (List.mem_append_left _ (List.mem_append_right _ h))))
theorem iuX11_game_X10 : ∀ w ∈ u_ws RX10 TX10 13, w ∈ wsX11_game := fun _ h => List.mem_cons_of_mem _ (List.mem_append_left _ (List.mem_append_left _ (List.mem_append_left _ (List.mem_append_left _ (List.mem_append_left _ (List.mem_append_left _ (List.mem_append_left _ (List.mem_append_right _ h))))))))
theorem iuX11_game_X11 : ∀ w ∈ u_ws RX11 TX11 12, w ∈ wsX11_game := fun _ h => List.mem_cons_of_mem _ (List.mem_append_left _ (List.mem_append_left _ (List.mem_append_left _ (List.mem_append_left _ (List.mem_append_left _ (List.mem_append_left _ (List.mem_append_left _ (List.mem_append_left _ (List.mem_append_right _ h)))))))))
theorem iuX11_fault_X11 : ∀ w ∈ u_ws RX11 TX11 12, w ∈ wsX11_fault := fun _ h => List.mem_cons_of_mem _ (List.mem_append_left _ (List.mem_append_right _ h))
theorem iuX11_fault_X5 : ∀ w ∈ u_ws RX5 TX5 10, w ∈ wsX11_fault := fun _ h => List.mem_cons_of_mem _ (List.mem_append_right _ h)
theorem iuX11_at_X11 : ∀ w ∈ u_ws RX11 TX11 12, w ∈ wsX11_at := fun _ h => List.mem_cons_of_mem _ (List.mem_append_left _ (List.mem_append_left _ (List.mem_append_left _ (List.mem_append_right _ h))))
theorem iuX11_at_X2 : ∀ w ∈ u_ws RX2 TX2 12, w ∈ wsX11_at := fun _ h => List.mem_cons_of_mem _ (List.mem_append_left _ (List.mem_append_left _ (List.mem_append_right _ h)))
theorem iuX3_boardNow_X3 : ∀ w ∈ u_ws RX3 TX3 9, w ∈ wsX3_boardNow := fun _ h => List.mem_cons_of_mem _ (List.mem_append_right _ h)
theorem iuX11_turn_X11 : ∀ w ∈ u_ws RX11 TX11 12, w ∈ wsX11_turn := fun _ h => List.mem_cons_of_mem _ (List.mem_append_left _ (List.mem_append_left _ (List.mem_append_right _ h)))
theorem iuX11_turn_X4 : ∀ w ∈ u_ws RX4 TX4 7, w ∈ wsX11_turn := fun _ h => List.mem_cons_of_mem _ (List.mem_append_left _ (List.mem_append_right _ h))
theorem iuX2_countMoves_X2 : ∀ w ∈ u_ws RX2 TX2 12, w ∈ wsX2_countMoves := fun _ h => List.mem_cons_of_mem _ (List.mem_append_left _ (List.mem_append_right _ h))
theorem iuX11_moves_X11 : ∀ w ∈ u_ws RX11 TX11 12, w ∈ wsX11_moves := fun _ h => List.mem_cons_of_mem _ (List.mem_append_left _ (List.mem_append_left _ (List.mem_append_left _ (List.mem_append_right _ h))))
theorem iuX2_kingless_X2 : ∀ w ∈ u_ws RX2 TX2 12, w ∈ wsX2_kingless := fun _ h => List.mem_cons_of_mem _ (List.mem_append_left _ (List.mem_append_right _ h))
theorem iuX2_findMove_X2 : ∀ w ∈ u_ws RX2 TX2 12, w ∈ wsX2_findMove := fun _ h => List.mem_cons_of_mem _ (List.mem_append_left _ (List.mem_append_right _ h))
theorem iuX11_move_X11 : ∀ w ∈ u_ws RX11 TX11 12, w ∈ wsX11_move := fun _ h => List.mem_cons_of_mem _ (List.mem_append_left _ (List.mem_append_left _ (List.mem_append_left _ (List.mem_append_right _ h))))
theorem iuX2_canMove_X2 : ∀ w ∈ u_ws RX2 TX2 12, w ∈ wsX2_canMove := fun _ h => List.mem_cons_of_mem _ (List.mem_append_left _ (List.mem_append_right _ h))
theorem iuX2_loser_X4 : ∀ w ∈ u_ws RX4 TX4 7, w ∈ wsX2_loser := fun _ h => List.mem_cons_of_mem _ (List.mem_append_left _ (List.mem_append_right _ h))
def an_end (x0 : Int32) : Int32 := if (0 ≤ x0.toInt ∧ x0.toInt ≤ 0) then 0 else (-1)
def an_fault (x0 : Int32) : Int32 := if (0 ≤ x0.toInt ∧ x0.toInt ≤ 0) then 0 else (-1)
def an_turn (x0 : Int32) : Int32 := if (0 ≤ x0.toInt ∧ x0.toInt ≤ 1) then 0 else (-1)
def an_moves (x0 : Int32) : Int32 := if (0 ≤ x0.toInt ∧ x0.toInt ≤ 1) then 0 else (-1)
def an_lost (x0 : Int32) : Int32 := if (0 ≤ x0.toInt ∧ x0.toInt ≤ 1) then 0 else (-2)
def an_value (x0 : Int32) (x1 : Int32) : Int32 := if (0 ≤ x0.toInt ∧ x0.toInt ≤ 1) ∧ (0 ≤ x1.toInt ∧ x1.toInt ≤ 4) then (-1) else (-3)
def an_could (x0 : Int32) : Int32 := if (0 ≤ x0.toInt ∧ x0.toInt ≤ 1) then 1 else (-1)
def an_lawful (x0 : Int32) : Int32 := if (0 ≤ x0.toInt ∧ x0.toInt ≤ 1) then 0 else (-1)
def an_later (x0 : Int32) : Int32 := if (0 ≤ x0.toInt ∧ x0.toInt ≤ 1000) then x0 else (-1)
def an_image (x0 : Int32) : Int32 := if (0 ≤ x0.toInt ∧ x0.toInt ≤ 2) then 0 else (-1)
def an_about (x0 : Int32) : Int32 := if (0 ≤ x0.toInt ∧ x0.toInt ≤ 9) then 0 else (-1)
def an_storms (x0 x1 : Int32) : Int32 := if (0 ≤ x0.toInt ∧ x0.toInt ≤ 3) then (if x0 = 0 then 1 else 0) else (-2)
set_option maxHeartbeats 4000000 in
set_option maxRecDepth 100000 in
theorem zX11_putFour_1 (l : Launch) (D : va_G) (h0 h1 r0 r1 r2 r3 r4 r5 r6 r7 r8 r9 : Nat) (k0 : ClassId) (x0 : Int32) (sz : Nat) (hx0 : -2147483648 ≤ x0.toInt ∧ x0.toInt ≤ 2147483647) : Met l yX11_putFour wsX11_putFour ({ frames := 0, cells := 0, slots := 0, locals := 0 }) (zPre D [.ref h0, .int x0] [(h0, .inr (11, [.ref h1, .int 0, .ref r0, .ref r1, .ref r2, .ref r3, .ref r4, .ref r5, .ref r6, .ref r7, .ref r8, .ref r9])), (h1, .inl (k0, 1600, .inl (fun _ => 0)))] [(k0, .byte)] sz) ((fun A => va_Qv (fun (u : (Nat → Int32)) => match u with | ff_35 => True) (zB D A (fun (u : (Nat → Int32)) => match u with | ff_35 => [(h0, .inr (11, [.ref h1, .int 4, .ref r0, .ref r1, .ref r2, .ref r3, .ref r4, .ref r5, .ref r6, .ref r7, .ref r8, .ref r9])), (h1, .inl (k0, 1600, .inl ff_35))]) (fun (u : (Nat → Int32)) => match u with | ff_35 => [])) A) (va_A [(h0, .inr (11, [.ref h1, .int 0, .ref r0, .ref r1, .ref r2, .ref r3, .ref r4, .ref r5, .ref r6, .ref r7, .ref r8, .ref r9])), (h1, .inl (k0, 1600, .inl (fun _ => 0)))] sz)) 0 0 (va_A [(h0, .inr (11, [.ref h1, .int 0, .ref r0, .ref r1, .ref r2, .ref r3, .ref r4, .ref r5, .ref r6, .ref r7, .ref r8, .ref r9])), (h1, .inl (k0, 1600, .inl (fun _ => 0)))] sz) := by
  refine zOfW (QF := fun A => va_Qv (fun (u : (Nat → Int32)) => match u with | ff_35 => True) (zB D A (fun (u : (Nat → Int32)) => match u with | ff_35 => [(h0, .inr (11, [.ref h1, .int 4, .ref r0, .ref r1, .ref r2, .ref r3, .ref r4, .ref r5, .ref r6, .ref r7, .ref r8, .ref r9])), (h1, .inl (k0, 1600, .inl ff_35))]) (fun (u : (Nat → Int32)) => match u with | ff_35 => [])) A) (cc := cX11_putFour) (maxL := 3) (ret := none) (by decide) rfl (Nat.le_of_ble_eq_true rfl) ?_
  intro p e s m below meth c A ls hx hb hr hml hts hown hlocks hin hA hS hP hD hK hN hl
  have hl : lv_has ls 3 [(0, .ref h0), (1, .int x0)] := hl
  refine lv_bipush (v := 24) hx hb dX11_putFour_0 (by decide) ?_
  refine lv_istore_n (lv' := [(2, .int 24), (0, .ref h0), (1, .int x0)]) hx hb dX11_putFour_2 rfl hl (by decide) rfl (fun ls hl => ?_)
  refine lv_iload_n hx hb dX11_putFour_3 rfl (lv_at hl 0 rfl) ?_
  refine lv_if_lt (tgt := 46) hx hb dX11_putFour_4 (by decide) (fun h9 => absurd h9 (by decide)) (fun _ => ?_)
  refine lv_aload_n hx hb dX11_putFour_7 rfl (lv_at hl 1 rfl) ?_
  refine va_get (D := D) (ci := 11) (v := .int 0) (C := RX11) (T := TX11) (N := 12) hx hb hts iuX11_putFour_X11 hown hK hP 0 rfl rfl 1 (by decide) (hts (.fieldLink RX11 13 "StraitGame" "tapeBytes" "I") (List.mem_of_getElem? (i := 1) rfl)) (fun _ h9 => h9) rfl dX11_putFour_8 ?_
  refine lv_sipush (v := 1600) hx hb dX11_putFour_11 (by decide) ?_
  refine lv_icmp_ge (tgt := 46) hx hb dX11_putFour_14 (by decide) (fun h9 => absurd h9 (by decide)) (fun _ => ?_)
  refine lv_aload_n hx hb dX11_putFour_17 rfl (lv_at hl 1 rfl) ?_
  refine va_get (D := D) (ci := 11) (v := .ref h1) (C := RX11) (T := TX11) (N := 12) hx hb hts iuX11_putFour_X11 hown hK hP 0 rfl rfl 0 (by decide) (hts (.fieldLink RX11 9 "StraitGame" "tape" "[B") (List.mem_of_getElem? (i := 2) rfl)) (fun _ h9 => h9) rfl dX11_putFour_18 ?_
  refine lv_aload_n hx hb dX11_putFour_21 rfl (lv_at hl 1 rfl) ?_
  refine va_get (D := D) (ci := 11) (v := .int 0) (C := RX11) (T := TX11) (N := 12) hx hb hts iuX11_putFour_X11 hown hK hP 0 rfl rfl 1 (by decide) (hts (.fieldLink RX11 13 "StraitGame" "tapeBytes" "I") (List.mem_of_getElem? (i := 1) rfl)) (fun _ h9 => h9) rfl dX11_putFour_22 ?_
  refine lv_iload_n hx hb dX11_putFour_25 rfl (lv_at hl 2 rfl) ?_
  refine lv_iload_n hx hb dX11_putFour_26 rfl (lv_at hl 0 rfl) ?_
  obtain ⟨u_17, eu_17⟩ : ∃ y : Int32, (Int32.toUInt32 x0 >>> (Int32.toUInt32 24 &&& Int32.toUInt32 31)).toInt32 = y := ⟨_, rfl⟩
  refine lv_iushr (v := u_17) hx hb dX11_putFour_27 eu_17 ?_
  obtain ⟨u_18, eu_18⟩ : ∃ y : Int32, (Int32.toInt8 u_17).toInt32 = y := ⟨_, rfl⟩
  refine lv_i2b (v := u_18) hx hb dX11_putFour_28 eu_18 ?_
  refine va_bast hx hb hK hP hD hS 1 0 rfl rfl (z_in (by decide)) dX11_putFour_29 (fun H locs hP hD hS => ?_)
  have hP : va_P D vwCl [(h0, .inr (11, [.ref h1, .int 0, .ref r0, .ref r1, .ref r2, .ref r3, .ref r4, .ref r5, .ref r6, .ref r7, .ref r8, .ref r9])), (h1, .inl (k0, 1600, .inl (upd (fun _ => 0) 0 (vp_nar .byte u_18))))] H := hP
  have hD : va_D A [(h0, .inr (11, [.ref h1, .int 0, .ref r0, .ref r1, .ref r2, .ref r3, .ref r4, .ref r5, .ref r6, .ref r7, .ref r8, .ref r9])), (h1, .inl (k0, 1600, .inl (upd (fun _ => 0) 0 (vp_nar .byte u_18))))] := hD
  refine lv_aload_n hx hb dX11_putFour_30 rfl (lv_at hl 1 rfl) ?_
  refine lv_dup hx hb dX11_putFour_31 rfl ?_
  refine va_get (D := D) (ci := 11) (v := .int 0) (C := RX11) (T := TX11) (N := 12) hx hb hts iuX11_putFour_X11 hown hK hP 0 rfl rfl 1 (by decide) (hts (.fieldLink RX11 13 "StraitGame" "tapeBytes" "I") (List.mem_of_getElem? (i := 1) rfl)) (fun _ h9 => h9) rfl dX11_putFour_32 ?_
  refine lv_iconst (v := 1) hx hb dX11_putFour_35 (by decide) ?_
  refine lv_iadd hx hb dX11_putFour_36 ?_
  refine z_top (y := 1) (by decide) ?_
  refine va_put (D := D) (ci := 11) (v := .int 1) (ty := .int) (C := RX11) (T := TX11) (N := 12) hx hb hts iuX11_putFour_X11 tyX11 tyX11_ok nmX11 hown hK hP hD hS 0 rfl rfl 1 (by decide) (hts (.fieldLink RX11 13 "StraitGame" "tapeBytes" "I") (List.mem_of_getElem? (i := 1) rfl)) (fun _ h9 => h9) rfl (by decide +kernel) rfl rfl (Nat.le_of_ble_eq_true rfl) dX11_putFour_37 (fun H locs hP hD hS => ?_)
  have hP : va_P D vwCl [(h0, .inr (11, [.ref h1, .int 1, .ref r0, .ref r1, .ref r2, .ref r3, .ref r4, .ref r5, .ref r6, .ref r7, .ref r8, .ref r9])), (h1, .inl (k0, 1600, .inl (upd (fun _ => 0) 0 (vp_nar .byte u_18))))] H := hP
  have hD : va_D A [(h0, .inr (11, [.ref h1, .int 1, .ref r0, .ref r1, .ref r2, .ref r3, .ref r4, .ref r5, .ref r6, .ref r7, .ref r8, .ref r9])), (h1, .inl (k0, 1600, .inl (upd (fun _ => 0) 0 (vp_nar .byte u_18))))] := hD
  refine lv_iinc (v := 16) (lv' := [(2, .int 16), (0, .ref h0), (1, .int x0)]) hx hb dX11_putFour_40 hl (k := 0) rfl (by decide) (by decide) rfl (fun ls hl => ?_)
  refine lv_goto (tgt := 3) hx hb dX11_putFour_43 (by decide) ?_
  refine lv_iload_n hx hb dX11_putFour_3 rfl (lv_at hl 0 rfl) ?_
  refine lv_if_lt (tgt := 46) hx hb dX11_putFour_4 (by decide) (fun h9 => absurd h9 (by decide)) (fun _ => ?_)
  refine lv_aload_n hx hb dX11_putFour_7 rfl (lv_at hl 1 rfl) ?_
  refine va_get (D := D) (ci := 11) (v := .int 1) (C := RX11) (T := TX11) (N := 12) hx hb hts iuX11_putFour_X11 hown hK hP 0 rfl rfl 1 (by decide) (hts (.fieldLink RX11 13 "StraitGame" "tapeBytes" "I") (List.mem_of_getElem? (i := 1) rfl)) (fun _ h9 => h9) rfl dX11_putFour_8 ?_
  refine lv_sipush (v := 1600) hx hb dX11_putFour_11 (by decide) ?_
  refine lv_icmp_ge (tgt := 46) hx hb dX11_putFour_14 (by decide) (fun h9 => absurd h9 (by decide)) (fun _ => ?_)
  refine lv_aload_n hx hb dX11_putFour_17 rfl (lv_at hl 1 rfl) ?_
  refine va_get (D := D) (ci := 11) (v := .ref h1) (C := RX11) (T := TX11) (N := 12) hx hb hts iuX11_putFour_X11 hown hK hP 0 rfl rfl 0 (by decide) (hts (.fieldLink RX11 9 "StraitGame" "tape" "[B") (List.mem_of_getElem? (i := 2) rfl)) (fun _ h9 => h9) rfl dX11_putFour_18 ?_
  refine lv_aload_n hx hb dX11_putFour_21 rfl (lv_at hl 1 rfl) ?_
  refine va_get (D := D) (ci := 11) (v := .int 1) (C := RX11) (T := TX11) (N := 12) hx hb hts iuX11_putFour_X11 hown hK hP 0 rfl rfl 1 (by decide) (hts (.fieldLink RX11 13 "StraitGame" "tapeBytes" "I") (List.mem_of_getElem? (i := 1) rfl)) (fun _ h9 => h9) rfl dX11_putFour_22 ?_
  refine lv_iload_n hx hb dX11_putFour_25 rfl (lv_at hl 2 rfl) ?_
  refine lv_iload_n hx hb dX11_putFour_26 rfl (lv_at hl 0 rfl) ?_
  obtain ⟨u_19, eu_19⟩ : ∃ y : Int32, (Int32.toUInt32 x0 >>> (Int32.toUInt32 16 &&& Int32.toUInt32 31)).toInt32 = y := ⟨_, rfl⟩
  refine lv_iushr (v := u_19) hx hb dX11_putFour_27 eu_19 ?_
  obtain ⟨u_20, eu_20⟩ : ∃ y : Int32, (Int32.toInt8 u_19).toInt32 = y := ⟨_, rfl⟩
  refine lv_i2b (v := u_20) hx hb dX11_putFour_28 eu_20 ?_
  refine va_bast hx hb hK hP hD hS 1 0 rfl rfl (z_in (by decide)) dX11_putFour_29 (fun H locs hP hD hS => ?_)
  have hP : va_P D vwCl [(h0, .inr (11, [.ref h1, .int 1, .ref r0, .ref r1, .ref r2, .ref r3, .ref r4, .ref r5, .ref r6, .ref r7, .ref r8, .ref r9])), (h1, .inl (k0, 1600, .inl (upd (upd (fun _ => 0) 0 (vp_nar .byte u_18)) 1 (vp_nar .byte u_20))))] H := hP
  have hD : va_D A [(h0, .inr (11, [.ref h1, .int 1, .ref r0, .ref r1, .ref r2, .ref r3, .ref r4, .ref r5, .ref r6, .ref r7, .ref r8, .ref r9])), (h1, .inl (k0, 1600, .inl (upd (upd (fun _ => 0) 0 (vp_nar .byte u_18)) 1 (vp_nar .byte u_20))))] := hD
  refine lv_aload_n hx hb dX11_putFour_30 rfl (lv_at hl 1 rfl) ?_
  refine lv_dup hx hb dX11_putFour_31 rfl ?_
  refine va_get (D := D) (ci := 11) (v := .int 1) (C := RX11) (T := TX11) (N := 12) hx hb hts iuX11_putFour_X11 hown hK hP 0 rfl rfl 1 (by decide) (hts (.fieldLink RX11 13 "StraitGame" "tapeBytes" "I") (List.mem_of_getElem? (i := 1) rfl)) (fun _ h9 => h9) rfl dX11_putFour_32 ?_
  refine lv_iconst (v := 1) hx hb dX11_putFour_35 (by decide) ?_
  refine lv_iadd hx hb dX11_putFour_36 ?_
  refine z_top (y := 2) (by decide) ?_
  refine va_put (D := D) (ci := 11) (v := .int 2) (ty := .int) (C := RX11) (T := TX11) (N := 12) hx hb hts iuX11_putFour_X11 tyX11 tyX11_ok nmX11 hown hK hP hD hS 0 rfl rfl 1 (by decide) (hts (.fieldLink RX11 13 "StraitGame" "tapeBytes" "I") (List.mem_of_getElem? (i := 1) rfl)) (fun _ h9 => h9) rfl (by decide +kernel) rfl rfl (Nat.le_of_ble_eq_true rfl) dX11_putFour_37 (fun H locs hP hD hS => ?_)
  have hP : va_P D vwCl [(h0, .inr (11, [.ref h1, .int 2, .ref r0, .ref r1, .ref r2, .ref r3, .ref r4, .ref r5, .ref r6, .ref r7, .ref r8, .ref r9])), (h1, .inl (k0, 1600, .inl (upd (upd (fun _ => 0) 0 (vp_nar .byte u_18)) 1 (vp_nar .byte u_20))))] H := hP
  have hD : va_D A [(h0, .inr (11, [.ref h1, .int 2, .ref r0, .ref r1, .ref r2, .ref r3, .ref r4, .ref r5, .ref r6, .ref r7, .ref r8, .ref r9])), (h1, .inl (k0, 1600, .inl (upd (upd (fun _ => 0) 0 (vp_nar .byte u_18)) 1 (vp_nar .byte u_20))))] := hD
  refine lv_iinc (v := 8) (lv' := [(2, .int 8), (0, .ref h0), (1, .int x0)]) hx hb dX11_putFour_40 hl (k := 0) rfl (by decide) (by decide) rfl (fun ls hl => ?_)
  refine lv_goto (tgt := 3) hx hb dX11_putFour_43 (by decide) ?_
  refine lv_iload_n hx hb dX11_putFour_3 rfl (lv_at hl 0 rfl) ?_
  refine lv_if_lt (tgt := 46) hx hb dX11_putFour_4 (by decide) (fun h9 => absurd h9 (by decide)) (fun _ => ?_)
  refine lv_aload_n hx hb dX11_putFour_7 rfl (lv_at hl 1 rfl) ?_
  refine va_get (D := D) (ci := 11) (v := .int 2) (C := RX11) (T := TX11) (N := 12) hx hb hts iuX11_putFour_X11 hown hK hP 0 rfl rfl 1 (by decide) (hts (.fieldLink RX11 13 "StraitGame" "tapeBytes" "I") (List.mem_of_getElem? (i := 1) rfl)) (fun _ h9 => h9) rfl dX11_putFour_8 ?_
  refine lv_sipush (v := 1600) hx hb dX11_putFour_11 (by decide) ?_
  refine lv_icmp_ge (tgt := 46) hx hb dX11_putFour_14 (by decide) (fun h9 => absurd h9 (by decide)) (fun _ => ?_)
  refine lv_aload_n hx hb dX11_putFour_17 rfl (lv_at hl 1 rfl) ?_
  refine va_get (D := D) (ci := 11) (v := .ref h1) (C := RX11) (T := TX11) (N := 12) hx hb hts iuX11_putFour_X11 hown hK hP 0 rfl rfl 0 (by decide) (hts (.fieldLink RX11 9 "StraitGame" "tape" "[B") (List.mem_of_getElem? (i := 2) rfl)) (fun _ h9 => h9) rfl dX11_putFour_18 ?_
  refine lv_aload_n hx hb dX11_putFour_21 rfl (lv_at hl 1 rfl) ?_
  refine va_get (D := D) (ci := 11) (v := .int 2) (C := RX11) (T := TX11) (N := 12) hx hb hts iuX11_putFour_X11 hown hK hP 0 rfl rfl 1 (by decide) (hts (.fieldLink RX11 13 "StraitGame" "tapeBytes" "I") (List.mem_of_getElem? (i := 1) rfl)) (fun _ h9 => h9) rfl dX11_putFour_22 ?_
  refine lv_iload_n hx hb dX11_putFour_25 rfl (lv_at hl 2 rfl) ?_
  refine lv_iload_n hx hb dX11_putFour_26 rfl (lv_at hl 0 rfl) ?_
  obtain ⟨u_21, eu_21⟩ : ∃ y : Int32, (Int32.toUInt32 x0 >>> (Int32.toUInt32 8 &&& Int32.toUInt32 31)).toInt32 = y := ⟨_, rfl⟩
  refine lv_iushr (v := u_21) hx hb dX11_putFour_27 eu_21 ?_
  obtain ⟨u_22, eu_22⟩ : ∃ y : Int32, (Int32.toInt8 u_21).toInt32 = y := ⟨_, rfl⟩
  refine lv_i2b (v := u_22) hx hb dX11_putFour_28 eu_22 ?_
  refine va_bast hx hb hK hP hD hS 1 0 rfl rfl (z_in (by decide)) dX11_putFour_29 (fun H locs hP hD hS => ?_)
  have hP : va_P D vwCl [(h0, .inr (11, [.ref h1, .int 2, .ref r0, .ref r1, .ref r2, .ref r3, .ref r4, .ref r5, .ref r6, .ref r7, .ref r8, .ref r9])), (h1, .inl (k0, 1600, .inl (upd (upd (upd (fun _ => 0) 0 (vp_nar .byte u_18)) 1 (vp_nar .byte u_20)) 2 (vp_nar .byte u_22))))] H := hP
  have hD : va_D A [(h0, .inr (11, [.ref h1, .int 2, .ref r0, .ref r1, .ref r2, .ref r3, .ref r4, .ref r5, .ref r6, .ref r7, .ref r8, .ref r9])), (h1, .inl (k0, 1600, .inl (upd (upd (upd (fun _ => 0) 0 (vp_nar .byte u_18)) 1 (vp_nar .byte u_20)) 2 (vp_nar .byte u_22))))] := hD
  refine lv_aload_n hx hb dX11_putFour_30 rfl (lv_at hl 1 rfl) ?_
  refine lv_dup hx hb dX11_putFour_31 rfl ?_
  refine va_get (D := D) (ci := 11) (v := .int 2) (C := RX11) (T := TX11) (N := 12) hx hb hts iuX11_putFour_X11 hown hK hP 0 rfl rfl 1 (by decide) (hts (.fieldLink RX11 13 "StraitGame" "tapeBytes" "I") (List.mem_of_getElem? (i := 1) rfl)) (fun _ h9 => h9) rfl dX11_putFour_32 ?_
  refine lv_iconst (v := 1) hx hb dX11_putFour_35 (by decide) ?_
  refine lv_iadd hx hb dX11_putFour_36 ?_
  refine z_top (y := 3) (by decide) ?_
  refine va_put (D := D) (ci := 11) (v := .int 3) (ty := .int) (C := RX11) (T := TX11) (N := 12) hx hb hts iuX11_putFour_X11 tyX11 tyX11_ok nmX11 hown hK hP hD hS 0 rfl rfl 1 (by decide) (hts (.fieldLink RX11 13 "StraitGame" "tapeBytes" "I") (List.mem_of_getElem? (i := 1) rfl)) (fun _ h9 => h9) rfl (by decide +kernel) rfl rfl (Nat.le_of_ble_eq_true rfl) dX11_putFour_37 (fun H locs hP hD hS => ?_)
  have hP : va_P D vwCl [(h0, .inr (11, [.ref h1, .int 3, .ref r0, .ref r1, .ref r2, .ref r3, .ref r4, .ref r5, .ref r6, .ref r7, .ref r8, .ref r9])), (h1, .inl (k0, 1600, .inl (upd (upd (upd (fun _ => 0) 0 (vp_nar .byte u_18)) 1 (vp_nar .byte u_20)) 2 (vp_nar .byte u_22))))] H := hP
  have hD : va_D A [(h0, .inr (11, [.ref h1, .int 3, .ref r0, .ref r1, .ref r2, .ref r3, .ref r4, .ref r5, .ref r6, .ref r7, .ref r8, .ref r9])), (h1, .inl (k0, 1600, .inl (upd (upd (upd (fun _ => 0) 0 (vp_nar .byte u_18)) 1 (vp_nar .byte u_20)) 2 (vp_nar .byte u_22))))] := hD
  refine lv_iinc (v := 0) (lv' := [(2, .int 0), (0, .ref h0), (1, .int x0)]) hx hb dX11_putFour_40 hl (k := 0) rfl (by decide) (by decide) rfl (fun ls hl => ?_)
  refine lv_goto (tgt := 3) hx hb dX11_putFour_43 (by decide) ?_
  refine lv_iload_n hx hb dX11_putFour_3 rfl (lv_at hl 0 rfl) ?_
  refine lv_if_lt (tgt := 46) hx hb dX11_putFour_4 (by decide) (fun h9 => absurd h9 (by decide)) (fun _ => ?_)
  refine lv_aload_n hx hb dX11_putFour_7 rfl (lv_at hl 1 rfl) ?_
  refine va_get (D := D) (ci := 11) (v := .int 3) (C := RX11) (T := TX11) (N := 12) hx hb hts iuX11_putFour_X11 hown hK hP 0 rfl rfl 1 (by decide) (hts (.fieldLink RX11 13 "StraitGame" "tapeBytes" "I") (List.mem_of_getElem? (i := 1) rfl)) (fun _ h9 => h9) rfl dX11_putFour_8 ?_
  refine lv_sipush (v := 1600) hx hb dX11_putFour_11 (by decide) ?_
  refine lv_icmp_ge (tgt := 46) hx hb dX11_putFour_14 (by decide) (fun h9 => absurd h9 (by decide)) (fun _ => ?_)
  refine lv_aload_n hx hb dX11_putFour_17 rfl (lv_at hl 1 rfl) ?_
  refine va_get (D := D) (ci := 11) (v := .ref h1) (C := RX11) (T := TX11) (N := 12) hx hb hts iuX11_putFour_X11 hown hK hP 0 rfl rfl 0 (by decide) (hts (.fieldLink RX11 9 "StraitGame" "tape" "[B") (List.mem_of_getElem? (i := 2) rfl)) (fun _ h9 => h9) rfl dX11_putFour_18 ?_
  refine lv_aload_n hx hb dX11_putFour_21 rfl (lv_at hl 1 rfl) ?_
  refine va_get (D := D) (ci := 11) (v := .int 3) (C := RX11) (T := TX11) (N := 12) hx hb hts iuX11_putFour_X11 hown hK hP 0 rfl rfl 1 (by decide) (hts (.fieldLink RX11 13 "StraitGame" "tapeBytes" "I") (List.mem_of_getElem? (i := 1) rfl)) (fun _ h9 => h9) rfl dX11_putFour_22 ?_
  refine lv_iload_n hx hb dX11_putFour_25 rfl (lv_at hl 2 rfl) ?_
  refine lv_iload_n hx hb dX11_putFour_26 rfl (lv_at hl 0 rfl) ?_
  obtain ⟨u_23, eu_23⟩ : ∃ y : Int32, (Int32.toUInt32 x0 >>> (Int32.toUInt32 0 &&& Int32.toUInt32 31)).toInt32 = y := ⟨_, rfl⟩
  refine lv_iushr (v := u_23) hx hb dX11_putFour_27 eu_23 ?_
  obtain ⟨u_24, eu_24⟩ : ∃ y : Int32, (Int32.toInt8 u_23).toInt32 = y := ⟨_, rfl⟩
  refine lv_i2b (v := u_24) hx hb dX11_putFour_28 eu_24 ?_
  refine va_bast hx hb hK hP hD hS 1 0 rfl rfl (z_in (by decide)) dX11_putFour_29 (fun H locs hP hD hS => ?_)
  have hP : va_P D vwCl [(h0, .inr (11, [.ref h1, .int 3, .ref r0, .ref r1, .ref r2, .ref r3, .ref r4, .ref r5, .ref r6, .ref r7, .ref r8, .ref r9])), (h1, .inl (k0, 1600, .inl (upd (upd (upd (upd (fun _ => 0) 0 (vp_nar .byte u_18)) 1 (vp_nar .byte u_20)) 2 (vp_nar .byte u_22)) 3 (vp_nar .byte u_24))))] H := hP
  have hD : va_D A [(h0, .inr (11, [.ref h1, .int 3, .ref r0, .ref r1, .ref r2, .ref r3, .ref r4, .ref r5, .ref r6, .ref r7, .ref r8, .ref r9])), (h1, .inl (k0, 1600, .inl (upd (upd (upd (upd (fun _ => 0) 0 (vp_nar .byte u_18)) 1 (vp_nar .byte u_20)) 2 (vp_nar .byte u_22)) 3 (vp_nar .byte u_24))))] := hD
  refine lv_aload_n hx hb dX11_putFour_30 rfl (lv_at hl 1 rfl) ?_
  refine lv_dup hx hb dX11_putFour_31 rfl ?_
  refine va_get (D := D) (ci := 11) (v := .int 3) (C := RX11) (T := TX11) (N := 12) hx hb hts iuX11_putFour_X11 hown hK hP 0 rfl rfl 1 (by decide) (hts (.fieldLink RX11 13 "StraitGame" "tapeBytes" "I") (List.mem_of_getElem? (i := 1) rfl)) (fun _ h9 => h9) rfl dX11_putFour_32 ?_
  refine lv_iconst (v := 1) hx hb dX11_putFour_35 (by decide) ?_
  refine lv_iadd hx hb dX11_putFour_36 ?_
  refine z_top (y := 4) (by decide) ?_
  refine va_put (D := D) (ci := 11) (v := .int 4) (ty := .int) (C := RX11) (T := TX11) (N := 12) hx hb hts iuX11_putFour_X11 tyX11 tyX11_ok nmX11 hown hK hP hD hS 0 rfl rfl 1 (by decide) (hts (.fieldLink RX11 13 "StraitGame" "tapeBytes" "I") (List.mem_of_getElem? (i := 1) rfl)) (fun _ h9 => h9) rfl (by decide +kernel) rfl rfl (Nat.le_of_ble_eq_true rfl) dX11_putFour_37 (fun H locs hP hD hS => ?_)
  have hP : va_P D vwCl [(h0, .inr (11, [.ref h1, .int 4, .ref r0, .ref r1, .ref r2, .ref r3, .ref r4, .ref r5, .ref r6, .ref r7, .ref r8, .ref r9])), (h1, .inl (k0, 1600, .inl (upd (upd (upd (upd (fun _ => 0) 0 (vp_nar .byte u_18)) 1 (vp_nar .byte u_20)) 2 (vp_nar .byte u_22)) 3 (vp_nar .byte u_24))))] H := hP
  have hD : va_D A [(h0, .inr (11, [.ref h1, .int 4, .ref r0, .ref r1, .ref r2, .ref r3, .ref r4, .ref r5, .ref r6, .ref r7, .ref r8, .ref r9])), (h1, .inl (k0, 1600, .inl (upd (upd (upd (upd (fun _ => 0) 0 (vp_nar .byte u_18)) 1 (vp_nar .byte u_20)) 2 (vp_nar .byte u_22)) 3 (vp_nar .byte u_24))))] := hD
  refine lv_iinc (v := (-8)) (lv' := [(2, .int (-8)), (0, .ref h0), (1, .int x0)]) hx hb dX11_putFour_40 hl (k := 0) rfl (by decide) (by decide) rfl (fun ls hl => ?_)
  refine lv_goto (tgt := 3) hx hb dX11_putFour_43 (by decide) ?_
  refine lv_iload_n hx hb dX11_putFour_3 rfl (lv_at hl 0 rfl) ?_
  refine lv_if_lt (tgt := 46) hx hb dX11_putFour_4 (by decide) (fun _ => ?_) (fun h9 => absurd (by decide) h9)
  exact zret_v hx hb hr hlocks hP hD hK hS (upd (upd (upd (upd (fun _ => 0) 0 (vp_nar .byte u_18)) 1 (vp_nar .byte u_20)) 2 (vp_nar .byte u_22)) 3 (vp_nar .byte u_24)) trivial [0, 1] [] (by decide) rfl rfl (Nat.le_of_ble_eq_true rfl) (Nat.le_of_ble_eq_true rfl) dX11_putFour_46
set_option maxHeartbeats 4000000 in
set_option maxRecDepth 100000 in
theorem zX11_putFour_2 (l : Launch) (D : va_G) (h0 h1 r0 r1 r2 r3 r4 r5 r6 r7 r8 r9 : Nat) (k0 : ClassId) (f0 : Nat → Int32) (x0 : Int32) (sz : Nat) (hx0 : -2147483648 ≤ x0.toInt ∧ x0.toInt ≤ 2147483647) : Met l yX11_putFour wsX11_putFour ({ frames := 0, cells := 0, slots := 0, locals := 0 }) (zPre D [.ref h0, .int x0] [(h0, .inr (11, [.ref h1, .int 4, .ref r0, .ref r1, .ref r2, .ref r3, .ref r4, .ref r5, .ref r6, .ref r7, .ref r8, .ref r9])), (h1, .inl (k0, 1600, .inl f0))] [(k0, .byte)] sz) ((fun A => va_Qv (fun (u : (Nat → Int32)) => match u with | ff_37 => True) (zB D A (fun (u : (Nat → Int32)) => match u with | ff_37 => [(h0, .inr (11, [.ref h1, .int 8, .ref r0, .ref r1, .ref r2, .ref r3, .ref r4, .ref r5, .ref r6, .ref r7, .ref r8, .ref r9])), (h1, .inl (k0, 1600, .inl ff_37))]) (fun (u : (Nat → Int32)) => match u with | ff_37 => [])) A) (va_A [(h0, .inr (11, [.ref h1, .int 4, .ref r0, .ref r1, .ref r2, .ref r3, .ref r4, .ref r5, .ref r6, .ref r7, .ref r8, .ref r9])), (h1, .inl (k0, 1600, .inl f0))] sz)) 0 0 (va_A [(h0, .inr (11, [.ref h1, .int 4, .ref r0, .ref r1, .ref r2, .ref r3, .ref r4, .ref r5, .ref r6, .ref r7, .ref r8, .ref r9])), (h1, .inl (k0, 1600, .inl f0))] sz) := by
  refine zOfW (QF := fun A => va_Qv (fun (u : (Nat → Int32)) => match u with | ff_37 => True) (zB D A (fun (u : (Nat → Int32)) => match u with | ff_37 => [(h0, .inr (11, [.ref h1, .int 8, .ref r0, .ref r1, .ref r2, .ref r3, .ref r4, .ref r5, .ref r6, .ref r7, .ref r8, .ref r9])), (h1, .inl (k0, 1600, .inl ff_37))]) (fun (u : (Nat → Int32)) => match u with | ff_37 => [])) A) (cc := cX11_putFour) (maxL := 3) (ret := none) (by decide) rfl (Nat.le_of_ble_eq_true rfl) ?_
  intro p e s m below meth c A ls hx hb hr hml hts hown hlocks hin hA hS hP hD hK hN hl
  have hl : lv_has ls 3 [(0, .ref h0), (1, .int x0)] := hl
  refine lv_bipush (v := 24) hx hb dX11_putFour_0 (by decide) ?_
  refine lv_istore_n (lv' := [(2, .int 24), (0, .ref h0), (1, .int x0)]) hx hb dX11_putFour_2 rfl hl (by decide) rfl (fun ls hl => ?_)
  refine lv_iload_n hx hb dX11_putFour_3 rfl (lv_at hl 0 rfl) ?_
  refine lv_if_lt (tgt := 46) hx hb dX11_putFour_4 (by decide) (fun h9 => absurd h9 (by decide)) (fun _ => ?_)
  refine lv_aload_n hx hb dX11_putFour_7 rfl (lv_at hl 1 rfl) ?_
  refine va_get (D := D) (ci := 11) (v := .int 4) (C := RX11) (T := TX11) (N := 12) hx hb hts iuX11_putFour_X11 hown hK hP 0 rfl rfl 1 (by decide) (hts (.fieldLink RX11 13 "StraitGame" "tapeBytes" "I") (List.mem_of_getElem? (i := 1) rfl)) (fun _ h9 => h9) rfl dX11_putFour_8 ?_
  refine lv_sipush (v := 1600) hx hb dX11_putFour_11 (by decide) ?_
  refine lv_icmp_ge (tgt := 46) hx hb dX11_putFour_14 (by decide) (fun h9 => absurd h9 (by decide)) (fun _ => ?_)
  refine lv_aload_n hx hb dX11_putFour_17 rfl (lv_at hl 1 rfl) ?_
  refine va_get (D := D) (ci := 11) (v := .ref h1) (C := RX11) (T := TX11) (N := 12) hx hb hts iuX11_putFour_X11 hown hK hP 0 rfl rfl 0 (by decide) (hts (.fieldLink RX11 9 "StraitGame" "tape" "[B") (List.mem_of_getElem? (i := 2) rfl)) (fun _ h9 => h9) rfl dX11_putFour_18 ?_
  refine lv_aload_n hx hb dX11_putFour_21 rfl (lv_at hl 1 rfl) ?_
  refine va_get (D := D) (ci := 11) (v := .int 4) (C := RX11) (T := TX11) (N := 12) hx hb hts iuX11_putFour_X11 hown hK hP 0 rfl rfl 1 (by decide) (hts (.fieldLink RX11 13 "StraitGame" "tapeBytes" "I") (List.mem_of_getElem? (i := 1) rfl)) (fun _ h9 => h9) rfl dX11_putFour_22 ?_
  refine lv_iload_n hx hb dX11_putFour_25 rfl (lv_at hl 2 rfl) ?_
  refine lv_iload_n hx hb dX11_putFour_26 rfl (lv_at hl 0 rfl) ?_
  obtain ⟨u_41, eu_41⟩ : ∃ y : Int32, (Int32.toUInt32 x0 >>> (Int32.toUInt32 24 &&& Int32.toUInt32 31)).toInt32 = y := ⟨_, rfl⟩
  refine lv_iushr (v := u_41) hx hb dX11_putFour_27 eu_41 ?_
  obtain ⟨u_42, eu_42⟩ : ∃ y : Int32, (Int32.toInt8 u_41).toInt32 = y := ⟨_, rfl⟩
  refine lv_i2b (v := u_42) hx hb dX11_putFour_28 eu_42 ?_
  refine va_bast hx hb hK hP hD hS 1 0 rfl rfl (z_in (by decide)) dX11_putFour_29 (fun H locs hP hD hS => ?_)
  have hP : va_P D vwCl [(h0, .inr (11, [.ref h1, .int 4, .ref r0, .ref r1, .ref r2, .ref r3, .ref r4, .ref r5, .ref r6, .ref r7, .ref r8, .ref r9])), (h1, .inl (k0, 1600, .inl (upd f0 4 (vp_nar .byte u_42))))] H := hP
  have hD : va_D A [(h0, .inr (11, [.ref h1, .int 4, .ref r0, .ref r1, .ref r2, .ref r3, .ref r4, .ref r5, .ref r6, .ref r7, .ref r8, .ref r9])), (h1, .inl (k0, 1600, .inl (upd f0 4 (vp_nar .byte u_42))))] := hD
  refine lv_aload_n hx hb dX11_putFour_30 rfl (lv_at hl 1 rfl) ?_
  refine lv_dup hx hb dX11_putFour_31 rfl ?_
  refine va_get (D := D) (ci := 11) (v := .int 4) (C := RX11) (T := TX11) (N := 12) hx hb hts iuX11_putFour_X11 hown hK hP 0 rfl rfl 1 (by decide) (hts (.fieldLink RX11 13 "StraitGame" "tapeBytes" "I") (List.mem_of_getElem? (i := 1) rfl)) (fun _ h9 => h9) rfl dX11_putFour_32 ?_
  refine lv_iconst (v := 1) hx hb dX11_putFour_35 (by decide) ?_
  refine lv_iadd hx hb dX11_putFour_36 ?_
  refine z_top (y := 5) (by decide) ?_
  refine va_put (D := D) (ci := 11) (v := .int 5) (ty := .int) (C := RX11) (T := TX11) (N := 12) hx hb hts iuX11_putFour_X11 tyX11 tyX11_ok nmX11 hown hK hP hD hS 0 rfl rfl 1 (by decide) (hts (.fieldLink RX11 13 "StraitGame" "tapeBytes" "I") (List.mem_of_getElem? (i := 1) rfl)) (fun _ h9 => h9) rfl (by decide +kernel) rfl rfl (Nat.le_of_ble_eq_true rfl) dX11_putFour_37 (fun H locs hP hD hS => ?_)
  have hP : va_P D vwCl [(h0, .inr (11, [.ref h1, .int 5, .ref r0, .ref r1, .ref r2, .ref r3, .ref r4, .ref r5, .ref r6, .ref r7, .ref r8, .ref r9])), (h1, .inl (k0, 1600, .inl (upd f0 4 (vp_nar .byte u_42))))] H := hP
  have hD : va_D A [(h0, .inr (11, [.ref h1, .int 5, .ref r0, .ref r1, .ref r2, .ref r3, .ref r4, .ref r5, .ref r6, .ref r7, .ref r8, .ref r9])), (h1, .inl (k0, 1600, .inl (upd f0 4 (vp_nar .byte u_42))))] := hD
  refine lv_iinc (v := 16) (lv' := [(2, .int 16), (0, .ref h0), (1, .int x0)]) hx hb dX11_putFour_40 hl (k := 0) rfl (by decide) (by decide) rfl (fun ls hl => ?_)
  refine lv_goto (tgt := 3) hx hb dX11_putFour_43 (by decide) ?_
  refine lv_iload_n hx hb dX11_putFour_3 rfl (lv_at hl 0 rfl) ?_
  refine lv_if_lt (tgt := 46) hx hb dX11_putFour_4 (by decide) (fun h9 => absurd h9 (by decide)) (fun _ => ?_)
  refine lv_aload_n hx hb dX11_putFour_7 rfl (lv_at hl 1 rfl) ?_
  refine va_get (D := D) (ci := 11) (v := .int 5) (C := RX11) (T := TX11) (N := 12) hx hb hts iuX11_putFour_X11 hown hK hP 0 rfl rfl 1 (by decide) (hts (.fieldLink RX11 13 "StraitGame" "tapeBytes" "I") (List.mem_of_getElem? (i := 1) rfl)) (fun _ h9 => h9) rfl dX11_putFour_8 ?_
  refine lv_sipush (v := 1600) hx hb dX11_putFour_11 (by decide) ?_
  refine lv_icmp_ge (tgt := 46) hx hb dX11_putFour_14 (by decide) (fun h9 => absurd h9 (by decide)) (fun _ => ?_)
  refine lv_aload_n hx hb dX11_putFour_17 rfl (lv_at hl 1 rfl) ?_
  refine va_get (D := D) (ci := 11) (v := .ref h1) (C := RX11) (T := TX11) (N := 12) hx hb hts iuX11_putFour_X11 hown hK hP 0 rfl rfl 0 (by decide) (hts (.fieldLink RX11 9 "StraitGame" "tape" "[B") (List.mem_of_getElem? (i := 2) rfl)) (fun _ h9 => h9) rfl dX11_putFour_18 ?_
  refine lv_aload_n hx hb dX11_putFour_21 rfl (lv_at hl 1 rfl) ?_
  refine va_get (D := D) (ci := 11) (v := .int 5) (C := RX11) (T := TX11) (N := 12) hx hb hts iuX11_putFour_X11 hown hK hP 0 rfl rfl 1 (by decide) (hts (.fieldLink RX11 13 "StraitGame" "tapeBytes" "I") (List.mem_of_getElem? (i := 1) rfl)) (fun _ h9 => h9) rfl dX11_putFour_22 ?_
  refine lv_iload_n hx hb dX11_putFour_25 rfl (lv_at hl 2 rfl) ?_
  refine lv_iload_n hx hb dX11_putFour_26 rfl (lv_at hl 0 rfl) ?_
  obtain ⟨u_43, eu_43⟩ : ∃ y : Int32, (Int32.toUInt32 x0 >>> (Int32.toUInt32 16 &&& Int32.toUInt32 31)).toInt32 = y := ⟨_, rfl⟩
  refine lv_iushr (v := u_43) hx hb dX11_putFour_27 eu_43 ?_
  obtain ⟨u_44, eu_44⟩ : ∃ y : Int32, (Int32.toInt8 u_43).toInt32 = y := ⟨_, rfl⟩
  refine lv_i2b (v := u_44) hx hb dX11_putFour_28 eu_44 ?_
  refine va_bast hx hb hK hP hD hS 1 0 rfl rfl (z_in (by decide)) dX11_putFour_29 (fun H locs hP hD hS => ?_)
  have hP : va_P D vwCl [(h0, .inr (11, [.ref h1, .int 5, .ref r0, .ref r1, .ref r2, .ref r3, .ref r4, .ref r5, .ref r6, .ref r7, .ref r8, .ref r9])), (h1, .inl (k0, 1600, .inl (upd (upd f0 4 (vp_nar .byte u_42)) 5 (vp_nar .byte u_44))))] H := hP
  have hD : va_D A [(h0, .inr (11, [.ref h1, .int 5, .ref r0, .ref r1, .ref r2, .ref r3, .ref r4, .ref r5, .ref r6, .ref r7, .ref r8, .ref r9])), (h1, .inl (k0, 1600, .inl (upd (upd f0 4 (vp_nar .byte u_42)) 5 (vp_nar .byte u_44))))] := hD
  refine lv_aload_n hx hb dX11_putFour_30 rfl (lv_at hl 1 rfl) ?_
  refine lv_dup hx hb dX11_putFour_31 rfl ?_
  refine va_get (D := D) (ci := 11) (v := .int 5) (C := RX11) (T := TX11) (N := 12) hx hb hts iuX11_putFour_X11 hown hK hP 0 rfl rfl 1 (by decide) (hts (.fieldLink RX11 13 "StraitGame" "tapeBytes" "I") (List.mem_of_getElem? (i := 1) rfl)) (fun _ h9 => h9) rfl dX11_putFour_32 ?_
  refine lv_iconst (v := 1) hx hb dX11_putFour_35 (by decide) ?_
  refine lv_iadd hx hb dX11_putFour_36 ?_
  refine z_top (y := 6) (by decide) ?_
  refine va_put (D := D) (ci := 11) (v := .int 6) (ty := .int) (C := RX11) (T := TX11) (N := 12) hx hb hts iuX11_putFour_X11 tyX11 tyX11_ok nmX11 hown hK hP hD hS 0 rfl rfl 1 (by decide) (hts (.fieldLink RX11 13 "StraitGame" "tapeBytes" "I") (List.mem_of_getElem? (i := 1) rfl)) (fun _ h9 => h9) rfl (by decide +kernel) rfl rfl (Nat.le_of_ble_eq_true rfl) dX11_putFour_37 (fun H locs hP hD hS => ?_)
  have hP : va_P D vwCl [(h0, .inr (11, [.ref h1, .int 6, .ref r0, .ref r1, .ref r2, .ref r3, .ref r4, .ref r5, .ref r6, .ref r7, .ref r8, .ref r9])), (h1, .inl (k0, 1600, .inl (upd (upd f0 4 (vp_nar .byte u_42)) 5 (vp_nar .byte u_44))))] H := hP
  have hD : va_D A [(h0, .inr (11, [.ref h1, .int 6, .ref r0, .ref r1, .ref r2, .ref r3, .ref r4, .ref r5, .ref r6, .ref r7, .ref r8, .ref r9])), (h1, .inl (k0, 1600, .inl (upd (upd f0 4 (vp_nar .byte u_42)) 5 (vp_nar .byte u_44))))] := hD
  refine lv_iinc (v := 8) (lv' := [(2, .int 8), (0, .ref h0), (1, .int x0)]) hx hb dX11_putFour_40 hl (k := 0) rfl (by decide) (by decide) rfl (fun ls hl => ?_)
  refine lv_goto (tgt := 3) hx hb dX11_putFour_43 (by decide) ?_
  refine lv_iload_n hx hb dX11_putFour_3 rfl (lv_at hl 0 rfl) ?_
  refine lv_if_lt (tgt := 46) hx hb dX11_putFour_4 (by decide) (fun h9 => absurd h9 (by decide)) (fun _ => ?_)
  refine lv_aload_n hx hb dX11_putFour_7 rfl (lv_at hl 1 rfl) ?_
  refine va_get (D := D) (ci := 11) (v := .int 6) (C := RX11) (T := TX11) (N := 12) hx hb hts iuX11_putFour_X11 hown hK hP 0 rfl rfl 1 (by decide) (hts (.fieldLink RX11 13 "StraitGame" "tapeBytes" "I") (List.mem_of_getElem? (i := 1) rfl)) (fun _ h9 => h9) rfl dX11_putFour_8 ?_
  refine lv_sipush (v := 1600) hx hb dX11_putFour_11 (by decide) ?_
  refine lv_icmp_ge (tgt := 46) hx hb dX11_putFour_14 (by decide) (fun h9 => absurd h9 (by decide)) (fun _ => ?_)
  refine lv_aload_n hx hb dX11_putFour_17 rfl (lv_at hl 1 rfl) ?_
  refine va_get (D := D) (ci := 11) (v := .ref h1) (C := RX11) (T := TX11) (N := 12) hx hb hts iuX11_putFour_X11 hown hK hP 0 rfl rfl 0 (by decide) (hts (.fieldLink RX11 9 "StraitGame" "tape" "[B") (List.mem_of_getElem? (i := 2) rfl)) (fun _ h9 => h9) rfl dX11_putFour_18 ?_
  refine lv_aload_n hx hb dX11_putFour_21 rfl (lv_at hl 1 rfl) ?_
  refine va_get (D := D) (ci := 11) (v := .int 6) (C := RX11) (T := TX11) (N := 12) hx hb hts iuX11_putFour_X11 hown hK hP 0 rfl rfl 1 (by decide) (hts (.fieldLink RX11 13 "StraitGame" "tapeBytes" "I") (List.mem_of_getElem? (i := 1) rfl)) (fun _ h9 => h9) rfl dX11_putFour_22 ?_
  refine lv_iload_n hx hb dX11_putFour_25 rfl (lv_at hl 2 rfl) ?_
  refine lv_iload_n hx hb dX11_putFour_26 rfl (lv_at hl 0 rfl) ?_
  obtain ⟨u_45, eu_45⟩ : ∃ y : Int32, (Int32.toUInt32 x0 >>> (Int32.toUInt32 8 &&& Int32.toUInt32 31)).toInt32 = y := ⟨_, rfl⟩
  refine lv_iushr (v := u_45) hx hb dX11_putFour_27 eu_45 ?_
  obtain ⟨u_46, eu_46⟩ : ∃ y : Int32, (Int32.toInt8 u_45).toInt32 = y := ⟨_, rfl⟩
  refine lv_i2b (v := u_46) hx hb dX11_putFour_28 eu_46 ?_
  refine va_bast hx hb hK hP hD hS 1 0 rfl rfl (z_in (by decide)) dX11_putFour_29 (fun H locs hP hD hS => ?_)
  have hP : va_P D vwCl [(h0, .inr (11, [.ref h1, .int 6, .ref r0, .ref r1, .ref r2, .ref r3, .ref r4, .ref r5, .ref r6, .ref r7, .ref r8, .ref r9])), (h1, .inl (k0, 1600, .inl (upd (upd (upd f0 4 (vp_nar .byte u_42)) 5 (vp_nar .byte u_44)) 6 (vp_nar .byte u_46))))] H := hP
  have hD : va_D A [(h0, .inr (11, [.ref h1, .int 6, .ref r0, .ref r1, .ref r2, .ref r3, .ref r4, .ref r5, .ref r6, .ref r7, .ref r8, .ref r9])), (h1, .inl (k0, 1600, .inl (upd (upd (upd f0 4 (vp_nar .byte u_42)) 5 (vp_nar .byte u_44)) 6 (vp_nar .byte u_46))))] := hD
  refine lv_aload_n hx hb dX11_putFour_30 rfl (lv_at hl 1 rfl) ?_
  refine lv_dup hx hb dX11_putFour_31 rfl ?_
  refine va_get (D := D) (ci := 11) (v := .int 6) (C := RX11) (T := TX11) (N := 12) hx hb hts iuX11_putFour_X11 hown hK hP 0 rfl rfl 1 (by decide) (hts (.fieldLink RX11 13 "StraitGame" "tapeBytes" "I") (List.mem_of_getElem? (i := 1) rfl)) (fun _ h9 => h9) rfl dX11_putFour_32 ?_
  refine lv_iconst (v := 1) hx hb dX11_putFour_35 (by decide) ?_
  refine lv_iadd hx hb dX11_putFour_36 ?_
  refine z_top (y := 7) (by decide) ?_
  refine va_put (D := D) (ci := 11) (v := .int 7) (ty := .int) (C := RX11) (T := TX11) (N := 12) hx hb hts iuX11_putFour_X11 tyX11 tyX11_ok nmX11 hown hK hP hD hS 0 rfl rfl 1 (by decide) (hts (.fieldLink RX11 13 "StraitGame" "tapeBytes" "I") (List.mem_of_getElem? (i := 1) rfl)) (fun _ h9 => h9) rfl (by decide +kernel) rfl rfl (Nat.le_of_ble_eq_true rfl) dX11_putFour_37 (fun H locs hP hD hS => ?_)
  have hP : va_P D vwCl [(h0, .inr (11, [.ref h1, .int 7, .ref r0, .ref r1, .ref r2, .ref r3, .ref r4, .ref r5, .ref r6, .ref r7, .ref r8, .ref r9])), (h1, .inl (k0, 1600, .inl (upd (upd (upd f0 4 (vp_nar .byte u_42)) 5 (vp_nar .byte u_44)) 6 (vp_nar .byte u_46))))] H := hP
  have hD : va_D A [(h0, .inr (11, [.ref h1, .int 7, .ref r0, .ref r1, .ref r2, .ref r3, .ref r4, .ref r5, .ref r6, .ref r7, .ref r8, .ref r9])), (h1, .inl (k0, 1600, .inl (upd (upd (upd f0 4 (vp_nar .byte u_42)) 5 (vp_nar .byte u_44)) 6 (vp_nar .byte u_46))))] := hD
  refine lv_iinc (v := 0) (lv' := [(2, .int 0), (0, .ref h0), (1, .int x0)]) hx hb dX11_putFour_40 hl (k := 0) rfl (by decide) (by decide) rfl (fun ls hl => ?_)
  refine lv_goto (tgt := 3) hx hb dX11_putFour_43 (by decide) ?_
  refine lv_iload_n hx hb dX11_putFour_3 rfl (lv_at hl 0 rfl) ?_
  refine lv_if_lt (tgt := 46) hx hb dX11_putFour_4 (by decide) (fun h9 => absurd h9 (by decide)) (fun _ => ?_)
  refine lv_aload_n hx hb dX11_putFour_7 rfl (lv_at hl 1 rfl) ?_
  refine va_get (D := D) (ci := 11) (v := .int 7) (C := RX11) (T := TX11) (N := 12) hx hb hts iuX11_putFour_X11 hown hK hP 0 rfl rfl 1 (by decide) (hts (.fieldLink RX11 13 "StraitGame" "tapeBytes" "I") (List.mem_of_getElem? (i := 1) rfl)) (fun _ h9 => h9) rfl dX11_putFour_8 ?_
  refine lv_sipush (v := 1600) hx hb dX11_putFour_11 (by decide) ?_
  refine lv_icmp_ge (tgt := 46) hx hb dX11_putFour_14 (by decide) (fun h9 => absurd h9 (by decide)) (fun _ => ?_)
  refine lv_aload_n hx hb dX11_putFour_17 rfl (lv_at hl 1 rfl) ?_
  refine va_get (D := D) (ci := 11) (v := .ref h1) (C := RX11) (T := TX11) (N := 12) hx hb hts iuX11_putFour_X11 hown hK hP 0 rfl rfl 0 (by decide) (hts (.fieldLink RX11 9 "StraitGame" "tape" "[B") (List.mem_of_getElem? (i := 2) rfl)) (fun _ h9 => h9) rfl dX11_putFour_18 ?_
  refine lv_aload_n hx hb dX11_putFour_21 rfl (lv_at hl 1 rfl) ?_
  refine va_get (D := D) (ci := 11) (v := .int 7) (C := RX11) (T := TX11) (N := 12) hx hb hts iuX11_putFour_X11 hown hK hP 0 rfl rfl 1 (by decide) (hts (.fieldLink RX11 13 "StraitGame" "tapeBytes" "I") (List.mem_of_getElem? (i := 1) rfl)) (fun _ h9 => h9) rfl dX11_putFour_22 ?_
  refine lv_iload_n hx hb dX11_putFour_25 rfl (lv_at hl 2 rfl) ?_
  refine lv_iload_n hx hb dX11_putFour_26 rfl (lv_at hl 0 rfl) ?_
  obtain ⟨u_47, eu_47⟩ : ∃ y : Int32, (Int32.toUInt32 x0 >>> (Int32.toUInt32 0 &&& Int32.toUInt32 31)).toInt32 = y := ⟨_, rfl⟩
  refine lv_iushr (v := u_47) hx hb dX11_putFour_27 eu_47 ?_
  obtain ⟨u_48, eu_48⟩ : ∃ y : Int32, (Int32.toInt8 u_47).toInt32 = y := ⟨_, rfl⟩
  refine lv_i2b (v := u_48) hx hb dX11_putFour_28 eu_48 ?_
  refine va_bast hx hb hK hP hD hS 1 0 rfl rfl (z_in (by decide)) dX11_putFour_29 (fun H locs hP hD hS => ?_)
  have hP : va_P D vwCl [(h0, .inr (11, [.ref h1, .int 7, .ref r0, .ref r1, .ref r2, .ref r3, .ref r4, .ref r5, .ref r6, .ref r7, .ref r8, .ref r9])), (h1, .inl (k0, 1600, .inl (upd (upd (upd (upd f0 4 (vp_nar .byte u_42)) 5 (vp_nar .byte u_44)) 6 (vp_nar .byte u_46)) 7 (vp_nar .byte u_48))))] H := hP
  have hD : va_D A [(h0, .inr (11, [.ref h1, .int 7, .ref r0, .ref r1, .ref r2, .ref r3, .ref r4, .ref r5, .ref r6, .ref r7, .ref r8, .ref r9])), (h1, .inl (k0, 1600, .inl (upd (upd (upd (upd f0 4 (vp_nar .byte u_42)) 5 (vp_nar .byte u_44)) 6 (vp_nar .byte u_46)) 7 (vp_nar .byte u_48))))] := hD
  refine lv_aload_n hx hb dX11_putFour_30 rfl (lv_at hl 1 rfl) ?_
  refine lv_dup hx hb dX11_putFour_31 rfl ?_
  refine va_get (D := D) (ci := 11) (v := .int 7) (C := RX11) (T := TX11) (N := 12) hx hb hts iuX11_putFour_X11 hown hK hP 0 rfl rfl 1 (by decide) (hts (.fieldLink RX11 13 "StraitGame" "tapeBytes" "I") (List.mem_of_getElem? (i := 1) rfl)) (fun _ h9 => h9) rfl dX11_putFour_32 ?_
  refine lv_iconst (v := 1) hx hb dX11_putFour_35 (by decide) ?_
  refine lv_iadd hx hb dX11_putFour_36 ?_
  refine z_top (y := 8) (by decide) ?_
  refine va_put (D := D) (ci := 11) (v := .int 8) (ty := .int) (C := RX11) (T := TX11) (N := 12) hx hb hts iuX11_putFour_X11 tyX11 tyX11_ok nmX11 hown hK hP hD hS 0 rfl rfl 1 (by decide) (hts (.fieldLink RX11 13 "StraitGame" "tapeBytes" "I") (List.mem_of_getElem? (i := 1) rfl)) (fun _ h9 => h9) rfl (by decide +kernel) rfl rfl (Nat.le_of_ble_eq_true rfl) dX11_putFour_37 (fun H locs hP hD hS => ?_)
  have hP : va_P D vwCl [(h0, .inr (11, [.ref h1, .int 8, .ref r0, .ref r1, .ref r2, .ref r3, .ref r4, .ref r5, .ref r6, .ref r7, .ref r8, .ref r9])), (h1, .inl (k0, 1600, .inl (upd (upd (upd (upd f0 4 (vp_nar .byte u_42)) 5 (vp_nar .byte u_44)) 6 (vp_nar .byte u_46)) 7 (vp_nar .byte u_48))))] H := hP
  have hD : va_D A [(h0, .inr (11, [.ref h1, .int 8, .ref r0, .ref r1, .ref r2, .ref r3, .ref r4, .ref r5, .ref r6, .ref r7, .ref r8, .ref r9])), (h1, .inl (k0, 1600, .inl (upd (upd (upd (upd f0 4 (vp_nar .byte u_42)) 5 (vp_nar .byte u_44)) 6 (vp_nar .byte u_46)) 7 (vp_nar .byte u_48))))] := hD
  refine lv_iinc (v := (-8)) (lv' := [(2, .int (-8)), (0, .ref h0), (1, .int x0)]) hx hb dX11_putFour_40 hl (k := 0) rfl (by decide) (by decide) rfl (fun ls hl => ?_)
  refine lv_goto (tgt := 3) hx hb dX11_putFour_43 (by decide) ?_
  refine lv_iload_n hx hb dX11_putFour_3 rfl (lv_at hl 0 rfl) ?_
  refine lv_if_lt (tgt := 46) hx hb dX11_putFour_4 (by decide) (fun _ => ?_) (fun h9 => absurd (by decide) h9)
  exact zret_v hx hb hr hlocks hP hD hK hS (upd (upd (upd (upd f0 4 (vp_nar .byte u_42)) 5 (vp_nar .byte u_44)) 6 (vp_nar .byte u_46)) 7 (vp_nar .byte u_48)) trivial [0, 1] [] (by decide) rfl rfl (Nat.le_of_ble_eq_true rfl) (Nat.le_of_ble_eq_true rfl) dX11_putFour_46
set_option maxHeartbeats 4000000 in
set_option maxRecDepth 100000 in
theorem zX11_putFour_3 (l : Launch) (D : va_G) (h0 h1 r0 r1 r2 r3 r4 r5 r6 r7 r8 r9 : Nat) (k0 : ClassId) (f0 : Nat → Int32) (x0 : Int32) (sz : Nat) (hx0 : -2147483648 ≤ x0.toInt ∧ x0.toInt ≤ 2147483647) : Met l yX11_putFour wsX11_putFour ({ frames := 0, cells := 0, slots := 0, locals := 0 }) (zPre D [.ref h0, .int x0] [(h0, .inr (11, [.ref h1, .int 8, .ref r0, .ref r1, .ref r2, .ref r3, .ref r4, .ref r5, .ref r6, .ref r7, .ref r8, .ref r9])), (h1, .inl (k0, 1600, .inl f0))] [(k0, .byte)] sz) ((fun A => va_Qv (fun (u : (Nat → Int32)) => match u with | ff_39 => True) (zB D A (fun (u : (Nat → Int32)) => match u with | ff_39 => [(h0, .inr (11, [.ref h1, .int 12, .ref r0, .ref r1, .ref r2, .ref r3, .ref r4, .ref r5, .ref r6, .ref r7, .ref r8, .ref r9])), (h1, .inl (k0, 1600, .inl ff_39))]) (fun (u : (Nat → Int32)) => match u with | ff_39 => [])) A) (va_A [(h0, .inr (11, [.ref h1, .int 8, .ref r0, .ref r1, .ref r2, .ref r3, .ref r4, .ref r5, .ref r6, .ref r7, .ref r8, .ref r9])), (h1, .inl (k0, 1600, .inl f0))] sz)) 0 0 (va_A [(h0, .inr (11, [.ref h1, .int 8, .ref r0, .ref r1, .ref r2, .ref r3, .ref r4, .ref r5, .ref r6, .ref r7, .ref r8, .ref r9])), (h1, .inl (k0, 1600, .inl f0))] sz) := by
  refine zOfW (QF := fun A => va_Qv (fun (u : (Nat → Int32)) => match u with | ff_39 => True) (zB D A (fun (u : (Nat → Int32)) => match u with | ff_39 => [(h0, .inr (11, [.ref h1, .int 12, .ref r0, .ref r1, .ref r2, .ref r3, .ref r4, .ref r5, .ref r6, .ref r7, .ref r8, .ref r9])), (h1, .inl (k0, 1600, .inl ff_39))]) (fun (u : (Nat → Int32)) => match u with | ff_39 => [])) A) (cc := cX11_putFour) (maxL := 3) (ret := none) (by decide) rfl (Nat.le_of_ble_eq_true rfl) ?_
  intro p e s m below meth c A ls hx hb hr hml hts hown hlocks hin hA hS hP hD hK hN hl
  have hl : lv_has ls 3 [(0, .ref h0), (1, .int x0)] := hl
  refine lv_bipush (v := 24) hx hb dX11_putFour_0 (by decide) ?_
  refine lv_istore_n (lv' := [(2, .int 24), (0, .ref h0), (1, .int x0)]) hx hb dX11_putFour_2 rfl hl (by decide) rfl (fun ls hl => ?_)
  refine lv_iload_n hx hb dX11_putFour_3 rfl (lv_at hl 0 rfl) ?_
  refine lv_if_lt (tgt := 46) hx hb dX11_putFour_4 (by decide) (fun h9 => absurd h9 (by decide)) (fun _ => ?_)
  refine lv_aload_n hx hb dX11_putFour_7 rfl (lv_at hl 1 rfl) ?_
  refine va_get (D := D) (ci := 11) (v := .int 8) (C := RX11) (T := TX11) (N := 12) hx hb hts iuX11_putFour_X11 hown hK hP 0 rfl rfl 1 (by decide) (hts (.fieldLink RX11 13 "StraitGame" "tapeBytes" "I") (List.mem_of_getElem? (i := 1) rfl)) (fun _ h9 => h9) rfl dX11_putFour_8 ?_
  refine lv_sipush (v := 1600) hx hb dX11_putFour_11 (by decide) ?_
  refine lv_icmp_ge (tgt := 46) hx hb dX11_putFour_14 (by decide) (fun h9 => absurd h9 (by decide)) (fun _ => ?_)
  refine lv_aload_n hx hb dX11_putFour_17 rfl (lv_at hl 1 rfl) ?_
  refine va_get (D := D) (ci := 11) (v := .ref h1) (C := RX11) (T := TX11) (N := 12) hx hb hts iuX11_putFour_X11 hown hK hP 0 rfl rfl 0 (by decide) (hts (.fieldLink RX11 9 "StraitGame" "tape" "[B") (List.mem_of_getElem? (i := 2) rfl)) (fun _ h9 => h9) rfl dX11_putFour_18 ?_
  refine lv_aload_n hx hb dX11_putFour_21 rfl (lv_at hl 1 rfl) ?_
  refine va_get (D := D) (ci := 11) (v := .int 8) (C := RX11) (T := TX11) (N := 12) hx hb hts iuX11_putFour_X11 hown hK hP 0 rfl rfl 1 (by decide) (hts (.fieldLink RX11 13 "StraitGame" "tapeBytes" "I") (List.mem_of_getElem? (i := 1) rfl)) (fun _ h9 => h9) rfl dX11_putFour_22 ?_
  refine lv_iload_n hx hb dX11_putFour_25 rfl (lv_at hl 2 rfl) ?_
  refine lv_iload_n hx hb dX11_putFour_26 rfl (lv_at hl 0 rfl) ?_
  obtain ⟨u_65, eu_65⟩ : ∃ y : Int32, (Int32.toUInt32 x0 >>> (Int32.toUInt32 24 &&& Int32.toUInt32 31)).toInt32 = y := ⟨_, rfl⟩
  refine lv_iushr (v := u_65) hx hb dX11_putFour_27 eu_65 ?_
  obtain ⟨u_66, eu_66⟩ : ∃ y : Int32, (Int32.toInt8 u_65).toInt32 = y := ⟨_, rfl⟩
  refine lv_i2b (v := u_66) hx hb dX11_putFour_28 eu_66 ?_
  refine va_bast hx hb hK hP hD hS 1 0 rfl rfl (z_in (by decide)) dX11_putFour_29 (fun H locs hP hD hS => ?_)
  have hP : va_P D vwCl [(h0, .inr (11, [.ref h1, .int 8, .ref r0, .ref r1, .ref r2, .ref r3, .ref r4, .ref r5, .ref r6, .ref r7, .ref r8, .ref r9])), (h1, .inl (k0, 1600, .inl (upd f0 8 (vp_nar .byte u_66))))] H := hP
  have hD : va_D A [(h0, .inr (11, [.ref h1, .int 8, .ref r0, .ref r1, .ref r2, .ref r3, .ref r4, .ref r5, .ref r6, .ref r7, .ref r8, .ref r9])), (h1, .inl (k0, 1600, .inl (upd f0 8 (vp_nar .byte u_66))))] := hD
  refine lv_aload_n hx hb dX11_putFour_30 rfl (lv_at hl 1 rfl) ?_
  refine lv_dup hx hb dX11_putFour_31 rfl ?_
  refine va_get (D := D) (ci := 11) (v := .int 8) (C := RX11) (T := TX11) (N := 12) hx hb hts iuX11_putFour_X11 hown hK hP 0 rfl rfl 1 (by decide) (hts (.fieldLink RX11 13 "StraitGame" "tapeBytes" "I") (List.mem_of_getElem? (i := 1) rfl)) (fun _ h9 => h9) rfl dX11_putFour_32 ?_
  refine lv_iconst (v := 1) hx hb dX11_putFour_35 (by decide) ?_
  refine lv_iadd hx hb dX11_putFour_36 ?_
  refine z_top (y := 9) (by decide) ?_
  refine va_put (D := D) (ci := 11) (v := .int 9) (ty := .int) (C := RX11) (T := TX11) (N := 12) hx hb hts iuX11_putFour_X11 tyX11 tyX11_ok nmX11 hown hK hP hD hS 0 rfl rfl 1 (by decide) (hts (.fieldLink RX11 13 "StraitGame" "tapeBytes" "I") (List.mem_of_getElem? (i := 1) rfl)) (fun _ h9 => h9) rfl (by decide +kernel) rfl rfl (Nat.le_of_ble_eq_true rfl) dX11_putFour_37 (fun H locs hP hD hS => ?_)
  have hP : va_P D vwCl [(h0, .inr (11, [.ref h1, .int 9, .ref r0, .ref r1, .ref r2, .ref r3, .ref r4, .ref r5, .ref r6, .ref r7, .ref r8, .ref r9])), (h1, .inl (k0, 1600, .inl (upd f0 8 (vp_nar .byte u_66))))] H := hP
  have hD : va_D A [(h0, .inr (11, [.ref h1, .int 9, .ref r0, .ref r1, .ref r2, .ref r3, .ref r4, .ref r5, .ref r6, .ref r7, .ref r8, .ref r9])), (h1, .inl (k0, 1600, .inl (upd f0 8 (vp_nar .byte u_66))))] := hD
  refine lv_iinc (v := 16) (lv' := [(2, .int 16), (0, .ref h0), (1, .int x0)]) hx hb dX11_putFour_40 hl (k := 0) rfl (by decide) (by decide) rfl (fun ls hl => ?_)
  refine lv_goto (tgt := 3) hx hb dX11_putFour_43 (by decide) ?_
  refine lv_iload_n hx hb dX11_putFour_3 rfl (lv_at hl 0 rfl) ?_
  refine lv_if_lt (tgt := 46) hx hb dX11_putFour_4 (by decide) (fun h9 => absurd h9 (by decide)) (fun _ => ?_)
  refine lv_aload_n hx hb dX11_putFour_7 rfl (lv_at hl 1 rfl) ?_
  refine va_get (D := D) (ci := 11) (v := .int 9) (C := RX11) (T := TX11) (N := 12) hx hb hts iuX11_putFour_X11 hown hK hP 0 rfl rfl 1 (by decide) (hts (.fieldLink RX11 13 "StraitGame" "tapeBytes" "I") (List.mem_of_getElem? (i := 1) rfl)) (fun _ h9 => h9) rfl dX11_putFour_8 ?_
  refine lv_sipush (v := 1600) hx hb dX11_putFour_11 (by decide) ?_
  refine lv_icmp_ge (tgt := 46) hx hb dX11_putFour_14 (by decide) (fun h9 => absurd h9 (by decide)) (fun _ => ?_)
  refine lv_aload_n hx hb dX11_putFour_17 rfl (lv_at hl 1 rfl) ?_
  refine va_get (D := D) (ci := 11) (v := .ref h1) (C := RX11) (T := TX11) (N := 12) hx hb hts iuX11_putFour_X11 hown hK hP 0 rfl rfl 0 (by decide) (hts (.fieldLink RX11 9 "StraitGame" "tape" "[B") (List.mem_of_getElem? (i := 2) rfl)) (fun _ h9 => h9) rfl dX11_putFour_18 ?_
  refine lv_aload_n hx hb dX11_putFour_21 rfl (lv_at hl 1 rfl) ?_
  refine va_get (D := D) (ci := 11) (v := .int 9) (C := RX11) (T := TX11) (N := 12) hx hb hts iuX11_putFour_X11 hown hK hP 0 rfl rfl 1 (by decide) (hts (.fieldLink RX11 13 "StraitGame" "tapeBytes" "I") (List.mem_of_getElem? (i := 1) rfl)) (fun _ h9 => h9) rfl dX11_putFour_22 ?_
  refine lv_iload_n hx hb dX11_putFour_25 rfl (lv_at hl 2 rfl) ?_
  refine lv_iload_n hx hb dX11_putFour_26 rfl (lv_at hl 0 rfl) ?_
  obtain ⟨u_67, eu_67⟩ : ∃ y : Int32, (Int32.toUInt32 x0 >>> (Int32.toUInt32 16 &&& Int32.toUInt32 31)).toInt32 = y := ⟨_, rfl⟩
  refine lv_iushr (v := u_67) hx hb dX11_putFour_27 eu_67 ?_
  obtain ⟨u_68, eu_68⟩ : ∃ y : Int32, (Int32.toInt8 u_67).toInt32 = y := ⟨_, rfl⟩
  refine lv_i2b (v := u_68) hx hb dX11_putFour_28 eu_68 ?_
  refine va_bast hx hb hK hP hD hS 1 0 rfl rfl (z_in (by decide)) dX11_putFour_29 (fun H locs hP hD hS => ?_)
  have hP : va_P D vwCl [(h0, .inr (11, [.ref h1, .int 9, .ref r0, .ref r1, .ref r2, .ref r3, .ref r4, .ref r5, .ref r6, .ref r7, .ref r8, .ref r9])), (h1, .inl (k0, 1600, .inl (upd (upd f0 8 (vp_nar .byte u_66)) 9 (vp_nar .byte u_68))))] H := hP
  have hD : va_D A [(h0, .inr (11, [.ref h1, .int 9, .ref r0, .ref r1, .ref r2, .ref r3, .ref r4, .ref r5, .ref r6, .ref r7, .ref r8, .ref r9])), (h1, .inl (k0, 1600, .inl (upd (upd f0 8 (vp_nar .byte u_66)) 9 (vp_nar .byte u_68))))] := hD
  refine lv_aload_n hx hb dX11_putFour_30 rfl (lv_at hl 1 rfl) ?_
  refine lv_dup hx hb dX11_putFour_31 rfl ?_
  refine va_get (D := D) (ci := 11) (v := .int 9) (C := RX11) (T := TX11) (N := 12) hx hb hts iuX11_putFour_X11 hown hK hP 0 rfl rfl 1 (by decide) (hts (.fieldLink RX11 13 "StraitGame" "tapeBytes" "I") (List.mem_of_getElem? (i := 1) rfl)) (fun _ h9 => h9) rfl dX11_putFour_32 ?_
  refine lv_iconst (v := 1) hx hb dX11_putFour_35 (by decide) ?_
  refine lv_iadd hx hb dX11_putFour_36 ?_
  refine z_top (y := 10) (by decide) ?_
  refine va_put (D := D) (ci := 11) (v := .int 10) (ty := .int) (C := RX11) (T := TX11) (N := 12) hx hb hts iuX11_putFour_X11 tyX11 tyX11_ok nmX11 hown hK hP hD hS 0 rfl rfl 1 (by decide) (hts (.fieldLink RX11 13 "StraitGame" "tapeBytes" "I") (List.mem_of_getElem? (i := 1) rfl)) (fun _ h9 => h9) rfl (by decide +kernel) rfl rfl (Nat.le_of_ble_eq_true rfl) dX11_putFour_37 (fun H locs hP hD hS => ?_)
  have hP : va_P D vwCl [(h0, .inr (11, [.ref h1, .int 10, .ref r0, .ref r1, .ref r2, .ref r3, .ref r4, .ref r5, .ref r6, .ref r7, .ref r8, .ref r9])), (h1, .inl (k0, 1600, .inl (upd (upd f0 8 (vp_nar .byte u_66)) 9 (vp_nar .byte u_68))))] H := hP
  have hD : va_D A [(h0, .inr (11, [.ref h1, .int 10, .ref r0, .ref r1, .ref r2, .ref r3, .ref r4, .ref r5, .ref r6, .ref r7, .ref r8, .ref r9])), (h1, .inl (k0, 1600, .inl (upd (upd f0 8 (vp_nar .byte u_66)) 9 (vp_nar .byte u_68))))] := hD
  refine lv_iinc (v := 8) (lv' := [(2, .int 8), (0, .ref h0), (1, .int x0)]) hx hb dX11_putFour_40 hl (k := 0) rfl (by decide) (by decide) rfl (fun ls hl => ?_)
  refine lv_goto (tgt := 3) hx hb dX11_putFour_43 (by decide) ?_
  refine lv_iload_n hx hb dX11_putFour_3 rfl (lv_at hl 0 rfl) ?_
  refine lv_if_lt (tgt := 46) hx hb dX11_putFour_4 (by decide) (fun h9 => absurd h9 (by decide)) (fun _ => ?_)
  refine lv_aload_n hx hb dX11_putFour_7 rfl (lv_at hl 1 rfl) ?_
  refine va_get (D := D) (ci := 11) (v := .int 10) (C := RX11) (T := TX11) (N := 12) hx hb hts iuX11_putFour_X11 hown hK hP 0 rfl rfl 1 (by decide) (hts (.fieldLink RX11 13 "StraitGame" "tapeBytes" "I") (List.mem_of_getElem? (i := 1) rfl)) (fun _ h9 => h9) rfl dX11_putFour_8 ?_
  refine lv_sipush (v := 1600) hx hb dX11_putFour_11 (by decide) ?_
  refine lv_icmp_ge (tgt := 46) hx hb dX11_putFour_14 (by decide) (fun h9 => absurd h9 (by decide)) (fun _ => ?_)
  refine lv_aload_n hx hb dX11_putFour_17 rfl (lv_at hl 1 rfl) ?_
  refine va_get (D := D) (ci := 11) (v := .ref h1) (C := RX11) (T := TX11) (N := 12) hx hb hts iuX11_putFour_X11 hown hK hP 0 rfl rfl 0 (by decide) (hts (.fieldLink RX11 9 "StraitGame" "tape" "[B") (List.mem_of_getElem? (i := 2) rfl)) (fun _ h9 => h9) rfl dX11_putFour_18 ?_
  refine lv_aload_n hx hb dX11_putFour_21 rfl (lv_at hl 1 rfl) ?_
  refine va_get (D := D) (ci := 11) (v := .int 10) (C := RX11) (T := TX11) (N := 12) hx hb hts iuX11_putFour_X11 hown hK hP 0 rfl rfl 1 (by decide) (hts (.fieldLink RX11 13 "StraitGame" "tapeBytes" "I") (List.mem_of_getElem? (i := 1) rfl)) (fun _ h9 => h9) rfl dX11_putFour_22 ?_
  refine lv_iload_n hx hb dX11_putFour_25 rfl (lv_at hl 2 rfl) ?_
  refine lv_iload_n hx hb dX11_putFour_26 rfl (lv_at hl 0 rfl) ?_
  obtain ⟨u_69, eu_69⟩ : ∃ y : Int32, (Int32.toUInt32 x0 >>> (Int32.toUInt32 8 &&& Int32.toUInt32 31)).toInt32 = y := ⟨_, rfl⟩
  refine lv_iushr (v := u_69) hx hb dX11_putFour_27 eu_69 ?_
  obtain ⟨u_70, eu_70⟩ : ∃ y : Int32, (Int32.toInt8 u_69).toInt32 = y := ⟨_, rfl⟩
  refine lv_i2b (v := u_70) hx hb dX11_putFour_28 eu_70 ?_
  refine va_bast hx hb hK hP hD hS 1 0 rfl rfl (z_in (by decide)) dX11_putFour_29 (fun H locs hP hD hS => ?_)
  have hP : va_P D vwCl [(h0, .inr (11, [.ref h1, .int 10, .ref r0, .ref r1, .ref r2, .ref r3, .ref r4, .ref r5, .ref r6, .ref r7, .ref r8, .ref r9])), (h1, .inl (k0, 1600, .inl (upd (upd (upd f0 8 (vp_nar .byte u_66)) 9 (vp_nar .byte u_68)) 10 (vp_nar .byte u_70))))] H := hP
  have hD : va_D A [(h0, .inr (11, [.ref h1, .int 10, .ref r0, .ref r1, .ref r2, .ref r3, .ref r4, .ref r5, .ref r6, .ref r7, .ref r8, .ref r9])), (h1, .inl (k0, 1600, .inl (upd (upd (upd f0 8 (vp_nar .byte u_66)) 9 (vp_nar .byte u_68)) 10 (vp_nar .byte u_70))))] := hD
  refine lv_aload_n hx hb dX11_putFour_30 rfl (lv_at hl 1 rfl) ?_
  refine lv_dup hx hb dX11_putFour_31 rfl ?_
  refine va_get (D := D) (ci := 11) (v := .int 10) (C := RX11) (T := TX11) (N := 12) hx hb hts iuX11_putFour_X11 hown hK hP 0 rfl rfl 1 (by decide) (hts (.fieldLink RX11 13 "StraitGame" "tapeBytes" "I") (List.mem_of_getElem? (i := 1) rfl)) (fun _ h9 => h9) rfl dX11_putFour_32 ?_
  refine lv_iconst (v := 1) hx hb dX11_putFour_35 (by decide) ?_
  refine lv_iadd hx hb dX11_putFour_36 ?_
  refine z_top (y := 11) (by decide) ?_
  refine va_put (D := D) (ci := 11) (v := .int 11) (ty := .int) (C := RX11) (T := TX11) (N := 12) hx hb hts iuX11_putFour_X11 tyX11 tyX11_ok nmX11 hown hK hP hD hS 0 rfl rfl 1 (by decide) (hts (.fieldLink RX11 13 "StraitGame" "tapeBytes" "I") (List.mem_of_getElem? (i := 1) rfl)) (fun _ h9 => h9) rfl (by decide +kernel) rfl rfl (Nat.le_of_ble_eq_true rfl) dX11_putFour_37 (fun H locs hP hD hS => ?_)
  have hP : va_P D vwCl [(h0, .inr (11, [.ref h1, .int 11, .ref r0, .ref r1, .ref r2, .ref r3, .ref r4, .ref r5, .ref r6, .ref r7, .ref r8, .ref r9])), (h1, .inl (k0, 1600, .inl (upd (upd (upd f0 8 (vp_nar .byte u_66)) 9 (vp_nar .byte u_68)) 10 (vp_nar .byte u_70))))] H := hP
  have hD : va_D A [(h0, .inr (11, [.ref h1, .int 11, .ref r0, .ref r1, .ref r2, .ref r3, .ref r4, .ref r5, .ref r6, .ref r7, .ref r8, .ref r9])), (h1, .inl (k0, 1600, .inl (upd (upd (upd f0 8 (vp_nar .byte u_66)) 9 (vp_nar .byte u_68)) 10 (vp_nar .byte u_70))))] := hD
  refine lv_iinc (v := 0) (lv' := [(2, .int 0), (0, .ref h0), (1, .int x0)]) hx hb dX11_putFour_40 hl (k := 0) rfl (by decide) (by decide) rfl (fun ls hl => ?_)
  refine lv_goto (tgt := 3) hx hb dX11_putFour_43 (by decide) ?_
  refine lv_iload_n hx hb dX11_putFour_3 rfl (lv_at hl 0 rfl) ?_
  refine lv_if_lt (tgt := 46) hx hb dX11_putFour_4 (by decide) (fun h9 => absurd h9 (by decide)) (fun _ => ?_)
  refine lv_aload_n hx hb dX11_putFour_7 rfl (lv_at hl 1 rfl) ?_
  refine va_get (D := D) (ci := 11) (v := .int 11) (C := RX11) (T := TX11) (N := 12) hx hb hts iuX11_putFour_X11 hown hK hP 0 rfl rfl 1 (by decide) (hts (.fieldLink RX11 13 "StraitGame" "tapeBytes" "I") (List.mem_of_getElem? (i := 1) rfl)) (fun _ h9 => h9) rfl dX11_putFour_8 ?_
  refine lv_sipush (v := 1600) hx hb dX11_putFour_11 (by decide) ?_
  refine lv_icmp_ge (tgt := 46) hx hb dX11_putFour_14 (by decide) (fun h9 => absurd h9 (by decide)) (fun _ => ?_)
  refine lv_aload_n hx hb dX11_putFour_17 rfl (lv_at hl 1 rfl) ?_
  refine va_get (D := D) (ci := 11) (v := .ref h1) (C := RX11) (T := TX11) (N := 12) hx hb hts iuX11_putFour_X11 hown hK hP 0 rfl rfl 0 (by decide) (hts (.fieldLink RX11 9 "StraitGame" "tape" "[B") (List.mem_of_getElem? (i := 2) rfl)) (fun _ h9 => h9) rfl dX11_putFour_18 ?_
  refine lv_aload_n hx hb dX11_putFour_21 rfl (lv_at hl 1 rfl) ?_
  refine va_get (D := D) (ci := 11) (v := .int 11) (C := RX11) (T := TX11) (N := 12) hx hb hts iuX11_putFour_X11 hown hK hP 0 rfl rfl 1 (by decide) (hts (.fieldLink RX11 13 "StraitGame" "tapeBytes" "I") (List.mem_of_getElem? (i := 1) rfl)) (fun _ h9 => h9) rfl dX11_putFour_22 ?_
  refine lv_iload_n hx hb dX11_putFour_25 rfl (lv_at hl 2 rfl) ?_
  refine lv_iload_n hx hb dX11_putFour_26 rfl (lv_at hl 0 rfl) ?_
  obtain ⟨u_71, eu_71⟩ : ∃ y : Int32, (Int32.toUInt32 x0 >>> (Int32.toUInt32 0 &&& Int32.toUInt32 31)).toInt32 = y := ⟨_, rfl⟩
  refine lv_iushr (v := u_71) hx hb dX11_putFour_27 eu_71 ?_
  obtain ⟨u_72, eu_72⟩ : ∃ y : Int32, (Int32.toInt8 u_71).toInt32 = y := ⟨_, rfl⟩
  refine lv_i2b (v := u_72) hx hb dX11_putFour_28 eu_72 ?_
  refine va_bast hx hb hK hP hD hS 1 0 rfl rfl (z_in (by decide)) dX11_putFour_29 (fun H locs hP hD hS => ?_)
  have hP : va_P D vwCl [(h0, .inr (11, [.ref h1, .int 11, .ref r0, .ref r1, .ref r2, .ref r3, .ref r4, .ref r5, .ref r6, .ref r7, .ref r8, .ref r9])), (h1, .inl (k0, 1600, .inl (upd (upd (upd (upd f0 8 (vp_nar .byte u_66)) 9 (vp_nar .byte u_68)) 10 (vp_nar .byte u_70)) 11 (vp_nar .byte u_72))))] H := hP
  have hD : va_D A [(h0, .inr (11, [.ref h1, .int 11, .ref r0, .ref r1, .ref r2, .ref r3, .ref r4, .ref r5, .ref r6, .ref r7, .ref r8, .ref r9])), (h1, .inl (k0, 1600, .inl (upd (upd (upd (upd f0 8 (vp_nar .byte u_66)) 9 (vp_nar .byte u_68)) 10 (vp_nar .byte u_70)) 11 (vp_nar .byte u_72))))] := hD
  refine lv_aload_n hx hb dX11_putFour_30 rfl (lv_at hl 1 rfl) ?_
  refine lv_dup hx hb dX11_putFour_31 rfl ?_
  refine va_get (D := D) (ci := 11) (v := .int 11) (C := RX11) (T := TX11) (N := 12) hx hb hts iuX11_putFour_X11 hown hK hP 0 rfl rfl 1 (by decide) (hts (.fieldLink RX11 13 "StraitGame" "tapeBytes" "I") (List.mem_of_getElem? (i := 1) rfl)) (fun _ h9 => h9) rfl dX11_putFour_32 ?_
  refine lv_iconst (v := 1) hx hb dX11_putFour_35 (by decide) ?_
  refine lv_iadd hx hb dX11_putFour_36 ?_
  refine z_top (y := 12) (by decide) ?_
  refine va_put (D := D) (ci := 11) (v := .int 12) (ty := .int) (C := RX11) (T := TX11) (N := 12) hx hb hts iuX11_putFour_X11 tyX11 tyX11_ok nmX11 hown hK hP hD hS 0 rfl rfl 1 (by decide) (hts (.fieldLink RX11 13 "StraitGame" "tapeBytes" "I") (List.mem_of_getElem? (i := 1) rfl)) (fun _ h9 => h9) rfl (by decide +kernel) rfl rfl (Nat.le_of_ble_eq_true rfl) dX11_putFour_37 (fun H locs hP hD hS => ?_)
  have hP : va_P D vwCl [(h0, .inr (11, [.ref h1, .int 12, .ref r0, .ref r1, .ref r2, .ref r3, .ref r4, .ref r5, .ref r6, .ref r7, .ref r8, .ref r9])), (h1, .inl (k0, 1600, .inl (upd (upd (upd (upd f0 8 (vp_nar .byte u_66)) 9 (vp_nar .byte u_68)) 10 (vp_nar .byte u_70)) 11 (vp_nar .byte u_72))))] H := hP
  have hD : va_D A [(h0, .inr (11, [.ref h1, .int 12, .ref r0, .ref r1, .ref r2, .ref r3, .ref r4, .ref r5, .ref r6, .ref r7, .ref r8, .ref r9])), (h1, .inl (k0, 1600, .inl (upd (upd (upd (upd f0 8 (vp_nar .byte u_66)) 9 (vp_nar .byte u_68)) 10 (vp_nar .byte u_70)) 11 (vp_nar .byte u_72))))] := hD
  refine lv_iinc (v := (-8)) (lv' := [(2, .int (-8)), (0, .ref h0), (1, .int x0)]) hx hb dX11_putFour_40 hl (k := 0) rfl (by decide) (by decide) rfl (fun ls hl => ?_)
  refine lv_goto (tgt := 3) hx hb dX11_putFour_43 (by decide) ?_
  refine lv_iload_n hx hb dX11_putFour_3 rfl (lv_at hl 0 rfl) ?_
  refine lv_if_lt (tgt := 46) hx hb dX11_putFour_4 (by decide) (fun _ => ?_) (fun h9 => absurd (by decide) h9)
  exact zret_v hx hb hr hlocks hP hD hK hS (upd (upd (upd (upd f0 8 (vp_nar .byte u_66)) 9 (vp_nar .byte u_68)) 10 (vp_nar .byte u_70)) 11 (vp_nar .byte u_72)) trivial [0, 1] [] (by decide) rfl rfl (Nat.le_of_ble_eq_true rfl) (Nat.le_of_ble_eq_true rfl) dX11_putFour_46
set_option maxHeartbeats 4000000 in
set_option maxRecDepth 100000 in
theorem zX11_putFour_4 (l : Launch) (D : va_G) (h0 h1 r0 r1 r2 r3 r4 r5 r6 r7 r8 r9 : Nat) (k0 : ClassId) (f0 : Nat → Int32) (x0 : Int32) (sz : Nat) (hx0 : -2147483648 ≤ x0.toInt ∧ x0.toInt ≤ 2147483647) : Met l yX11_putFour wsX11_putFour ({ frames := 0, cells := 0, slots := 0, locals := 0 }) (zPre D [.ref h0, .int x0] [(h0, .inr (11, [.ref h1, .int 12, .ref r0, .ref r1, .ref r2, .ref r3, .ref r4, .ref r5, .ref r6, .ref r7, .ref r8, .ref r9])), (h1, .inl (k0, 1600, .inl f0))] [(k0, .byte)] sz) ((fun A => va_Qv (fun (u : (Nat → Int32)) => match u with | ff_41 => True) (zB D A (fun (u : (Nat → Int32)) => match u with | ff_41 => [(h0, .inr (11, [.ref h1, .int 16, .ref r0, .ref r1, .ref r2, .ref r3, .ref r4, .ref r5, .ref r6, .ref r7, .ref r8, .ref r9])), (h1, .inl (k0, 1600, .inl ff_41))]) (fun (u : (Nat → Int32)) => match u with | ff_41 => [])) A) (va_A [(h0, .inr (11, [.ref h1, .int 12, .ref r0, .ref r1, .ref r2, .ref r3, .ref r4, .ref r5, .ref r6, .ref r7, .ref r8, .ref r9])), (h1, .inl (k0, 1600, .inl f0))] sz)) 0 0 (va_A [(h0, .inr (11, [.ref h1, .int 12, .ref r0, .ref r1, .ref r2, .ref r3, .ref r4, .ref r5, .ref r6, .ref r7, .ref r8, .ref r9])), (h1, .inl (k0, 1600, .inl f0))] sz) := by
  refine zOfW (QF := fun A => va_Qv (fun (u : (Nat → Int32)) => match u with | ff_41 => True) (zB D A (fun (u : (Nat → Int32)) => match u with | ff_41 => [(h0, .inr (11, [.ref h1, .int 16, .ref r0, .ref r1, .ref r2, .ref r3, .ref r4, .ref r5, .ref r6, .ref r7, .ref r8, .ref r9])), (h1, .inl (k0, 1600, .inl ff_41))]) (fun (u : (Nat → Int32)) => match u with | ff_41 => [])) A) (cc := cX11_putFour) (maxL := 3) (ret := none) (by decide) rfl (Nat.le_of_ble_eq_true rfl) ?_
  intro p e s m below meth c A ls hx hb hr hml hts hown hlocks hin hA hS hP hD hK hN hl
  have hl : lv_has ls 3 [(0, .ref h0), (1, .int x0)] := hl
  refine lv_bipush (v := 24) hx hb dX11_putFour_0 (by decide) ?_
  refine lv_istore_n (lv' := [(2, .int 24), (0, .ref h0), (1, .int x0)]) hx hb dX11_putFour_2 rfl hl (by decide) rfl (fun ls hl => ?_)
  refine lv_iload_n hx hb dX11_putFour_3 rfl (lv_at hl 0 rfl) ?_
  refine lv_if_lt (tgt := 46) hx hb dX11_putFour_4 (by decide) (fun h9 => absurd h9 (by decide)) (fun _ => ?_)
  refine lv_aload_n hx hb dX11_putFour_7 rfl (lv_at hl 1 rfl) ?_
  refine va_get (D := D) (ci := 11) (v := .int 12) (C := RX11) (T := TX11) (N := 12) hx hb hts iuX11_putFour_X11 hown hK hP 0 rfl rfl 1 (by decide) (hts (.fieldLink RX11 13 "StraitGame" "tapeBytes" "I") (List.mem_of_getElem? (i := 1) rfl)) (fun _ h9 => h9) rfl dX11_putFour_8 ?_
  refine lv_sipush (v := 1600) hx hb dX11_putFour_11 (by decide) ?_
  refine lv_icmp_ge (tgt := 46) hx hb dX11_putFour_14 (by decide) (fun h9 => absurd h9 (by decide)) (fun _ => ?_)
  refine lv_aload_n hx hb dX11_putFour_17 rfl (lv_at hl 1 rfl) ?_
  refine va_get (D := D) (ci := 11) (v := .ref h1) (C := RX11) (T := TX11) (N := 12) hx hb hts iuX11_putFour_X11 hown hK hP 0 rfl rfl 0 (by decide) (hts (.fieldLink RX11 9 "StraitGame" "tape" "[B") (List.mem_of_getElem? (i := 2) rfl)) (fun _ h9 => h9) rfl dX11_putFour_18 ?_
  refine lv_aload_n hx hb dX11_putFour_21 rfl (lv_at hl 1 rfl) ?_
  refine va_get (D := D) (ci := 11) (v := .int 12) (C := RX11) (T := TX11) (N := 12) hx hb hts iuX11_putFour_X11 hown hK hP 0 rfl rfl 1 (by decide) (hts (.fieldLink RX11 13 "StraitGame" "tapeBytes" "I") (List.mem_of_getElem? (i := 1) rfl)) (fun _ h9 => h9) rfl dX11_putFour_22 ?_
  refine lv_iload_n hx hb dX11_putFour_25 rfl (lv_at hl 2 rfl) ?_
  refine lv_iload_n hx hb dX11_putFour_26 rfl (lv_at hl 0 rfl) ?_
  obtain ⟨u_89, eu_89⟩ : ∃ y : Int32, (Int32.toUInt32 x0 >>> (Int32.toUInt32 24 &&& Int32.toUInt32 31)).toInt32 = y := ⟨_, rfl⟩
  refine lv_iushr (v := u_89) hx hb dX11_putFour_27 eu_89 ?_
  obtain ⟨u_90, eu_90⟩ : ∃ y : Int32, (Int32.toInt8 u_89).toInt32 = y := ⟨_, rfl⟩
  refine lv_i2b (v := u_90) hx hb dX11_putFour_28 eu_90 ?_
  refine va_bast hx hb hK hP hD hS 1 0 rfl rfl (z_in (by decide)) dX11_putFour_29 (fun H locs hP hD hS => ?_)
  have hP : va_P D vwCl [(h0, .inr (11, [.ref h1, .int 12, .ref r0, .ref r1, .ref r2, .ref r3, .ref r4, .ref r5, .ref r6, .ref r7, .ref r8, .ref r9])), (h1, .inl (k0, 1600, .inl (upd f0 12 (vp_nar .byte u_90))))] H := hP
  have hD : va_D A [(h0, .inr (11, [.ref h1, .int 12, .ref r0, .ref r1, .ref r2, .ref r3, .ref r4, .ref r5, .ref r6, .ref r7, .ref r8, .ref r9])), (h1, .inl (k0, 1600, .inl (upd f0 12 (vp_nar .byte u_90))))] := hD
  refine lv_aload_n hx hb dX11_putFour_30 rfl (lv_at hl 1 rfl) ?_
  refine lv_dup hx hb dX11_putFour_31 rfl ?_
  refine va_get (D := D) (ci := 11) (v := .int 12) (C := RX11) (T := TX11) (N := 12) hx hb hts iuX11_putFour_X11 hown hK hP 0 rfl rfl 1 (by decide) (hts (.fieldLink RX11 13 "StraitGame" "tapeBytes" "I") (List.mem_of_getElem? (i := 1) rfl)) (fun _ h9 => h9) rfl dX11_putFour_32 ?_
  refine lv_iconst (v := 1) hx hb dX11_putFour_35 (by decide) ?_
  refine lv_iadd hx hb dX11_putFour_36 ?_
  refine z_top (y := 13) (by decide) ?_
  refine va_put (D := D) (ci := 11) (v := .int 13) (ty := .int) (C := RX11) (T := TX11) (N := 12) hx hb hts iuX11_putFour_X11 tyX11 tyX11_ok nmX11 hown hK hP hD hS 0 rfl rfl 1 (by decide) (hts (.fieldLink RX11 13 "StraitGame" "tapeBytes" "I") (List.mem_of_getElem? (i := 1) rfl)) (fun _ h9 => h9) rfl (by decide +kernel) rfl rfl (Nat.le_of_ble_eq_true rfl) dX11_putFour_37 (fun H locs hP hD hS => ?_)
  have hP : va_P D vwCl [(h0, .inr (11, [.ref h1, .int 13, .ref r0, .ref r1, .ref r2, .ref r3, .ref r4, .ref r5, .ref r6, .ref r7, .ref r8, .ref r9])), (h1, .inl (k0, 1600, .inl (upd f0 12 (vp_nar .byte u_90))))] H := hP
  have hD : va_D A [(h0, .inr (11, [.ref h1, .int 13, .ref r0, .ref r1, .ref r2, .ref r3, .ref r4, .ref r5, .ref r6, .ref r7, .ref r8, .ref r9])), (h1, .inl (k0, 1600, .inl (upd f0 12 (vp_nar .byte u_90))))] := hD
  refine lv_iinc (v := 16) (lv' := [(2, .int 16), (0, .ref h0), (1, .int x0)]) hx hb dX11_putFour_40 hl (k := 0) rfl (by decide) (by decide) rfl (fun ls hl => ?_)
  refine lv_goto (tgt := 3) hx hb dX11_putFour_43 (by decide) ?_
  refine lv_iload_n hx hb dX11_putFour_3 rfl (lv_at hl 0 rfl) ?_
  refine lv_if_lt (tgt := 46) hx hb dX11_putFour_4 (by decide) (fun h9 => absurd h9 (by decide)) (fun _ => ?_)
  refine lv_aload_n hx hb dX11_putFour_7 rfl (lv_at hl 1 rfl) ?_
  refine va_get (D := D) (ci := 11) (v := .int 13) (C := RX11) (T := TX11) (N := 12) hx hb hts iuX11_putFour_X11 hown hK hP 0 rfl rfl 1 (by decide) (hts (.fieldLink RX11 13 "StraitGame" "tapeBytes" "I") (List.mem_of_getElem? (i := 1) rfl)) (fun _ h9 => h9) rfl dX11_putFour_8 ?_
  refine lv_sipush (v := 1600) hx hb dX11_putFour_11 (by decide) ?_
  refine lv_icmp_ge (tgt := 46) hx hb dX11_putFour_14 (by decide) (fun h9 => absurd h9 (by decide)) (fun _ => ?_)
  refine lv_aload_n hx hb dX11_putFour_17 rfl (lv_at hl 1 rfl) ?_
  refine va_get (D := D) (ci := 11) (v := .ref h1) (C := RX11) (T := TX11) (N := 12) hx hb hts iuX11_putFour_X11 hown hK hP 0 rfl rfl 0 (by decide) (hts (.fieldLink RX11 9 "StraitGame" "tape" "[B") (List.mem_of_getElem? (i := 2) rfl)) (fun _ h9 => h9) rfl dX11_putFour_18 ?_
  refine lv_aload_n hx hb dX11_putFour_21 rfl (lv_at hl 1 rfl) ?_
  refine va_get (D := D) (ci := 11) (v := .int 13) (C := RX11) (T := TX11) (N := 12) hx hb hts iuX11_putFour_X11 hown hK hP 0 rfl rfl 1 (by decide) (hts (.fieldLink RX11 13 "StraitGame" "tapeBytes" "I") (List.mem_of_getElem? (i := 1) rfl)) (fun _ h9 => h9) rfl dX11_putFour_22 ?_
  refine lv_iload_n hx hb dX11_putFour_25 rfl (lv_at hl 2 rfl) ?_
  refine lv_iload_n hx hb dX11_putFour_26 rfl (lv_at hl 0 rfl) ?_
  obtain ⟨u_91, eu_91⟩ : ∃ y : Int32, (Int32.toUInt32 x0 >>> (Int32.toUInt32 16 &&& Int32.toUInt32 31)).toInt32 = y := ⟨_, rfl⟩
  refine lv_iushr (v := u_91) hx hb dX11_putFour_27 eu_91 ?_
  obtain ⟨u_92, eu_92⟩ : ∃ y : Int32, (Int32.toInt8 u_91).toInt32 = y := ⟨_, rfl⟩
  refine lv_i2b (v := u_92) hx hb dX11_putFour_28 eu_92 ?_
  refine va_bast hx hb hK hP hD hS 1 0 rfl rfl (z_in (by decide)) dX11_putFour_29 (fun H locs hP hD hS => ?_)
  have hP : va_P D vwCl [(h0, .inr (11, [.ref h1, .int 13, .ref r0, .ref r1, .ref r2, .ref r3, .ref r4, .ref r5, .ref r6, .ref r7, .ref r8, .ref r9])), (h1, .inl (k0, 1600, .inl (upd (upd f0 12 (vp_nar .byte u_90)) 13 (vp_nar .byte u_92))))] H := hP
  have hD : va_D A [(h0, .inr (11, [.ref h1, .int 13, .ref r0, .ref r1, .ref r2, .ref r3, .ref r4, .ref r5, .ref r6, .ref r7, .ref r8, .ref r9])), (h1, .inl (k0, 1600, .inl (upd (upd f0 12 (vp_nar .byte u_90)) 13 (vp_nar .byte u_92))))] := hD
  refine lv_aload_n hx hb dX11_putFour_30 rfl (lv_at hl 1 rfl) ?_
  refine lv_dup hx hb dX11_putFour_31 rfl ?_
  refine va_get (D := D) (ci := 11) (v := .int 13) (C := RX11) (T := TX11) (N := 12) hx hb hts iuX11_putFour_X11 hown hK hP 0 rfl rfl 1 (by decide) (hts (.fieldLink RX11 13 "StraitGame" "tapeBytes" "I") (List.mem_of_getElem? (i := 1) rfl)) (fun _ h9 => h9) rfl dX11_putFour_32 ?_
  refine lv_iconst (v := 1) hx hb dX11_putFour_35 (by decide) ?_
  refine lv_iadd hx hb dX11_putFour_36 ?_
  refine z_top (y := 14) (by decide) ?_
  refine va_put (D := D) (ci := 11) (v := .int 14) (ty := .int) (C := RX11) (T := TX11) (N := 12) hx hb hts iuX11_putFour_X11 tyX11 tyX11_ok nmX11 hown hK hP hD hS 0 rfl rfl 1 (by decide) (hts (.fieldLink RX11 13 "StraitGame" "tapeBytes" "I") (List.mem_of_getElem? (i := 1) rfl)) (fun _ h9 => h9) rfl (by decide +kernel) rfl rfl (Nat.le_of_ble_eq_true rfl) dX11_putFour_37 (fun H locs hP hD hS => ?_)
  have hP : va_P D vwCl [(h0, .inr (11, [.ref h1, .int 14, .ref r0, .ref r1, .ref r2, .ref r3, .ref r4, .ref r5, .ref r6, .ref r7, .ref r8, .ref r9])), (h1, .inl (k0, 1600, .inl (upd (upd f0 12 (vp_nar .byte u_90)) 13 (vp_nar .byte u_92))))] H := hP
  have hD : va_D A [(h0, .inr (11, [.ref h1, .int 14, .ref r0, .ref r1, .ref r2, .ref r3, .ref r4, .ref r5, .ref r6, .ref r7, .ref r8, .ref r9])), (h1, .inl (k0, 1600, .inl (upd (upd f0 12 (vp_nar .byte u_90)) 13 (vp_nar .byte u_92))))] := hD
  refine lv_iinc (v := 8) (lv' := [(2, .int 8), (0, .ref h0), (1, .int x0)]) hx hb dX11_putFour_40 hl (k := 0) rfl (by decide) (by decide) rfl (fun ls hl => ?_)
  refine lv_goto (tgt := 3) hx hb dX11_putFour_43 (by decide) ?_
  refine lv_iload_n hx hb dX11_putFour_3 rfl (lv_at hl 0 rfl) ?_
  refine lv_if_lt (tgt := 46) hx hb dX11_putFour_4 (by decide) (fun h9 => absurd h9 (by decide)) (fun _ => ?_)
  refine lv_aload_n hx hb dX11_putFour_7 rfl (lv_at hl 1 rfl) ?_
  refine va_get (D := D) (ci := 11) (v := .int 14) (C := RX11) (T := TX11) (N := 12) hx hb hts iuX11_putFour_X11 hown hK hP 0 rfl rfl 1 (by decide) (hts (.fieldLink RX11 13 "StraitGame" "tapeBytes" "I") (List.mem_of_getElem? (i := 1) rfl)) (fun _ h9 => h9) rfl dX11_putFour_8 ?_
  refine lv_sipush (v := 1600) hx hb dX11_putFour_11 (by decide) ?_
  refine lv_icmp_ge (tgt := 46) hx hb dX11_putFour_14 (by decide) (fun h9 => absurd h9 (by decide)) (fun _ => ?_)
  refine lv_aload_n hx hb dX11_putFour_17 rfl (lv_at hl 1 rfl) ?_
  refine va_get (D := D) (ci := 11) (v := .ref h1) (C := RX11) (T := TX11) (N := 12) hx hb hts iuX11_putFour_X11 hown hK hP 0 rfl rfl 0 (by decide) (hts (.fieldLink RX11 9 "StraitGame" "tape" "[B") (List.mem_of_getElem? (i := 2) rfl)) (fun _ h9 => h9) rfl dX11_putFour_18 ?_
  refine lv_aload_n hx hb dX11_putFour_21 rfl (lv_at hl 1 rfl) ?_
  refine va_get (D := D) (ci := 11) (v := .int 14) (C := RX11) (T := TX11) (N := 12) hx hb hts iuX11_putFour_X11 hown hK hP 0 rfl rfl 1 (by decide) (hts (.fieldLink RX11 13 "StraitGame" "tapeBytes" "I") (List.mem_of_getElem? (i := 1) rfl)) (fun _ h9 => h9) rfl dX11_putFour_22 ?_
  refine lv_iload_n hx hb dX11_putFour_25 rfl (lv_at hl 2 rfl) ?_
  refine lv_iload_n hx hb dX11_putFour_26 rfl (lv_at hl 0 rfl) ?_
  obtain ⟨u_93, eu_93⟩ : ∃ y : Int32, (Int32.toUInt32 x0 >>> (Int32.toUInt32 8 &&& Int32.toUInt32 31)).toInt32 = y := ⟨_, rfl⟩
  refine lv_iushr (v := u_93) hx hb dX11_putFour_27 eu_93 ?_
  obtain ⟨u_94, eu_94⟩ : ∃ y : Int32, (Int32.toInt8 u_93).toInt32 = y := ⟨_, rfl⟩
  refine lv_i2b (v := u_94) hx hb dX11_putFour_28 eu_94 ?_
  refine va_bast hx hb hK hP hD hS 1 0 rfl rfl (z_in (by decide)) dX11_putFour_29 (fun H locs hP hD hS => ?_)
  have hP : va_P D vwCl [(h0, .inr (11, [.ref h1, .int 14, .ref r0, .ref r1, .ref r2, .ref r3, .ref r4, .ref r5, .ref r6, .ref r7, .ref r8, .ref r9])), (h1, .inl (k0, 1600, .inl (upd (upd (upd f0 12 (vp_nar .byte u_90)) 13 (vp_nar .byte u_92)) 14 (vp_nar .byte u_94))))] H := hP
  have hD : va_D A [(h0, .inr (11, [.ref h1, .int 14, .ref r0, .ref r1, .ref r2, .ref r3, .ref r4, .ref r5, .ref r6, .ref r7, .ref r8, .ref r9])), (h1, .inl (k0, 1600, .inl (upd (upd (upd f0 12 (vp_nar .byte u_90)) 13 (vp_nar .byte u_92)) 14 (vp_nar .byte u_94))))] := hD
  refine lv_aload_n hx hb dX11_putFour_30 rfl (lv_at hl 1 rfl) ?_
  refine lv_dup hx hb dX11_putFour_31 rfl ?_
  refine va_get (D := D) (ci := 11) (v := .int 14) (C := RX11) (T := TX11) (N := 12) hx hb hts iuX11_putFour_X11 hown hK hP 0 rfl rfl 1 (by decide) (hts (.fieldLink RX11 13 "StraitGame" "tapeBytes" "I") (List.mem_of_getElem? (i := 1) rfl)) (fun _ h9 => h9) rfl dX11_putFour_32 ?_
  refine lv_iconst (v := 1) hx hb dX11_putFour_35 (by decide) ?_
  refine lv_iadd hx hb dX11_putFour_36 ?_
  refine z_top (y := 15) (by decide) ?_
  refine va_put (D := D) (ci := 11) (v := .int 15) (ty := .int) (C := RX11) (T := TX11) (N := 12) hx hb hts iuX11_putFour_X11 tyX11 tyX11_ok nmX11 hown hK hP hD hS 0 rfl rfl 1 (by decide) (hts (.fieldLink RX11 13 "StraitGame" "tapeBytes" "I") (List.mem_of_getElem? (i := 1) rfl)) (fun _ h9 => h9) rfl (by decide +kernel) rfl rfl (Nat.le_of_ble_eq_true rfl) dX11_putFour_37 (fun H locs hP hD hS => ?_)
  have hP : va_P D vwCl [(h0, .inr (11, [.ref h1, .int 15, .ref r0, .ref r1, .ref r2, .ref r3, .ref r4, .ref r5, .ref r6, .ref r7, .ref r8, .ref r9])), (h1, .inl (k0, 1600, .inl (upd (upd (upd f0 12 (vp_nar .byte u_90)) 13 (vp_nar .byte u_92)) 14 (vp_nar .byte u_94))))] H := hP
  have hD : va_D A [(h0, .inr (11, [.ref h1, .int 15, .ref r0, .ref r1, .ref r2, .ref r3, .ref r4, .ref r5, .ref r6, .ref r7, .ref r8, .ref r9])), (h1, .inl (k0, 1600, .inl (upd (upd (upd f0 12 (vp_nar .byte u_90)) 13 (vp_nar .byte u_92)) 14 (vp_nar .byte u_94))))] := hD
  refine lv_iinc (v := 0) (lv' := [(2, .int 0), (0, .ref h0), (1, .int x0)]) hx hb dX11_putFour_40 hl (k := 0) rfl (by decide) (by decide) rfl (fun ls hl => ?_)
  refine lv_goto (tgt := 3) hx hb dX11_putFour_43 (by decide) ?_
  refine lv_iload_n hx hb dX11_putFour_3 rfl (lv_at hl 0 rfl) ?_
  refine lv_if_lt (tgt := 46) hx hb dX11_putFour_4 (by decide) (fun h9 => absurd h9 (by decide)) (fun _ => ?_)
  refine lv_aload_n hx hb dX11_putFour_7 rfl (lv_at hl 1 rfl) ?_
  refine va_get (D := D) (ci := 11) (v := .int 15) (C := RX11) (T := TX11) (N := 12) hx hb hts iuX11_putFour_X11 hown hK hP 0 rfl rfl 1 (by decide) (hts (.fieldLink RX11 13 "StraitGame" "tapeBytes" "I") (List.mem_of_getElem? (i := 1) rfl)) (fun _ h9 => h9) rfl dX11_putFour_8 ?_
  refine lv_sipush (v := 1600) hx hb dX11_putFour_11 (by decide) ?_
  refine lv_icmp_ge (tgt := 46) hx hb dX11_putFour_14 (by decide) (fun h9 => absurd h9 (by decide)) (fun _ => ?_)
  refine lv_aload_n hx hb dX11_putFour_17 rfl (lv_at hl 1 rfl) ?_
  refine va_get (D := D) (ci := 11) (v := .ref h1) (C := RX11) (T := TX11) (N := 12) hx hb hts iuX11_putFour_X11 hown hK hP 0 rfl rfl 0 (by decide) (hts (.fieldLink RX11 9 "StraitGame" "tape" "[B") (List.mem_of_getElem? (i := 2) rfl)) (fun _ h9 => h9) rfl dX11_putFour_18 ?_
  refine lv_aload_n hx hb dX11_putFour_21 rfl (lv_at hl 1 rfl) ?_
  refine va_get (D := D) (ci := 11) (v := .int 15) (C := RX11) (T := TX11) (N := 12) hx hb hts iuX11_putFour_X11 hown hK hP 0 rfl rfl 1 (by decide) (hts (.fieldLink RX11 13 "StraitGame" "tapeBytes" "I") (List.mem_of_getElem? (i := 1) rfl)) (fun _ h9 => h9) rfl dX11_putFour_22 ?_
  refine lv_iload_n hx hb dX11_putFour_25 rfl (lv_at hl 2 rfl) ?_
  refine lv_iload_n hx hb dX11_putFour_26 rfl (lv_at hl 0 rfl) ?_
  obtain ⟨u_95, eu_95⟩ : ∃ y : Int32, (Int32.toUInt32 x0 >>> (Int32.toUInt32 0 &&& Int32.toUInt32 31)).toInt32 = y := ⟨_, rfl⟩
  refine lv_iushr (v := u_95) hx hb dX11_putFour_27 eu_95 ?_
  obtain ⟨u_96, eu_96⟩ : ∃ y : Int32, (Int32.toInt8 u_95).toInt32 = y := ⟨_, rfl⟩
  refine lv_i2b (v := u_96) hx hb dX11_putFour_28 eu_96 ?_
  refine va_bast hx hb hK hP hD hS 1 0 rfl rfl (z_in (by decide)) dX11_putFour_29 (fun H locs hP hD hS => ?_)
  have hP : va_P D vwCl [(h0, .inr (11, [.ref h1, .int 15, .ref r0, .ref r1, .ref r2, .ref r3, .ref r4, .ref r5, .ref r6, .ref r7, .ref r8, .ref r9])), (h1, .inl (k0, 1600, .inl (upd (upd (upd (upd f0 12 (vp_nar .byte u_90)) 13 (vp_nar .byte u_92)) 14 (vp_nar .byte u_94)) 15 (vp_nar .byte u_96))))] H := hP
  have hD : va_D A [(h0, .inr (11, [.ref h1, .int 15, .ref r0, .ref r1, .ref r2, .ref r3, .ref r4, .ref r5, .ref r6, .ref r7, .ref r8, .ref r9])), (h1, .inl (k0, 1600, .inl (upd (upd (upd (upd f0 12 (vp_nar .byte u_90)) 13 (vp_nar .byte u_92)) 14 (vp_nar .byte u_94)) 15 (vp_nar .byte u_96))))] := hD
  refine lv_aload_n hx hb dX11_putFour_30 rfl (lv_at hl 1 rfl) ?_
  refine lv_dup hx hb dX11_putFour_31 rfl ?_
  refine va_get (D := D) (ci := 11) (v := .int 15) (C := RX11) (T := TX11) (N := 12) hx hb hts iuX11_putFour_X11 hown hK hP 0 rfl rfl 1 (by decide) (hts (.fieldLink RX11 13 "StraitGame" "tapeBytes" "I") (List.mem_of_getElem? (i := 1) rfl)) (fun _ h9 => h9) rfl dX11_putFour_32 ?_
  refine lv_iconst (v := 1) hx hb dX11_putFour_35 (by decide) ?_
  refine lv_iadd hx hb dX11_putFour_36 ?_
  refine z_top (y := 16) (by decide) ?_
  refine va_put (D := D) (ci := 11) (v := .int 16) (ty := .int) (C := RX11) (T := TX11) (N := 12) hx hb hts iuX11_putFour_X11 tyX11 tyX11_ok nmX11 hown hK hP hD hS 0 rfl rfl 1 (by decide) (hts (.fieldLink RX11 13 "StraitGame" "tapeBytes" "I") (List.mem_of_getElem? (i := 1) rfl)) (fun _ h9 => h9) rfl (by decide +kernel) rfl rfl (Nat.le_of_ble_eq_true rfl) dX11_putFour_37 (fun H locs hP hD hS => ?_)
  have hP : va_P D vwCl [(h0, .inr (11, [.ref h1, .int 16, .ref r0, .ref r1, .ref r2, .ref r3, .ref r4, .ref r5, .ref r6, .ref r7, .ref r8, .ref r9])), (h1, .inl (k0, 1600, .inl (upd (upd (upd (upd f0 12 (vp_nar .byte u_90)) 13 (vp_nar .byte u_92)) 14 (vp_nar .byte u_94)) 15 (vp_nar .byte u_96))))] H := hP
  have hD : va_D A [(h0, .inr (11, [.ref h1, .int 16, .ref r0, .ref r1, .ref r2, .ref r3, .ref r4, .ref r5, .ref r6, .ref r7, .ref r8, .ref r9])), (h1, .inl (k0, 1600, .inl (upd (upd (upd (upd f0 12 (vp_nar .byte u_90)) 13 (vp_nar .byte u_92)) 14 (vp_nar .byte u_94)) 15 (vp_nar .byte u_96))))] := hD
  refine lv_iinc (v := (-8)) (lv' := [(2, .int (-8)), (0, .ref h0), (1, .int x0)]) hx hb dX11_putFour_40 hl (k := 0) rfl (by decide) (by decide) rfl (fun ls hl => ?_)
  refine lv_goto (tgt := 3) hx hb dX11_putFour_43 (by decide) ?_
  refine lv_iload_n hx hb dX11_putFour_3 rfl (lv_at hl 0 rfl) ?_
  refine lv_if_lt (tgt := 46) hx hb dX11_putFour_4 (by decide) (fun _ => ?_) (fun h9 => absurd (by decide) h9)
  exact zret_v hx hb hr hlocks hP hD hK hS (upd (upd (upd (upd f0 12 (vp_nar .byte u_90)) 13 (vp_nar .byte u_92)) 14 (vp_nar .byte u_94)) 15 (vp_nar .byte u_96)) trivial [0, 1] [] (by decide) rfl rfl (Nat.le_of_ble_eq_true rfl) (Nat.le_of_ble_eq_true rfl) dX11_putFour_46
set_option maxHeartbeats 4000000 in
set_option maxRecDepth 100000 in
theorem zX11_putFour_5 (l : Launch) (D : va_G) (h0 h1 r0 r1 r2 r3 r4 r5 r6 r7 r8 r9 : Nat) (k0 : ClassId) (f0 : Nat → Int32) (x0 : Int32) (sz : Nat) (hx0 : -2147483648 ≤ x0.toInt ∧ x0.toInt ≤ 2147483647) : Met l yX11_putFour wsX11_putFour ({ frames := 0, cells := 0, slots := 0, locals := 0 }) (zPre D [.ref h0, .int x0] [(h0, .inr (11, [.ref h1, .int 16, .ref r0, .ref r1, .ref r2, .ref r3, .ref r4, .ref r5, .ref r6, .ref r7, .ref r8, .ref r9])), (h1, .inl (k0, 1600, .inl f0))] [(k0, .byte)] sz) ((fun A => va_Qv (fun (u : (Nat → Int32)) => match u with | ff_43 => True) (zB D A (fun (u : (Nat → Int32)) => match u with | ff_43 => [(h0, .inr (11, [.ref h1, .int 20, .ref r0, .ref r1, .ref r2, .ref r3, .ref r4, .ref r5, .ref r6, .ref r7, .ref r8, .ref r9])), (h1, .inl (k0, 1600, .inl ff_43))]) (fun (u : (Nat → Int32)) => match u with | ff_43 => [])) A) (va_A [(h0, .inr (11, [.ref h1, .int 16, .ref r0, .ref r1, .ref r2, .ref r3, .ref r4, .ref r5, .ref r6, .ref r7, .ref r8, .ref r9])), (h1, .inl (k0, 1600, .inl f0))] sz)) 0 0 (va_A [(h0, .inr (11, [.ref h1, .int 16, .ref r0, .ref r1, .ref r2, .ref r3, .ref r4, .ref r5, .ref r6, .ref r7, .ref r8, .ref r9])), (h1, .inl (k0, 1600, .inl f0))] sz) := by
  refine zOfW (QF := fun A => va_Qv (fun (u : (Nat → Int32)) => match u with | ff_43 => True) (zB D A (fun (u : (Nat → Int32)) => match u with | ff_43 => [(h0, .inr (11, [.ref h1, .int 20, .ref r0, .ref r1, .ref r2, .ref r3, .ref r4, .ref r5, .ref r6, .ref r7, .ref r8, .ref r9])), (h1, .inl (k0, 1600, .inl ff_43))]) (fun (u : (Nat → Int32)) => match u with | ff_43 => [])) A) (cc := cX11_putFour) (maxL := 3) (ret := none) (by decide) rfl (Nat.le_of_ble_eq_true rfl) ?_
  intro p e s m below meth c A ls hx hb hr hml hts hown hlocks hin hA hS hP hD hK hN hl
  have hl : lv_has ls 3 [(0, .ref h0), (1, .int x0)] := hl
  refine lv_bipush (v := 24) hx hb dX11_putFour_0 (by decide) ?_
  refine lv_istore_n (lv' := [(2, .int 24), (0, .ref h0), (1, .int x0)]) hx hb dX11_putFour_2 rfl hl (by decide) rfl (fun ls hl => ?_)
  refine lv_iload_n hx hb dX11_putFour_3 rfl (lv_at hl 0 rfl) ?_
  refine lv_if_lt (tgt := 46) hx hb dX11_putFour_4 (by decide) (fun h9 => absurd h9 (by decide)) (fun _ => ?_)
  refine lv_aload_n hx hb dX11_putFour_7 rfl (lv_at hl 1 rfl) ?_
  refine va_get (D := D) (ci := 11) (v := .int 16) (C := RX11) (T := TX11) (N := 12) hx hb hts iuX11_putFour_X11 hown hK hP 0 rfl rfl 1 (by decide) (hts (.fieldLink RX11 13 "StraitGame" "tapeBytes" "I") (List.mem_of_getElem? (i := 1) rfl)) (fun _ h9 => h9) rfl dX11_putFour_8 ?_
  refine lv_sipush (v := 1600) hx hb dX11_putFour_11 (by decide) ?_
  refine lv_icmp_ge (tgt := 46) hx hb dX11_putFour_14 (by decide) (fun h9 => absurd h9 (by decide)) (fun _ => ?_)
  refine lv_aload_n hx hb dX11_putFour_17 rfl (lv_at hl 1 rfl) ?_
  refine va_get (D := D) (ci := 11) (v := .ref h1) (C := RX11) (T := TX11) (N := 12) hx hb hts iuX11_putFour_X11 hown hK hP 0 rfl rfl 0 (by decide) (hts (.fieldLink RX11 9 "StraitGame" "tape" "[B") (List.mem_of_getElem? (i := 2) rfl)) (fun _ h9 => h9) rfl dX11_putFour_18 ?_
  refine lv_aload_n hx hb dX11_putFour_21 rfl (lv_at hl 1 rfl) ?_
  refine va_get (D := D) (ci := 11) (v := .int 16) (C := RX11) (T := TX11) (N := 12) hx hb hts iuX11_putFour_X11 hown hK hP 0 rfl rfl 1 (by decide) (hts (.fieldLink RX11 13 "StraitGame" "tapeBytes" "I") (List.mem_of_getElem? (i := 1) rfl)) (fun _ h9 => h9) rfl dX11_putFour_22 ?_
  refine lv_iload_n hx hb dX11_putFour_25 rfl (lv_at hl 2 rfl) ?_
  refine lv_iload_n hx hb dX11_putFour_26 rfl (lv_at hl 0 rfl) ?_
  obtain ⟨u_113, eu_113⟩ : ∃ y : Int32, (Int32.toUInt32 x0 >>> (Int32.toUInt32 24 &&& Int32.toUInt32 31)).toInt32 = y := ⟨_, rfl⟩
  refine lv_iushr (v := u_113) hx hb dX11_putFour_27 eu_113 ?_
  obtain ⟨u_114, eu_114⟩ : ∃ y : Int32, (Int32.toInt8 u_113).toInt32 = y := ⟨_, rfl⟩
  refine lv_i2b (v := u_114) hx hb dX11_putFour_28 eu_114 ?_
  refine va_bast hx hb hK hP hD hS 1 0 rfl rfl (z_in (by decide)) dX11_putFour_29 (fun H locs hP hD hS => ?_)
  have hP : va_P D vwCl [(h0, .inr (11, [.ref h1, .int 16, .ref r0, .ref r1, .ref r2, .ref r3, .ref r4, .ref r5, .ref r6, .ref r7, .ref r8, .ref r9])), (h1, .inl (k0, 1600, .inl (upd f0 16 (vp_nar .byte u_114))))] H := hP
  have hD : va_D A [(h0, .inr (11, [.ref h1, .int 16, .ref r0, .ref r1, .ref r2, .ref r3, .ref r4, .ref r5, .ref r6, .ref r7, .ref r8, .ref r9])), (h1, .inl (k0, 1600, .inl (upd f0 16 (vp_nar .byte u_114))))] := hD
  refine lv_aload_n hx hb dX11_putFour_30 rfl (lv_at hl 1 rfl) ?_
  refine lv_dup hx hb dX11_putFour_31 rfl ?_
  refine va_get (D := D) (ci := 11) (v := .int 16) (C := RX11) (T := TX11) (N := 12) hx hb hts iuX11_putFour_X11 hown hK hP 0 rfl rfl 1 (by decide) (hts (.fieldLink RX11 13 "StraitGame" "tapeBytes" "I") (List.mem_of_getElem? (i := 1) rfl)) (fun _ h9 => h9) rfl dX11_putFour_32 ?_
  refine lv_iconst (v := 1) hx hb dX11_putFour_35 (by decide) ?_
  refine lv_iadd hx hb dX11_putFour_36 ?_
  refine z_top (y := 17) (by decide) ?_
  refine va_put (D := D) (ci := 11) (v := .int 17) (ty := .int) (C := RX11) (T := TX11) (N := 12) hx hb hts iuX11_putFour_X11 tyX11 tyX11_ok nmX11 hown hK hP hD hS 0 rfl rfl 1 (by decide) (hts (.fieldLink RX11 13 "StraitGame" "tapeBytes" "I") (List.mem_of_getElem? (i := 1) rfl)) (fun _ h9 => h9) rfl (by decide +kernel) rfl rfl (Nat.le_of_ble_eq_true rfl) dX11_putFour_37 (fun H locs hP hD hS => ?_)
  have hP : va_P D vwCl [(h0, .inr (11, [.ref h1, .int 17, .ref r0, .ref r1, .ref r2, .ref r3, .ref r4, .ref r5, .ref r6, .ref r7, .ref r8, .ref r9])), (h1, .inl (k0, 1600, .inl (upd f0 16 (vp_nar .byte u_114))))] H := hP
  have hD : va_D A [(h0, .inr (11, [.ref h1, .int 17, .ref r0, .ref r1, .ref r2, .ref r3, .ref r4, .ref r5, .ref r6, .ref r7, .ref r8, .ref r9])), (h1, .inl (k0, 1600, .inl (upd f0 16 (vp_nar .byte u_114))))] := hD
  refine lv_iinc (v := 16) (lv' := [(2, .int 16), (0, .ref h0), (1, .int x0)]) hx hb dX11_putFour_40 hl (k := 0) rfl (by decide) (by decide) rfl (fun ls hl => ?_)
  refine lv_goto (tgt := 3) hx hb dX11_putFour_43 (by decide) ?_
  refine lv_iload_n hx hb dX11_putFour_3 rfl (lv_at hl 0 rfl) ?_
  refine lv_if_lt (tgt := 46) hx hb dX11_putFour_4 (by decide) (fun h9 => absurd h9 (by decide)) (fun _ => ?_)
  refine lv_aload_n hx hb dX11_putFour_7 rfl (lv_at hl 1 rfl) ?_
  refine va_get (D := D) (ci := 11) (v := .int 17) (C := RX11) (T := TX11) (N := 12) hx hb hts iuX11_putFour_X11 hown hK hP 0 rfl rfl 1 (by decide) (hts (.fieldLink RX11 13 "StraitGame" "tapeBytes" "I") (List.mem_of_getElem? (i := 1) rfl)) (fun _ h9 => h9) rfl dX11_putFour_8 ?_
  refine lv_sipush (v := 1600) hx hb dX11_putFour_11 (by decide) ?_
  refine lv_icmp_ge (tgt := 46) hx hb dX11_putFour_14 (by decide) (fun h9 => absurd h9 (by decide)) (fun _ => ?_)
  refine lv_aload_n hx hb dX11_putFour_17 rfl (lv_at hl 1 rfl) ?_
  refine va_get (D := D) (ci := 11) (v := .ref h1) (C := RX11) (T := TX11) (N := 12) hx hb hts iuX11_putFour_X11 hown hK hP 0 rfl rfl 0 (by decide) (hts (.fieldLink RX11 9 "StraitGame" "tape" "[B") (List.mem_of_getElem? (i := 2) rfl)) (fun _ h9 => h9) rfl dX11_putFour_18 ?_
  refine lv_aload_n hx hb dX11_putFour_21 rfl (lv_at hl 1 rfl) ?_
  refine va_get (D := D) (ci := 11) (v := .int 17) (C := RX11) (T := TX11) (N := 12) hx hb hts iuX11_putFour_X11 hown hK hP 0 rfl rfl 1 (by decide) (hts (.fieldLink RX11 13 "StraitGame" "tapeBytes" "I") (List.mem_of_getElem? (i := 1) rfl)) (fun _ h9 => h9) rfl dX11_putFour_22 ?_
  refine lv_iload_n hx hb dX11_putFour_25 rfl (lv_at hl 2 rfl) ?_
  refine lv_iload_n hx hb dX11_putFour_26 rfl (lv_at hl 0 rfl) ?_
  obtain ⟨u_115, eu_115⟩ : ∃ y : Int32, (Int32.toUInt32 x0 >>> (Int32.toUInt32 16 &&& Int32.toUInt32 31)).toInt32 = y := ⟨_, rfl⟩
  refine lv_iushr (v := u_115) hx hb dX11_putFour_27 eu_115 ?_
  obtain ⟨u_116, eu_116⟩ : ∃ y : Int32, (Int32.toInt8 u_115).toInt32 = y := ⟨_, rfl⟩
  refine lv_i2b (v := u_116) hx hb dX11_putFour_28 eu_116 ?_
  refine va_bast hx hb hK hP hD hS 1 0 rfl rfl (z_in (by decide)) dX11_putFour_29 (fun H locs hP hD hS => ?_)
  have hP : va_P D vwCl [(h0, .inr (11, [.ref h1, .int 17, .ref r0, .ref r1, .ref r2, .ref r3, .ref r4, .ref r5, .ref r6, .ref r7, .ref r8, .ref r9])), (h1, .inl (k0, 1600, .inl (upd (upd f0 16 (vp_nar .byte u_114)) 17 (vp_nar .byte u_116))))] H := hP
  have hD : va_D A [(h0, .inr (11, [.ref h1, .int 17, .ref r0, .ref r1, .ref r2, .ref r3, .ref r4, .ref r5, .ref r6, .ref r7, .ref r8, .ref r9])), (h1, .inl (k0, 1600, .inl (upd (upd f0 16 (vp_nar .byte u_114)) 17 (vp_nar .byte u_116))))] := hD
  refine lv_aload_n hx hb dX11_putFour_30 rfl (lv_at hl 1 rfl) ?_
  refine lv_dup hx hb dX11_putFour_31 rfl ?_
  refine va_get (D := D) (ci := 11) (v := .int 17) (C := RX11) (T := TX11) (N := 12) hx hb hts iuX11_putFour_X11 hown hK hP 0 rfl rfl 1 (by decide) (hts (.fieldLink RX11 13 "StraitGame" "tapeBytes" "I") (List.mem_of_getElem? (i := 1) rfl)) (fun _ h9 => h9) rfl dX11_putFour_32 ?_
  refine lv_iconst (v := 1) hx hb dX11_putFour_35 (by decide) ?_
  refine lv_iadd hx hb dX11_putFour_36 ?_
  refine z_top (y := 18) (by decide) ?_
  refine va_put (D := D) (ci := 11) (v := .int 18) (ty := .int) (C := RX11) (T := TX11) (N := 12) hx hb hts iuX11_putFour_X11 tyX11 tyX11_ok nmX11 hown hK hP hD hS 0 rfl rfl 1 (by decide) (hts (.fieldLink RX11 13 "StraitGame" "tapeBytes" "I") (List.mem_of_getElem? (i := 1) rfl)) (fun _ h9 => h9) rfl (by decide +kernel) rfl rfl (Nat.le_of_ble_eq_true rfl) dX11_putFour_37 (fun H locs hP hD hS => ?_)
  have hP : va_P D vwCl [(h0, .inr (11, [.ref h1, .int 18, .ref r0, .ref r1, .ref r2, .ref r3, .ref r4, .ref r5, .ref r6, .ref r7, .ref r8, .ref r9])), (h1, .inl (k0, 1600, .inl (upd (upd f0 16 (vp_nar .byte u_114)) 17 (vp_nar .byte u_116))))] H := hP
  have hD : va_D A [(h0, .inr (11, [.ref h1, .int 18, .ref r0, .ref r1, .ref r2, .ref r3, .ref r4, .ref r5, .ref r6, .ref r7, .ref r8, .ref r9])), (h1, .inl (k0, 1600, .inl (upd (upd f0 16 (vp_nar .byte u_114)) 17 (vp_nar .byte u_116))))] := hD
  refine lv_iinc (v := 8) (lv' := [(2, .int 8), (0, .ref h0), (1, .int x0)]) hx hb dX11_putFour_40 hl (k := 0) rfl (by decide) (by decide) rfl (fun ls hl => ?_)
  refine lv_goto (tgt := 3) hx hb dX11_putFour_43 (by decide) ?_
  refine lv_iload_n hx hb dX11_putFour_3 rfl (lv_at hl 0 rfl) ?_
  refine lv_if_lt (tgt := 46) hx hb dX11_putFour_4 (by decide) (fun h9 => absurd h9 (by decide)) (fun _ => ?_)
  refine lv_aload_n hx hb dX11_putFour_7 rfl (lv_at hl 1 rfl) ?_
  refine va_get (D := D) (ci := 11) (v := .int 18) (C := RX11) (T := TX11) (N := 12) hx hb hts iuX11_putFour_X11 hown hK hP 0 rfl rfl 1 (by decide) (hts (.fieldLink RX11 13 "StraitGame" "tapeBytes" "I") (List.mem_of_getElem? (i := 1) rfl)) (fun _ h9 => h9) rfl dX11_putFour_8 ?_
  refine lv_sipush (v := 1600) hx hb dX11_putFour_11 (by decide) ?_
  refine lv_icmp_ge (tgt := 46) hx hb dX11_putFour_14 (by decide) (fun h9 => absurd h9 (by decide)) (fun _ => ?_)
  refine lv_aload_n hx hb dX11_putFour_17 rfl (lv_at hl 1 rfl) ?_
  refine va_get (D := D) (ci := 11) (v := .ref h1) (C := RX11) (T := TX11) (N := 12) hx hb hts iuX11_putFour_X11 hown hK hP 0 rfl rfl 0 (by decide) (hts (.fieldLink RX11 9 "StraitGame" "tape" "[B") (List.mem_of_getElem? (i := 2) rfl)) (fun _ h9 => h9) rfl dX11_putFour_18 ?_
  refine lv_aload_n hx hb dX11_putFour_21 rfl (lv_at hl 1 rfl) ?_
  refine va_get (D := D) (ci := 11) (v := .int 18) (C := RX11) (T := TX11) (N := 12) hx hb hts iuX11_putFour_X11 hown hK hP 0 rfl rfl 1 (by decide) (hts (.fieldLink RX11 13 "StraitGame" "tapeBytes" "I") (List.mem_of_getElem? (i := 1) rfl)) (fun _ h9 => h9) rfl dX11_putFour_22 ?_
  refine lv_iload_n hx hb dX11_putFour_25 rfl (lv_at hl 2 rfl) ?_
  refine lv_iload_n hx hb dX11_putFour_26 rfl (lv_at hl 0 rfl) ?_
  obtain ⟨u_117, eu_117⟩ : ∃ y : Int32, (Int32.toUInt32 x0 >>> (Int32.toUInt32 8 &&& Int32.toUInt32 31)).toInt32 = y := ⟨_, rfl⟩
  refine lv_iushr (v := u_117) hx hb dX11_putFour_27 eu_117 ?_
  obtain ⟨u_118, eu_118⟩ : ∃ y : Int32, (Int32.toInt8 u_117).toInt32 = y := ⟨_, rfl⟩
  refine lv_i2b (v := u_118) hx hb dX11_putFour_28 eu_118 ?_
  refine va_bast hx hb hK hP hD hS 1 0 rfl rfl (z_in (by decide)) dX11_putFour_29 (fun H locs hP hD hS => ?_)
  have hP : va_P D vwCl [(h0, .inr (11, [.ref h1, .int 18, .ref r0, .ref r1, .ref r2, .ref r3, .ref r4, .ref r5, .ref r6, .ref r7, .ref r8, .ref r9])), (h1, .inl (k0, 1600, .inl (upd (upd (upd f0 16 (vp_nar .byte u_114)) 17 (vp_nar .byte u_116)) 18 (vp_nar .byte u_118))))] H := hP
  have hD : va_D A [(h0, .inr (11, [.ref h1, .int 18, .ref r0, .ref r1, .ref r2, .ref r3, .ref r4, .ref r5, .ref r6, .ref r7, .ref r8, .ref r9])), (h1, .inl (k0, 1600, .inl (upd (upd (upd f0 16 (vp_nar .byte u_114)) 17 (vp_nar .byte u_116)) 18 (vp_nar .byte u_118))))] := hD
  refine lv_aload_n hx hb dX11_putFour_30 rfl (lv_at hl 1 rfl) ?_
  refine lv_dup hx hb dX11_putFour_31 rfl ?_
  refine va_get (D := D) (ci := 11) (v := .int 18) (C := RX11) (T := TX11) (N := 12) hx hb hts iuX11_putFour_X11 hown hK hP 0 rfl rfl 1 (by decide) (hts (.fieldLink RX11 13 "StraitGame" "tapeBytes" "I") (List.mem_of_getElem? (i := 1) rfl)) (fun _ h9 => h9) rfl dX11_putFour_32 ?_
  refine lv_iconst (v := 1) hx hb dX11_putFour_35 (by decide) ?_
  refine lv_iadd hx hb dX11_putFour_36 ?_
  refine z_top (y := 19) (by decide) ?_
  refine va_put (D := D) (ci := 11) (v := .int 19) (ty := .int) (C := RX11) (T := TX11) (N := 12) hx hb hts iuX11_putFour_X11 tyX11 tyX11_ok nmX11 hown hK hP hD hS 0 rfl rfl 1 (by decide) (hts (.fieldLink RX11 13 "StraitGame" "tapeBytes" "I") (List.mem_of_getElem? (i := 1) rfl)) (fun _ h9 => h9) rfl (by decide +kernel) rfl rfl (Nat.le_of_ble_eq_true rfl) dX11_putFour_37 (fun H locs hP hD hS => ?_)
  have hP : va_P D vwCl [(h0, .inr (11, [.ref h1, .int 19, .ref r0, .ref r1, .ref r2, .ref r3, .ref r4, .ref r5, .ref r6, .ref r7, .ref r8, .ref r9])), (h1, .inl (k0, 1600, .inl (upd (upd (upd f0 16 (vp_nar .byte u_114)) 17 (vp_nar .byte u_116)) 18 (vp_nar .byte u_118))))] H := hP
  have hD : va_D A [(h0, .inr (11, [.ref h1, .int 19, .ref r0, .ref r1, .ref r2, .ref r3, .ref r4, .ref r5, .ref r6, .ref r7, .ref r8, .ref r9])), (h1, .inl (k0, 1600, .inl (upd (upd (upd f0 16 (vp_nar .byte u_114)) 17 (vp_nar .byte u_116)) 18 (vp_nar .byte u_118))))] := hD
  refine lv_iinc (v := 0) (lv' := [(2, .int 0), (0, .ref h0), (1, .int x0)]) hx hb dX11_putFour_40 hl (k := 0) rfl (by decide) (by decide) rfl (fun ls hl => ?_)
  refine lv_goto (tgt := 3) hx hb dX11_putFour_43 (by decide) ?_
  refine lv_iload_n hx hb dX11_putFour_3 rfl (lv_at hl 0 rfl) ?_
  refine lv_if_lt (tgt := 46) hx hb dX11_putFour_4 (by decide) (fun h9 => absurd h9 (by decide)) (fun _ => ?_)
  refine lv_aload_n hx hb dX11_putFour_7 rfl (lv_at hl 1 rfl) ?_
  refine va_get (D := D) (ci := 11) (v := .int 19) (C := RX11) (T := TX11) (N := 12) hx hb hts iuX11_putFour_X11 hown hK hP 0 rfl rfl 1 (by decide) (hts (.fieldLink RX11 13 "StraitGame" "tapeBytes" "I") (List.mem_of_getElem? (i := 1) rfl)) (fun _ h9 => h9) rfl dX11_putFour_8 ?_
  refine lv_sipush (v := 1600) hx hb dX11_putFour_11 (by decide) ?_
  refine lv_icmp_ge (tgt := 46) hx hb dX11_putFour_14 (by decide) (fun h9 => absurd h9 (by decide)) (fun _ => ?_)
  refine lv_aload_n hx hb dX11_putFour_17 rfl (lv_at hl 1 rfl) ?_
  refine va_get (D := D) (ci := 11) (v := .ref h1) (C := RX11) (T := TX11) (N := 12) hx hb hts iuX11_putFour_X11 hown hK hP 0 rfl rfl 0 (by decide) (hts (.fieldLink RX11 9 "StraitGame" "tape" "[B") (List.mem_of_getElem? (i := 2) rfl)) (fun _ h9 => h9) rfl dX11_putFour_18 ?_
  refine lv_aload_n hx hb dX11_putFour_21 rfl (lv_at hl 1 rfl) ?_
  refine va_get (D := D) (ci := 11) (v := .int 19) (C := RX11) (T := TX11) (N := 12) hx hb hts iuX11_putFour_X11 hown hK hP 0 rfl rfl 1 (by decide) (hts (.fieldLink RX11 13 "StraitGame" "tapeBytes" "I") (List.mem_of_getElem? (i := 1) rfl)) (fun _ h9 => h9) rfl dX11_putFour_22 ?_
  refine lv_iload_n hx hb dX11_putFour_25 rfl (lv_at hl 2 rfl) ?_
  refine lv_iload_n hx hb dX11_putFour_26 rfl (lv_at hl 0 rfl) ?_
  obtain ⟨u_119, eu_119⟩ : ∃ y : Int32, (Int32.toUInt32 x0 >>> (Int32.toUInt32 0 &&& Int32.toUInt32 31)).toInt32 = y := ⟨_, rfl⟩
  refine lv_iushr (v := u_119) hx hb dX11_putFour_27 eu_119 ?_
  obtain ⟨u_120, eu_120⟩ : ∃ y : Int32, (Int32.toInt8 u_119).toInt32 = y := ⟨_, rfl⟩
  refine lv_i2b (v := u_120) hx hb dX11_putFour_28 eu_120 ?_
  refine va_bast hx hb hK hP hD hS 1 0 rfl rfl (z_in (by decide)) dX11_putFour_29 (fun H locs hP hD hS => ?_)
  have hP : va_P D vwCl [(h0, .inr (11, [.ref h1, .int 19, .ref r0, .ref r1, .ref r2, .ref r3, .ref r4, .ref r5, .ref r6, .ref r7, .ref r8, .ref r9])), (h1, .inl (k0, 1600, .inl (upd (upd (upd (upd f0 16 (vp_nar .byte u_114)) 17 (vp_nar .byte u_116)) 18 (vp_nar .byte u_118)) 19 (vp_nar .byte u_120))))] H := hP
  have hD : va_D A [(h0, .inr (11, [.ref h1, .int 19, .ref r0, .ref r1, .ref r2, .ref r3, .ref r4, .ref r5, .ref r6, .ref r7, .ref r8, .ref r9])), (h1, .inl (k0, 1600, .inl (upd (upd (upd (upd f0 16 (vp_nar .byte u_114)) 17 (vp_nar .byte u_116)) 18 (vp_nar .byte u_118)) 19 (vp_nar .byte u_120))))] := hD
  refine lv_aload_n hx hb dX11_putFour_30 rfl (lv_at hl 1 rfl) ?_
  refine lv_dup hx hb dX11_putFour_31 rfl ?_
  refine va_get (D := D) (ci := 11) (v := .int 19) (C := RX11) (T := TX11) (N := 12) hx hb hts iuX11_putFour_X11 hown hK hP 0 rfl rfl 1 (by decide) (hts (.fieldLink RX11 13 "StraitGame" "tapeBytes" "I") (List.mem_of_getElem? (i := 1) rfl)) (fun _ h9 => h9) rfl dX11_putFour_32 ?_
  refine lv_iconst (v := 1) hx hb dX11_putFour_35 (by decide) ?_
  refine lv_iadd hx hb dX11_putFour_36 ?_
  refine z_top (y := 20) (by decide) ?_
  refine va_put (D := D) (ci := 11) (v := .int 20) (ty := .int) (C := RX11) (T := TX11) (N := 12) hx hb hts iuX11_putFour_X11 tyX11 tyX11_ok nmX11 hown hK hP hD hS 0 rfl rfl 1 (by decide) (hts (.fieldLink RX11 13 "StraitGame" "tapeBytes" "I") (List.mem_of_getElem? (i := 1) rfl)) (fun _ h9 => h9) rfl (by decide +kernel) rfl rfl (Nat.le_of_ble_eq_true rfl) dX11_putFour_37 (fun H locs hP hD hS => ?_)
  have hP : va_P D vwCl [(h0, .inr (11, [.ref h1, .int 20, .ref r0, .ref r1, .ref r2, .ref r3, .ref r4, .ref r5, .ref r6, .ref r7, .ref r8, .ref r9])), (h1, .inl (k0, 1600, .inl (upd (upd (upd (upd f0 16 (vp_nar .byte u_114)) 17 (vp_nar .byte u_116)) 18 (vp_nar .byte u_118)) 19 (vp_nar .byte u_120))))] H := hP
  have hD : va_D A [(h0, .inr (11, [.ref h1, .int 20, .ref r0, .ref r1, .ref r2, .ref r3, .ref r4, .ref r5, .ref r6, .ref r7, .ref r8, .ref r9])), (h1, .inl (k0, 1600, .inl (upd (upd (upd (upd f0 16 (vp_nar .byte u_114)) 17 (vp_nar .byte u_116)) 18 (vp_nar .byte u_118)) 19 (vp_nar .byte u_120))))] := hD
  refine lv_iinc (v := (-8)) (lv' := [(2, .int (-8)), (0, .ref h0), (1, .int x0)]) hx hb dX11_putFour_40 hl (k := 0) rfl (by decide) (by decide) rfl (fun ls hl => ?_)
  refine lv_goto (tgt := 3) hx hb dX11_putFour_43 (by decide) ?_
  refine lv_iload_n hx hb dX11_putFour_3 rfl (lv_at hl 0 rfl) ?_
  refine lv_if_lt (tgt := 46) hx hb dX11_putFour_4 (by decide) (fun _ => ?_) (fun h9 => absurd (by decide) h9)
  exact zret_v hx hb hr hlocks hP hD hK hS (upd (upd (upd (upd f0 16 (vp_nar .byte u_114)) 17 (vp_nar .byte u_116)) 18 (vp_nar .byte u_118)) 19 (vp_nar .byte u_120)) trivial [0, 1] [] (by decide) rfl rfl (Nat.le_of_ble_eq_true rfl) (Nat.le_of_ble_eq_true rfl) dX11_putFour_46
set_option maxHeartbeats 4000000 in
set_option maxRecDepth 100000 in
theorem aX11_feed_c1 (l : Launch) (D : va_G) (h0 h1 r0 r1 r2 r3 r4 r5 r6 r7 r8 r9 : Nat) (k0 : ClassId) (x0 : Int32) (x1 : Int32) (x2 : Int32) (x3 : Int32) (x4 : Int32) (sz : Nat) (hx0 : -2147483648 ≤ x0.toInt ∧ x0.toInt ≤ 2147483647) (hx1 : -2147483648 ≤ x1.toInt ∧ x1.toInt ≤ 2147483647) (hx2 : -2147483648 ≤ x2.toInt ∧ x2.toInt ≤ 2147483647) (hx3 : -2147483648 ≤ x3.toInt ∧ x3.toInt ≤ 2147483647) (hx4 : -2147483648 ≤ x4.toInt ∧ x4.toInt ≤ 2147483647) : Met l yX11_feed wsX11_feed ({ frames := 1, cells := 0, slots := 0, locals := 22 }) (zPre D [.ref h0, .int x0, .int x1, .int x2, .int x3, .int x4] [(h0, .inr (11, [.ref h1, .int 0, .ref r0, .ref r1, .ref r2, .ref r3, .ref r4, .ref r5, .ref r6, .ref r7, .ref r8, .ref r9])), (h1, .inl (k0, 1600, .inl (fun _ => 0)))] [(k0, .byte)] sz) ((fun A => va_Qi (fun (r : Int32) (u : Unit) => r = 20) (zB D A (fun (u : Unit) => match u with | _ => []) (fun (u : Unit) => match u with | _ => [])) A) (va_A [(h0, .inr (11, [.ref h1, .int 0, .ref r0, .ref r1, .ref r2, .ref r3, .ref r4, .ref r5, .ref r6, .ref r7, .ref r8, .ref r9])), (h1, .inl (k0, 1600, .inl (fun _ => 0)))] sz)) 0 0 (va_A [(h0, .inr (11, [.ref h1, .int 0, .ref r0, .ref r1, .ref r2, .ref r3, .ref r4, .ref r5, .ref r6, .ref r7, .ref r8, .ref r9])), (h1, .inl (k0, 1600, .inl (fun _ => 0)))] sz) := by
  refine zOfW (QF := fun A => va_Qi (fun (r : Int32) (u : Unit) => r = 20) (zB D A (fun (u : Unit) => match u with | _ => []) (fun (u : Unit) => match u with | _ => [])) A) (cc := cX11_feed) (maxL := 6) (ret := (some .int)) (by decide) rfl (Nat.le_of_ble_eq_true rfl) ?_
  intro p e s m below meth c A ls hx hb hr hml hts hown hlocks hin hA hS hP hD hK hN hl
  have hl : lv_has ls 6 [(0, .ref h0), (1, .int x0), (2, .int x1), (3, .int x2), (4, .int x3), (5, .int x4)] := hl
  refine lv_aload_n hx hb dX11_feed_0 rfl (lv_at hl 0 rfl) ?_
  refine va_get (D := D) (ci := 11) (v := .int 0) (C := RX11) (T := TX11) (N := 12) hx hb hts iuX11_feed_X11 hown hK hP 0 rfl rfl 1 (by decide) (hts (.fieldLink RX11 13 "StraitGame" "tapeBytes" "I") (List.mem_of_getElem? (i := 1) rfl)) (fun _ h9 => h9) rfl dX11_feed_1 ?_
  refine lv_bipush (v := 20) hx hb dX11_feed_4 (by decide) ?_
  refine lv_iadd hx hb dX11_feed_6 ?_
  refine z_top (y := 20) (by decide) ?_
  refine lv_sipush (v := 1600) hx hb dX11_feed_7 (by decide) ?_
  refine lv_icmp_le (tgt := 15) hx hb dX11_feed_10 (by decide) (fun _ => ?_) (fun h9 => absurd (by decide) h9)
  refine lv_aload_n hx hb dX11_feed_15 rfl (lv_at hl 0 rfl) ?_
  refine lv_iload_n hx hb dX11_feed_16 rfl (lv_at hl 1 rfl) ?_
  refine zA_v (zR_V (As := [.int x0]) (rest := []) ⟨hx, hb, hml, hown, hts⟩ (zX11_putFour_1 l D h0 h1 r0 r1 r2 r3 r4 r5 r6 r7 r8 r9 k0 x0 _ hx0) (cwV 1 hts gX11_feed_X11_putFour rfl rfl rfl (by decide +kernel) ⟨(Nat.le_of_ble_eq_true rfl), (Nat.le_of_ble_eq_true rfl)⟩) hP hD hK hN [0, 1] [0] rfl (by decide) rfl 0 11 rfl rfl rfl hl.1 rfl (Nat.le_of_ble_eq_true rfl) dX11_feed_17 ⟨(Nat.le_of_ble_eq_true rfl), (Nat.le_of_ble_eq_true rfl)⟩) hP hD hK hS hA [0, 1] [] rfl rfl (by decide) (by decide) (fun u H locs hw hP hD hK hS => ?_)
  obtain ⟨ff_55, rfl⟩ : ∃ z, z = u := ⟨_, rfl⟩
  have hK : va_K D vwCl [(k0, .byte)] s := hK
  have hP : va_P D vwCl [(h0, .inr (11, [.ref h1, .int 4, .ref r0, .ref r1, .ref r2, .ref r3, .ref r4, .ref r5, .ref r6, .ref r7, .ref r8, .ref r9])), (h1, .inl (k0, 1600, .inl ff_55))] H := hP
  have hD : va_D A [(h0, .inr (11, [.ref h1, .int 4, .ref r0, .ref r1, .ref r2, .ref r3, .ref r4, .ref r5, .ref r6, .ref r7, .ref r8, .ref r9])), (h1, .inl (k0, 1600, .inl ff_55))] := hD
  refine W.widen (k := 0) (n := 0) (Nat.le_of_ble_eq_true rfl) (Nat.le_of_ble_eq_true rfl) ?_
  refine lv_aload_n hx hb dX11_feed_20 rfl (lv_at hl 0 rfl) ?_
  refine lv_iload_n hx hb dX11_feed_21 rfl (lv_at hl 2 rfl) ?_
  refine zA_v (zR_V (As := [.int x1]) (rest := []) ⟨hx, hb, hml, hown, hts⟩ (zX11_putFour_2 l D h0 h1 r0 r1 r2 r3 r4 r5 r6 r7 r8 r9 k0 ff_55 x1 _ hx1) (cwV 1 hts gX11_feed_X11_putFour rfl rfl rfl (by decide +kernel) ⟨(Nat.le_of_ble_eq_true rfl), (Nat.le_of_ble_eq_true rfl)⟩) hP hD hK hN [0, 1] [0] rfl (by decide) rfl 0 11 rfl rfl rfl hl.1 rfl (Nat.le_of_ble_eq_true rfl) dX11_feed_22 ⟨(Nat.le_of_ble_eq_true rfl), (Nat.le_of_ble_eq_true rfl)⟩) hP hD hK hS hA [0, 1] [] rfl rfl (by decide) (by decide) (fun u H locs hw hP hD hK hS => ?_)
  obtain ⟨ff_56, rfl⟩ : ∃ z, z = u := ⟨_, rfl⟩
  have hK : va_K D vwCl [(k0, .byte)] s := hK
  have hP : va_P D vwCl [(h0, .inr (11, [.ref h1, .int 8, .ref r0, .ref r1, .ref r2, .ref r3, .ref r4, .ref r5, .ref r6, .ref r7, .ref r8, .ref r9])), (h1, .inl (k0, 1600, .inl ff_56))] H := hP
  have hD : va_D A [(h0, .inr (11, [.ref h1, .int 8, .ref r0, .ref r1, .ref r2, .ref r3, .ref r4, .ref r5, .ref r6, .ref r7, .ref r8, .ref r9])), (h1, .inl (k0, 1600, .inl ff_56))] := hD
  refine W.widen (k := 0) (n := 0) (Nat.le_of_ble_eq_true rfl) (Nat.le_of_ble_eq_true rfl) ?_
  refine lv_aload_n hx hb dX11_feed_25 rfl (lv_at hl 0 rfl) ?_
  refine lv_iload_n hx hb dX11_feed_26 rfl (lv_at hl 3 rfl) ?_
  refine zA_v (zR_V (As := [.int x2]) (rest := []) ⟨hx, hb, hml, hown, hts⟩ (zX11_putFour_3 l D h0 h1 r0 r1 r2 r3 r4 r5 r6 r7 r8 r9 k0 ff_56 x2 _ hx2) (cwV 1 hts gX11_feed_X11_putFour rfl rfl rfl (by decide +kernel) ⟨(Nat.le_of_ble_eq_true rfl), (Nat.le_of_ble_eq_true rfl)⟩) hP hD hK hN [0, 1] [0] rfl (by decide) rfl 0 11 rfl rfl rfl hl.1 rfl (Nat.le_of_ble_eq_true rfl) dX11_feed_27 ⟨(Nat.le_of_ble_eq_true rfl), (Nat.le_of_ble_eq_true rfl)⟩) hP hD hK hS hA [0, 1] [] rfl rfl (by decide) (by decide) (fun u H locs hw hP hD hK hS => ?_)
  obtain ⟨ff_57, rfl⟩ : ∃ z, z = u := ⟨_, rfl⟩
  have hK : va_K D vwCl [(k0, .byte)] s := hK
  have hP : va_P D vwCl [(h0, .inr (11, [.ref h1, .int 12, .ref r0, .ref r1, .ref r2, .ref r3, .ref r4, .ref r5, .ref r6, .ref r7, .ref r8, .ref r9])), (h1, .inl (k0, 1600, .inl ff_57))] H := hP
  have hD : va_D A [(h0, .inr (11, [.ref h1, .int 12, .ref r0, .ref r1, .ref r2, .ref r3, .ref r4, .ref r5, .ref r6, .ref r7, .ref r8, .ref r9])), (h1, .inl (k0, 1600, .inl ff_57))] := hD
  refine W.widen (k := 0) (n := 0) (Nat.le_of_ble_eq_true rfl) (Nat.le_of_ble_eq_true rfl) ?_
  refine lv_aload_n hx hb dX11_feed_30 rfl (lv_at hl 0 rfl) ?_
  refine lv_iload hx hb dX11_feed_31 (lv_at hl 4 rfl) ?_
  refine zA_v (zR_V (As := [.int x3]) (rest := []) ⟨hx, hb, hml, hown, hts⟩ (zX11_putFour_4 l D h0 h1 r0 r1 r2 r3 r4 r5 r6 r7 r8 r9 k0 ff_57 x3 _ hx3) (cwV 1 hts gX11_feed_X11_putFour rfl rfl rfl (by decide +kernel) ⟨(Nat.le_of_ble_eq_true rfl), (Nat.le_of_ble_eq_true rfl)⟩) hP hD hK hN [0, 1] [0] rfl (by decide) rfl 0 11 rfl rfl rfl hl.1 rfl (Nat.le_of_ble_eq_true rfl) dX11_feed_33 ⟨(Nat.le_of_ble_eq_true rfl), (Nat.le_of_ble_eq_true rfl)⟩) hP hD hK hS hA [0, 1] [] rfl rfl (by decide) (by decide) (fun u H locs hw hP hD hK hS => ?_)
  obtain ⟨ff_58, rfl⟩ : ∃ z, z = u := ⟨_, rfl⟩
  have hK : va_K D vwCl [(k0, .byte)] s := hK
  have hP : va_P D vwCl [(h0, .inr (11, [.ref h1, .int 16, .ref r0, .ref r1, .ref r2, .ref r3, .ref r4, .ref r5, .ref r6, .ref r7, .ref r8, .ref r9])), (h1, .inl (k0, 1600, .inl ff_58))] H := hP
  have hD : va_D A [(h0, .inr (11, [.ref h1, .int 16, .ref r0, .ref r1, .ref r2, .ref r3, .ref r4, .ref r5, .ref r6, .ref r7, .ref r8, .ref r9])), (h1, .inl (k0, 1600, .inl ff_58))] := hD
  refine W.widen (k := 0) (n := 0) (Nat.le_of_ble_eq_true rfl) (Nat.le_of_ble_eq_true rfl) ?_
  refine lv_aload_n hx hb dX11_feed_36 rfl (lv_at hl 0 rfl) ?_
  refine lv_iload hx hb dX11_feed_37 (lv_at hl 5 rfl) ?_
  refine zA_v (zR_V (As := [.int x4]) (rest := []) ⟨hx, hb, hml, hown, hts⟩ (zX11_putFour_5 l D h0 h1 r0 r1 r2 r3 r4 r5 r6 r7 r8 r9 k0 ff_58 x4 _ hx4) (cwV 1 hts gX11_feed_X11_putFour rfl rfl rfl (by decide +kernel) ⟨(Nat.le_of_ble_eq_true rfl), (Nat.le_of_ble_eq_true rfl)⟩) hP hD hK hN [0, 1] [0] rfl (by decide) rfl 0 11 rfl rfl rfl hl.1 rfl (Nat.le_of_ble_eq_true rfl) dX11_feed_39 ⟨(Nat.le_of_ble_eq_true rfl), (Nat.le_of_ble_eq_true rfl)⟩) hP hD hK hS hA [0, 1] [] rfl rfl (by decide) (by decide) (fun u H locs hw hP hD hK hS => ?_)
  obtain ⟨ff_59, rfl⟩ : ∃ z, z = u := ⟨_, rfl⟩
  have hK : va_K D vwCl [(k0, .byte)] s := hK
  have hP : va_P D vwCl [(h0, .inr (11, [.ref h1, .int 20, .ref r0, .ref r1, .ref r2, .ref r3, .ref r4, .ref r5, .ref r6, .ref r7, .ref r8, .ref r9])), (h1, .inl (k0, 1600, .inl ff_59))] H := hP
  have hD : va_D A [(h0, .inr (11, [.ref h1, .int 20, .ref r0, .ref r1, .ref r2, .ref r3, .ref r4, .ref r5, .ref r6, .ref r7, .ref r8, .ref r9])), (h1, .inl (k0, 1600, .inl ff_59))] := hD
  refine W.widen (k := 0) (n := 0) (Nat.le_of_ble_eq_true rfl) (Nat.le_of_ble_eq_true rfl) ?_
  refine lv_aload_n hx hb dX11_feed_42 rfl (lv_at hl 0 rfl) ?_
  refine va_get (D := D) (ci := 11) (v := .int 20) (C := RX11) (T := TX11) (N := 12) hx hb hts iuX11_feed_X11 hown hK hP 0 rfl rfl 1 (by decide) (hts (.fieldLink RX11 13 "StraitGame" "tapeBytes" "I") (List.mem_of_getElem? (i := 1) rfl)) (fun _ h9 => h9) rfl dX11_feed_43 ?_
  exact zret_i hx hb hr hlocks hP hD hK hS () (rfl) [] [] (by decide) rfl rfl (Nat.le_of_ble_eq_true rfl) (Nat.le_of_ble_eq_true rfl) dX11_feed_46
theorem aX11_feed (l : Launch) (D : va_G) (h0 h1 r0 r1 r2 r3 r4 r5 r6 r7 r8 r9 : Nat) (k0 : ClassId) (x0 : Int32) (x1 : Int32) (x2 : Int32) (x3 : Int32) (x4 : Int32) (sz : Nat) : Met l yX11_feed wsX11_feed ({ frames := 1, cells := 0, slots := 0, locals := 22 }) (zPre D [.ref h0, .int x0, .int x1, .int x2, .int x3, .int x4] [(h0, .inr (11, [.ref h1, .int 0, .ref r0, .ref r1, .ref r2, .ref r3, .ref r4, .ref r5, .ref r6, .ref r7, .ref r8, .ref r9])), (h1, .inl (k0, 1600, .inl (fun _ => 0)))] [(k0, .byte)] sz) ((fun A => va_Qi (fun (r : Int32) (u : Unit) => r = 20) (zB D A (fun (u : Unit) => match u with | _ => []) (fun (u : Unit) => match u with | _ => [])) A) (va_A [(h0, .inr (11, [.ref h1, .int 0, .ref r0, .ref r1, .ref r2, .ref r3, .ref r4, .ref r5, .ref r6, .ref r7, .ref r8, .ref r9])), (h1, .inl (k0, 1600, .inl (fun _ => 0)))] sz)) 0 0 (va_A [(h0, .inr (11, [.ref h1, .int 0, .ref r0, .ref r1, .ref r2, .ref r3, .ref r4, .ref r5, .ref r6, .ref r7, .ref r8, .ref r9])), (h1, .inl (k0, 1600, .inl (fun _ => 0)))] sz) := by
  have b0 := z_rng x0
  have b1 := z_rng x1
  have b2 := z_rng x2
  have b3 := z_rng x3
  have b4 := z_rng x4
  exact aX11_feed_c1 l D h0 h1 r0 r1 r2 r3 r4 r5 r6 r7 r8 r9 k0 x0 x1 x2 x3 x4 _  b0 b1 b2 b3 b4
set_option maxHeartbeats 4000000 in
set_option maxRecDepth 100000 in
theorem aX11_end_c1 (l : Launch) (D : va_G) (h0 r0 r1 r2 r3 r4 r5 r6 r7 r8 r9 r10 : Nat) (x0 : Int32) (sz : Nat) (hx0 : -2147483648 ≤ x0.toInt ∧ x0.toInt ≤ -1) : Met l yX11_end wsX11_end ({ frames := 0, cells := 0, slots := 0, locals := 0 }) (zPre D [.ref h0, .int x0] [(h0, .inr (11, [.ref r0, .int 0, .ref r1, .ref r2, .ref r3, .ref r4, .ref r5, .ref r6, .ref r7, .ref r8, .ref r9, .ref r10]))] [] sz) ((fun A => va_Qi (fun (r : Int32) (u : Unit) => r = (an_end x0)) (zB D A (fun (u : Unit) => match u with | _ => []) (fun (u : Unit) => match u with | _ => [])) A) (va_A [(h0, .inr (11, [.ref r0, .int 0, .ref r1, .ref r2, .ref r3, .ref r4, .ref r5, .ref r6, .ref r7, .ref r8, .ref r9, .ref r10]))] sz)) 0 0 (va_A [(h0, .inr (11, [.ref r0, .int 0, .ref r1, .ref r2, .ref r3, .ref r4, .ref r5, .ref r6, .ref r7, .ref r8, .ref r9, .ref r10]))] sz) := by
  refine zOfW (QF := fun A => va_Qi (fun (r : Int32) (u : Unit) => r = (an_end x0)) (zB D A (fun (u : Unit) => match u with | _ => []) (fun (u : Unit) => match u with | _ => [])) A) (cc := cX11_end) (maxL := 2) (ret := (some .int)) (by decide) rfl (Nat.le_of_ble_eq_true rfl) ?_
  intro p e s m below meth c A ls hx hb hr hml hts hown hlocks hin hA hS hP hD hK hN hl
  have hl : lv_has ls 2 [(0, .ref h0), (1, .int x0)] := hl
  refine lv_iload_n hx hb dX11_end_0 rfl (lv_at hl 1 rfl) ?_
  refine lv_if_lt (tgt := 12) hx hb dX11_end_1 (by decide) (fun _ => ?_) (fun h9 => absurd (z_cmp (show (x0 : Int32) < 0 from by simp only [fa_lt, fa_le, fa_eq, zk_0]; have := hx0; omega)) h9)
  refine lv_iconst (v := (-1)) hx hb dX11_end_12 (by decide) ?_
  exact zret_i hx hb hr hlocks hP hD hK hS () ((if_neg (by have := hx0; omega)).symm) [] [] (by decide) rfl rfl (Nat.le_of_ble_eq_true rfl) (Nat.le_of_ble_eq_true rfl) dX11_end_13
set_option maxHeartbeats 4000000 in
set_option maxRecDepth 100000 in
theorem aX11_end_c2 (l : Launch) (D : va_G) (h0 r0 r1 r2 r3 r4 r5 r6 r7 r8 r9 r10 : Nat) (sz : Nat) : Met l yX11_end wsX11_end ({ frames := 0, cells := 0, slots := 0, locals := 0 }) (zPre D [.ref h0, .int 0] [(h0, .inr (11, [.ref r0, .int 0, .ref r1, .ref r2, .ref r3, .ref r4, .ref r5, .ref r6, .ref r7, .ref r8, .ref r9, .ref r10]))] [] sz) ((fun A => va_Qi (fun (r : Int32) (u : Unit) => r = (an_end 0)) (zB D A (fun (u : Unit) => match u with | _ => []) (fun (u : Unit) => match u with | _ => [])) A) (va_A [(h0, .inr (11, [.ref r0, .int 0, .ref r1, .ref r2, .ref r3, .ref r4, .ref r5, .ref r6, .ref r7, .ref r8, .ref r9, .ref r10]))] sz)) 0 0 (va_A [(h0, .inr (11, [.ref r0, .int 0, .ref r1, .ref r2, .ref r3, .ref r4, .ref r5, .ref r6, .ref r7, .ref r8, .ref r9, .ref r10]))] sz) := by
  refine zOfW (QF := fun A => va_Qi (fun (r : Int32) (u : Unit) => r = (an_end 0)) (zB D A (fun (u : Unit) => match u with | _ => []) (fun (u : Unit) => match u with | _ => [])) A) (cc := cX11_end) (maxL := 2) (ret := (some .int)) (by decide) rfl (Nat.le_of_ble_eq_true rfl) ?_
  intro p e s m below meth c A ls hx hb hr hml hts hown hlocks hin hA hS hP hD hK hN hl
  have hl : lv_has ls 2 [(0, .ref h0), (1, .int 0)] := hl
  refine lv_iload_n hx hb dX11_end_0 rfl (lv_at hl 1 rfl) ?_
  refine lv_if_lt (tgt := 12) hx hb dX11_end_1 (by decide) (fun h9 => absurd h9 (by decide)) (fun _ => ?_)
  refine lv_iload_n hx hb dX11_end_4 rfl (lv_at hl 1 rfl) ?_
  refine lv_aload_n hx hb dX11_end_5 rfl (lv_at hl 0 rfl) ?_
  refine va_get (D := D) (ci := 11) (v := .int 0) (C := RX11) (T := TX11) (N := 12) hx hb hts iuX11_end_X11 hown hK hP 0 rfl rfl 1 (by decide) (hts (.fieldLink RX11 13 "StraitGame" "tapeBytes" "I") (List.mem_of_getElem? (i := 1) rfl)) (fun _ h9 => h9) rfl dX11_end_6 ?_
  refine lv_icmp_le (tgt := 14) hx hb dX11_end_9 (by decide) (fun _ => ?_) (fun h9 => absurd (by decide) h9)
  refine lv_aload_n hx hb dX11_end_14 rfl (lv_at hl 0 rfl) ?_
  refine lv_iload_n hx hb dX11_end_15 rfl (lv_at hl 1 rfl) ?_
  refine va_put (D := D) (ci := 11) (v := .int 0) (ty := .int) (C := RX11) (T := TX11) (N := 12) hx hb hts iuX11_end_X11 tyX11 tyX11_ok nmX11 hown hK hP hD hS 0 rfl rfl 1 (by decide) (hts (.fieldLink RX11 13 "StraitGame" "tapeBytes" "I") (List.mem_of_getElem? (i := 1) rfl)) (fun _ h9 => h9) rfl (by decide +kernel) rfl rfl (Nat.le_of_ble_eq_true rfl) dX11_end_16 (fun H locs hP hD hS => ?_)
  have hP : va_P D vwCl [(h0, .inr (11, [.ref r0, .int 0, .ref r1, .ref r2, .ref r3, .ref r4, .ref r5, .ref r6, .ref r7, .ref r8, .ref r9, .ref r10]))] H := hP
  have hD : va_D A [(h0, .inr (11, [.ref r0, .int 0, .ref r1, .ref r2, .ref r3, .ref r4, .ref r5, .ref r6, .ref r7, .ref r8, .ref r9, .ref r10]))] := hD
  refine lv_iload_n hx hb dX11_end_19 rfl (lv_at hl 1 rfl) ?_
  exact zret_i hx hb hr hlocks hP hD hK hS () (by decide) [] [] (by decide) rfl rfl (Nat.le_of_ble_eq_true rfl) (Nat.le_of_ble_eq_true rfl) dX11_end_20
set_option maxHeartbeats 4000000 in
set_option maxRecDepth 100000 in
theorem aX11_end_c3 (l : Launch) (D : va_G) (h0 r0 r1 r2 r3 r4 r5 r6 r7 r8 r9 r10 : Nat) (x0 : Int32) (sz : Nat) (hx0 : 1 ≤ x0.toInt ∧ x0.toInt ≤ 2147483647) : Met l yX11_end wsX11_end ({ frames := 0, cells := 0, slots := 0, locals := 0 }) (zPre D [.ref h0, .int x0] [(h0, .inr (11, [.ref r0, .int 0, .ref r1, .ref r2, .ref r3, .ref r4, .ref r5, .ref r6, .ref r7, .ref r8, .ref r9, .ref r10]))] [] sz) ((fun A => va_Qi (fun (r : Int32) (u : Unit) => r = (an_end x0)) (zB D A (fun (u : Unit) => match u with | _ => []) (fun (u : Unit) => match u with | _ => [])) A) (va_A [(h0, .inr (11, [.ref r0, .int 0, .ref r1, .ref r2, .ref r3, .ref r4, .ref r5, .ref r6, .ref r7, .ref r8, .ref r9, .ref r10]))] sz)) 0 0 (va_A [(h0, .inr (11, [.ref r0, .int 0, .ref r1, .ref r2, .ref r3, .ref r4, .ref r5, .ref r6, .ref r7, .ref r8, .ref r9, .ref r10]))] sz) := by
  refine zOfW (QF := fun A => va_Qi (fun (r : Int32) (u : Unit) => r = (an_end x0)) (zB D A (fun (u : Unit) => match u with | _ => []) (fun (u : Unit) => match u with | _ => [])) A) (cc := cX11_end) (maxL := 2) (ret := (some .int)) (by decide) rfl (Nat.le_of_ble_eq_true rfl) ?_
  intro p e s m below meth c A ls hx hb hr hml hts hown hlocks hin hA hS hP hD hK hN hl
  have hl : lv_has ls 2 [(0, .ref h0), (1, .int x0)] := hl
  refine lv_iload_n hx hb dX11_end_0 rfl (lv_at hl 1 rfl) ?_
  refine lv_if_lt (tgt := 12) hx hb dX11_end_1 (by decide) (fun h9 => absurd h9 (z_cmp (show ¬ ((x0 : Int32) < 0) from by simp only [fa_lt, fa_le, fa_eq, zk_0]; have := hx0; omega))) (fun _ => ?_)
  refine lv_iload_n hx hb dX11_end_4 rfl (lv_at hl 1 rfl) ?_
  refine lv_aload_n hx hb dX11_end_5 rfl (lv_at hl 0 rfl) ?_
  refine va_get (D := D) (ci := 11) (v := .int 0) (C := RX11) (T := TX11) (N := 12) hx hb hts iuX11_end_X11 hown hK hP 0 rfl rfl 1 (by decide) (hts (.fieldLink RX11 13 "StraitGame" "tapeBytes" "I") (List.mem_of_getElem? (i := 1) rfl)) (fun _ h9 => h9) rfl dX11_end_6 ?_
  refine lv_icmp_le (tgt := 14) hx hb dX11_end_9 (by decide) (fun h9 => absurd h9 (z_cmp (show ¬ ((x0 : Int32) ≤ 0) from by simp only [fa_lt, fa_le, fa_eq, zk_0]; have := hx0; omega))) (fun _ => ?_)
  refine lv_iconst (v := (-1)) hx hb dX11_end_12 (by decide) ?_
  exact zret_i hx hb hr hlocks hP hD hK hS () ((if_neg (by have := hx0; omega)).symm) [] [] (by decide) rfl rfl (Nat.le_of_ble_eq_true rfl) (Nat.le_of_ble_eq_true rfl) dX11_end_13
theorem aX11_end (l : Launch) (D : va_G) (h0 r0 r1 r2 r3 r4 r5 r6 r7 r8 r9 r10 : Nat) (x0 : Int32) (sz : Nat) : Met l yX11_end wsX11_end ({ frames := 0, cells := 0, slots := 0, locals := 0 }) (zPre D [.ref h0, .int x0] [(h0, .inr (11, [.ref r0, .int 0, .ref r1, .ref r2, .ref r3, .ref r4, .ref r5, .ref r6, .ref r7, .ref r8, .ref r9, .ref r10]))] [] sz) ((fun A => va_Qi (fun (r : Int32) (u : Unit) => r = (an_end x0)) (zB D A (fun (u : Unit) => match u with | _ => []) (fun (u : Unit) => match u with | _ => [])) A) (va_A [(h0, .inr (11, [.ref r0, .int 0, .ref r1, .ref r2, .ref r3, .ref r4, .ref r5, .ref r6, .ref r7, .ref r8, .ref r9, .ref r10]))] sz)) 0 0 (va_A [(h0, .inr (11, [.ref r0, .int 0, .ref r1, .ref r2, .ref r3, .ref r4, .ref r5, .ref r6, .ref r7, .ref r8, .ref r9, .ref r10]))] sz) := by
  rcases (show (-2147483648 ≤ x0.toInt ∧ x0.toInt ≤ -1) ∨ x0 = 0 ∨ (1 ≤ x0.toInt ∧ x0.toInt ≤ 2147483647) from by simp only [fa_eq, zk_0]; have := z_rng x0; omega) with b0 | rfl | b0
  ·
    exact aX11_end_c1 l D h0 r0 r1 r2 r3 r4 r5 r6 r7 r8 r9 r10 x0 _  b0
  ·
    exact aX11_end_c2 l D h0 r0 r1 r2 r3 r4 r5 r6 r7 r8 r9 r10  _  
  ·
    exact aX11_end_c3 l D h0 r0 r1 r2 r3 r4 r5 r6 r7 r8 r9 r10 x0 _  b0
set_option maxHeartbeats 4000000 in
set_option maxRecDepth 100000 in
theorem zX4_clear_1 (l : Launch) (D : va_G) (h0 : Nat) (sz : Nat) : Met l yX4_clear wsX4_clear ({ frames := 0, cells := 0, slots := 0, locals := 0 }) (zPre D [.ref h0] [(h0, .inr (4, [.int 0, .int 0, .int 0, .int 0, .int 0, .int 0, .int 0]))] [] sz) ((fun A => va_Qv (fun (u : Unit) => match u with | _ => True) (zB D A (fun (u : Unit) => match u with | _ => [(h0, .inr (4, [.int 0, .int 0, .int 0, .int 0, .int 0, .int 0, .int 0]))]) (fun (u : Unit) => match u with | _ => [])) A) (va_A [(h0, .inr (4, [.int 0, .int 0, .int 0, .int 0, .int 0, .int 0, .int 0]))] sz)) 0 0 (va_A [(h0, .inr (4, [.int 0, .int 0, .int 0, .int 0, .int 0, .int 0, .int 0]))] sz) := by
  refine zOfW (QF := fun A => va_Qv (fun (u : Unit) => match u with | _ => True) (zB D A (fun (u : Unit) => match u with | _ => [(h0, .inr (4, [.int 0, .int 0, .int 0, .int 0, .int 0, .int 0, .int 0]))]) (fun (u : Unit) => match u with | _ => [])) A) (cc := cX4_clear) (maxL := 1) (ret := none) (by decide) rfl (Nat.le_of_ble_eq_true rfl) ?_
  intro p e s m below meth c A ls hx hb hr hml hts hown hlocks hin hA hS hP hD hK hN hl
  have hl : lv_has ls 1 [(0, .ref h0)] := hl
  refine lv_aload_n hx hb dX4_clear_0 rfl (lv_at hl 0 rfl) ?_
  refine lv_iconst (v := 0) hx hb dX4_clear_1 (by decide) ?_
  refine va_put (D := D) (ci := 4) (v := .int 0) (ty := .int) (C := RX4) (T := TX4) (N := 7) hx hb hts iuX4_clear_X4 tyX4 tyX4_ok nmX4 hown hK hP hD hS 0 rfl rfl 0 (by decide) (hts (.fieldLink RX4 9 "StraitGame$Position" "toMove" "I") (List.mem_of_getElem? (i := 1) rfl)) (fun _ h9 => h9) rfl (by decide +kernel) rfl rfl (Nat.le_of_ble_eq_true rfl) dX4_clear_2 (fun H locs hP hD hS => ?_)
  have hP : va_P D vwCl [(h0, .inr (4, [.int 0, .int 0, .int 0, .int 0, .int 0, .int 0, .int 0]))] H := hP
  have hD : va_D A [(h0, .inr (4, [.int 0, .int 0, .int 0, .int 0, .int 0, .int 0, .int 0]))] := hD
  refine lv_aload_n hx hb dX4_clear_5 rfl (lv_at hl 0 rfl) ?_
  refine lv_iconst (v := 0) hx hb dX4_clear_6 (by decide) ?_
  refine va_put (D := D) (ci := 4) (v := .int 0) (ty := .int) (C := RX4) (T := TX4) (N := 7) hx hb hts iuX4_clear_X4 tyX4 tyX4_ok nmX4 hown hK hP hD hS 0 rfl rfl 1 (by decide) (hts (.fieldLink RX4 15 "StraitGame$Position" "white" "I") (List.mem_of_getElem? (i := 2) rfl)) (fun _ h9 => h9) rfl (by decide +kernel) rfl rfl (Nat.le_of_ble_eq_true rfl) dX4_clear_7 (fun H locs hP hD hS => ?_)
  have hP : va_P D vwCl [(h0, .inr (4, [.int 0, .int 0, .int 0, .int 0, .int 0, .int 0, .int 0]))] H := hP
  have hD : va_D A [(h0, .inr (4, [.int 0, .int 0, .int 0, .int 0, .int 0, .int 0, .int 0]))] := hD
  refine lv_aload_n hx hb dX4_clear_10 rfl (lv_at hl 0 rfl) ?_
  refine lv_iconst (v := 0) hx hb dX4_clear_11 (by decide) ?_
  refine va_put (D := D) (ci := 4) (v := .int 0) (ty := .int) (C := RX4) (T := TX4) (N := 7) hx hb hts iuX4_clear_X4 tyX4 tyX4_ok nmX4 hown hK hP hD hS 0 rfl rfl 2 (by decide) (hts (.fieldLink RX4 18 "StraitGame$Position" "black" "I") (List.mem_of_getElem? (i := 3) rfl)) (fun _ h9 => h9) rfl (by decide +kernel) rfl rfl (Nat.le_of_ble_eq_true rfl) dX4_clear_12 (fun H locs hP hD hS => ?_)
  have hP : va_P D vwCl [(h0, .inr (4, [.int 0, .int 0, .int 0, .int 0, .int 0, .int 0, .int 0]))] H := hP
  have hD : va_D A [(h0, .inr (4, [.int 0, .int 0, .int 0, .int 0, .int 0, .int 0, .int 0]))] := hD
  refine lv_aload_n hx hb dX4_clear_15 rfl (lv_at hl 0 rfl) ?_
  refine lv_iconst (v := 0) hx hb dX4_clear_16 (by decide) ?_
  refine va_put (D := D) (ci := 4) (v := .int 0) (ty := .int) (C := RX4) (T := TX4) (N := 7) hx hb hts iuX4_clear_X4 tyX4 tyX4_ok nmX4 hown hK hP hD hS 0 rfl rfl 3 (by decide) (hts (.fieldLink RX4 21 "StraitGame$Position" "kings" "I") (List.mem_of_getElem? (i := 4) rfl)) (fun _ h9 => h9) rfl (by decide +kernel) rfl rfl (Nat.le_of_ble_eq_true rfl) dX4_clear_17 (fun H locs hP hD hS => ?_)
  have hP : va_P D vwCl [(h0, .inr (4, [.int 0, .int 0, .int 0, .int 0, .int 0, .int 0, .int 0]))] H := hP
  have hD : va_D A [(h0, .inr (4, [.int 0, .int 0, .int 0, .int 0, .int 0, .int 0, .int 0]))] := hD
  refine lv_aload_n hx hb dX4_clear_20 rfl (lv_at hl 0 rfl) ?_
  refine lv_iconst (v := 0) hx hb dX4_clear_21 (by decide) ?_
  refine va_put (D := D) (ci := 4) (v := .int 0) (ty := .int) (C := RX4) (T := TX4) (N := 7) hx hb hts iuX4_clear_X4 tyX4 tyX4_ok nmX4 hown hK hP hD hS 0 rfl rfl 4 (by decide) (hts (.fieldLink RX4 24 "StraitGame$Position" "ones" "I") (List.mem_of_getElem? (i := 5) rfl)) (fun _ h9 => h9) rfl (by decide +kernel) rfl rfl (Nat.le_of_ble_eq_true rfl) dX4_clear_22 (fun H locs hP hD hS => ?_)
  have hP : va_P D vwCl [(h0, .inr (4, [.int 0, .int 0, .int 0, .int 0, .int 0, .int 0, .int 0]))] H := hP
  have hD : va_D A [(h0, .inr (4, [.int 0, .int 0, .int 0, .int 0, .int 0, .int 0, .int 0]))] := hD
  refine lv_aload_n hx hb dX4_clear_25 rfl (lv_at hl 0 rfl) ?_
  refine lv_iconst (v := 0) hx hb dX4_clear_26 (by decide) ?_
  refine va_put (D := D) (ci := 4) (v := .int 0) (ty := .int) (C := RX4) (T := TX4) (N := 7) hx hb hts iuX4_clear_X4 tyX4 tyX4_ok nmX4 hown hK hP hD hS 0 rfl rfl 5 (by decide) (hts (.fieldLink RX4 27 "StraitGame$Position" "twos" "I") (List.mem_of_getElem? (i := 6) rfl)) (fun _ h9 => h9) rfl (by decide +kernel) rfl rfl (Nat.le_of_ble_eq_true rfl) dX4_clear_27 (fun H locs hP hD hS => ?_)
  have hP : va_P D vwCl [(h0, .inr (4, [.int 0, .int 0, .int 0, .int 0, .int 0, .int 0, .int 0]))] H := hP
  have hD : va_D A [(h0, .inr (4, [.int 0, .int 0, .int 0, .int 0, .int 0, .int 0, .int 0]))] := hD
  refine lv_aload_n hx hb dX4_clear_30 rfl (lv_at hl 0 rfl) ?_
  refine lv_iconst (v := 0) hx hb dX4_clear_31 (by decide) ?_
  refine va_put (D := D) (ci := 4) (v := .int 0) (ty := .int) (C := RX4) (T := TX4) (N := 7) hx hb hts iuX4_clear_X4 tyX4 tyX4_ok nmX4 hown hK hP hD hS 0 rfl rfl 6 (by decide) (hts (.fieldLink RX4 30 "StraitGame$Position" "fours" "I") (List.mem_of_getElem? (i := 7) rfl)) (fun _ h9 => h9) rfl (by decide +kernel) rfl rfl (Nat.le_of_ble_eq_true rfl) dX4_clear_32 (fun H locs hP hD hS => ?_)
  have hP : va_P D vwCl [(h0, .inr (4, [.int 0, .int 0, .int 0, .int 0, .int 0, .int 0, .int 0]))] H := hP
  have hD : va_D A [(h0, .inr (4, [.int 0, .int 0, .int 0, .int 0, .int 0, .int 0, .int 0]))] := hD
  exact zret_v hx hb hr hlocks hP hD hK hS () trivial [0] [] (by decide) rfl rfl (Nat.le_of_ble_eq_true rfl) (Nat.le_of_ble_eq_true rfl) dX4_clear_35
set_option maxHeartbeats 4000000 in
set_option maxRecDepth 100000 in
theorem zX10_forget_1 (l : Launch) (D : va_G) (h0 h1 r0 r1 r2 r3 r4 r5 r6 : Nat) (sz : Nat) : Met l yX10_forget wsX10_forget ({ frames := 1, cells := 0, slots := 0, locals := 20 }) (zPre D [.ref h0] [(h0, .inr (10, [.int 0, .int 0, .int 0, .int 0, .int 0, .ref r0, .ref r1, .ref r2, .ref r3, .ref r4, .ref r5, .ref r6, .ref h1])), (h1, .inr (4, [.int 0, .int 0, .int 0, .int 0, .int 0, .int 0, .int 0]))] [] sz) ((fun A => va_Qv (fun (u : Unit) => match u with | _ => True) (zB D A (fun (u : Unit) => match u with | _ => [(h0, .inr (10, [.int 0, .int 0, .int 0, .int 0, .int 0, .ref r0, .ref r1, .ref r2, .ref r3, .ref r4, .ref r5, .ref r6, .ref h1])), (h1, .inr (4, [.int 0, .int 0, .int 0, .int 0, .int 0, .int 0, .int 0]))]) (fun (u : Unit) => match u with | _ => [])) A) (va_A [(h0, .inr (10, [.int 0, .int 0, .int 0, .int 0, .int 0, .ref r0, .ref r1, .ref r2, .ref r3, .ref r4, .ref r5, .ref r6, .ref h1])), (h1, .inr (4, [.int 0, .int 0, .int 0, .int 0, .int 0, .int 0, .int 0]))] sz)) 0 0 (va_A [(h0, .inr (10, [.int 0, .int 0, .int 0, .int 0, .int 0, .ref r0, .ref r1, .ref r2, .ref r3, .ref r4, .ref r5, .ref r6, .ref h1])), (h1, .inr (4, [.int 0, .int 0, .int 0, .int 0, .int 0, .int 0, .int 0]))] sz) := by
  refine zOfW (QF := fun A => va_Qv (fun (u : Unit) => match u with | _ => True) (zB D A (fun (u : Unit) => match u with | _ => [(h0, .inr (10, [.int 0, .int 0, .int 0, .int 0, .int 0, .ref r0, .ref r1, .ref r2, .ref r3, .ref r4, .ref r5, .ref r6, .ref h1])), (h1, .inr (4, [.int 0, .int 0, .int 0, .int 0, .int 0, .int 0, .int 0]))]) (fun (u : Unit) => match u with | _ => [])) A) (cc := cX10_forget) (maxL := 1) (ret := none) (by decide) rfl (Nat.le_of_ble_eq_true rfl) ?_
  intro p e s m below meth c A ls hx hb hr hml hts hown hlocks hin hA hS hP hD hK hN hl
  have hl : lv_has ls 1 [(0, .ref h0)] := hl
  refine lv_aload_n hx hb dX10_forget_0 rfl (lv_at hl 0 rfl) ?_
  refine lv_iconst (v := 0) hx hb dX10_forget_1 (by decide) ?_
  refine va_put (D := D) (ci := 10) (v := .int 0) (ty := .int) (C := RX10) (T := TX10) (N := 13) hx hb hts iuX10_forget_X10 tyX10 tyX10_ok nmX10 hown hK hP hD hS 0 rfl rfl 0 (by decide) (hts (.fieldLink RX10 9 "StraitGame$Told" "files" "I") (List.mem_of_getElem? (i := 1) rfl)) (fun _ h9 => h9) rfl (by decide +kernel) rfl rfl (Nat.le_of_ble_eq_true rfl) dX10_forget_2 (fun H locs hP hD hS => ?_)
  have hP : va_P D vwCl [(h0, .inr (10, [.int 0, .int 0, .int 0, .int 0, .int 0, .ref r0, .ref r1, .ref r2, .ref r3, .ref r4, .ref r5, .ref r6, .ref h1])), (h1, .inr (4, [.int 0, .int 0, .int 0, .int 0, .int 0, .int 0, .int 0]))] H := hP
  have hD : va_D A [(h0, .inr (10, [.int 0, .int 0, .int 0, .int 0, .int 0, .ref r0, .ref r1, .ref r2, .ref r3, .ref r4, .ref r5, .ref r6, .ref h1])), (h1, .inr (4, [.int 0, .int 0, .int 0, .int 0, .int 0, .int 0, .int 0]))] := hD
  refine lv_aload_n hx hb dX10_forget_5 rfl (lv_at hl 0 rfl) ?_
  refine lv_iconst (v := 0) hx hb dX10_forget_6 (by decide) ?_
  refine va_put (D := D) (ci := 10) (v := .int 0) (ty := .int) (C := RX10) (T := TX10) (N := 13) hx hb hts iuX10_forget_X10 tyX10 tyX10_ok nmX10 hown hK hP hD hS 0 rfl rfl 1 (by decide) (hts (.fieldLink RX10 15 "StraitGame$Told" "ranks" "I") (List.mem_of_getElem? (i := 2) rfl)) (fun _ h9 => h9) rfl (by decide +kernel) rfl rfl (Nat.le_of_ble_eq_true rfl) dX10_forget_7 (fun H locs hP hD hS => ?_)
  have hP : va_P D vwCl [(h0, .inr (10, [.int 0, .int 0, .int 0, .int 0, .int 0, .ref r0, .ref r1, .ref r2, .ref r3, .ref r4, .ref r5, .ref r6, .ref h1])), (h1, .inr (4, [.int 0, .int 0, .int 0, .int 0, .int 0, .int 0, .int 0]))] H := hP
  have hD : va_D A [(h0, .inr (10, [.int 0, .int 0, .int 0, .int 0, .int 0, .ref r0, .ref r1, .ref r2, .ref r3, .ref r4, .ref r5, .ref r6, .ref h1])), (h1, .inr (4, [.int 0, .int 0, .int 0, .int 0, .int 0, .int 0, .int 0]))] := hD
  refine lv_aload_n hx hb dX10_forget_10 rfl (lv_at hl 0 rfl) ?_
  refine lv_iconst (v := 0) hx hb dX10_forget_11 (by decide) ?_
  refine va_put (D := D) (ci := 10) (v := .int 0) (ty := .int) (C := RX10) (T := TX10) (N := 13) hx hb hts iuX10_forget_X10 tyX10 tyX10_ok nmX10 hown hK hP hD hS 0 rfl rfl 2 (by decide) (hts (.fieldLink RX10 18 "StraitGame$Told" "pieces" "I") (List.mem_of_getElem? (i := 3) rfl)) (fun _ h9 => h9) rfl (by decide +kernel) rfl rfl (Nat.le_of_ble_eq_true rfl) dX10_forget_12 (fun H locs hP hD hS => ?_)
  have hP : va_P D vwCl [(h0, .inr (10, [.int 0, .int 0, .int 0, .int 0, .int 0, .ref r0, .ref r1, .ref r2, .ref r3, .ref r4, .ref r5, .ref r6, .ref h1])), (h1, .inr (4, [.int 0, .int 0, .int 0, .int 0, .int 0, .int 0, .int 0]))] H := hP
  have hD : va_D A [(h0, .inr (10, [.int 0, .int 0, .int 0, .int 0, .int 0, .ref r0, .ref r1, .ref r2, .ref r3, .ref r4, .ref r5, .ref r6, .ref h1])), (h1, .inr (4, [.int 0, .int 0, .int 0, .int 0, .int 0, .int 0, .int 0]))] := hD
  refine lv_aload_n hx hb dX10_forget_15 rfl (lv_at hl 0 rfl) ?_
  refine lv_iconst (v := 0) hx hb dX10_forget_16 (by decide) ?_
  refine va_put (D := D) (ci := 10) (v := .int 0) (ty := .int) (C := RX10) (T := TX10) (N := 13) hx hb hts iuX10_forget_X10 tyX10 tyX10_ok nmX10 hown hK hP hD hS 0 rfl rfl 3 (by decide) (hts (.fieldLink RX10 21 "StraitGame$Told" "men" "I") (List.mem_of_getElem? (i := 4) rfl)) (fun _ h9 => h9) rfl (by decide +kernel) rfl rfl (Nat.le_of_ble_eq_true rfl) dX10_forget_17 (fun H locs hP hD hS => ?_)
  have hP : va_P D vwCl [(h0, .inr (10, [.int 0, .int 0, .int 0, .int 0, .int 0, .ref r0, .ref r1, .ref r2, .ref r3, .ref r4, .ref r5, .ref r6, .ref h1])), (h1, .inr (4, [.int 0, .int 0, .int 0, .int 0, .int 0, .int 0, .int 0]))] H := hP
  have hD : va_D A [(h0, .inr (10, [.int 0, .int 0, .int 0, .int 0, .int 0, .ref r0, .ref r1, .ref r2, .ref r3, .ref r4, .ref r5, .ref r6, .ref h1])), (h1, .inr (4, [.int 0, .int 0, .int 0, .int 0, .int 0, .int 0, .int 0]))] := hD
  refine lv_aload_n hx hb dX10_forget_20 rfl (lv_at hl 0 rfl) ?_
  refine lv_iconst (v := 0) hx hb dX10_forget_21 (by decide) ?_
  refine va_put (D := D) (ci := 10) (v := .int 0) (ty := .int) (C := RX10) (T := TX10) (N := 13) hx hb hts iuX10_forget_X10 tyX10 tyX10_ok nmX10 hown hK hP hD hS 0 rfl rfl 4 (by decide) (hts (.fieldLink RX10 24 "StraitGame$Told" "numbers" "I") (List.mem_of_getElem? (i := 5) rfl)) (fun _ h9 => h9) rfl (by decide +kernel) rfl rfl (Nat.le_of_ble_eq_true rfl) dX10_forget_22 (fun H locs hP hD hS => ?_)
  have hP : va_P D vwCl [(h0, .inr (10, [.int 0, .int 0, .int 0, .int 0, .int 0, .ref r0, .ref r1, .ref r2, .ref r3, .ref r4, .ref r5, .ref r6, .ref h1])), (h1, .inr (4, [.int 0, .int 0, .int 0, .int 0, .int 0, .int 0, .int 0]))] H := hP
  have hD : va_D A [(h0, .inr (10, [.int 0, .int 0, .int 0, .int 0, .int 0, .ref r0, .ref r1, .ref r2, .ref r3, .ref r4, .ref r5, .ref r6, .ref h1])), (h1, .inr (4, [.int 0, .int 0, .int 0, .int 0, .int 0, .int 0, .int 0]))] := hD
  refine lv_aload_n hx hb dX10_forget_25 rfl (lv_at hl 0 rfl) ?_
  refine va_get (D := D) (ci := 10) (v := .ref h1) (C := RX10) (T := TX10) (N := 13) hx hb hts iuX10_forget_X10 hown hK hP 0 rfl rfl 12 (by decide) (hts (.fieldLink RX10 53 "StraitGame$Told" "start" "LStraitGame$Position;") (List.mem_of_getElem? (i := 6) rfl)) (fun _ h9 => h9) rfl dX10_forget_26 ?_
  refine zA_v (zR_V (As := []) (rest := []) ⟨hx, hb, hml, hown, hts⟩ (zX4_clear_1 l D h1 _) (cwV 0 hts gX10_forget_X4_clear rfl rfl rfl (by decide +kernel) ⟨(Nat.le_of_ble_eq_true rfl), (Nat.le_of_ble_eq_true rfl)⟩) hP hD hK hN [1] [] rfl (by decide) rfl 0 4 rfl rfl rfl hl.1 rfl (Nat.le_of_ble_eq_true rfl) dX10_forget_29 ⟨(Nat.le_of_ble_eq_true rfl), (Nat.le_of_ble_eq_true rfl)⟩) hP hD hK hS hA [1] [0] rfl rfl (by decide) (by decide) (fun u H locs hw hP hD hK hS => ?_)
  have hK : va_K D vwCl [] s := hK
  have hP : va_P D vwCl [(h0, .inr (10, [.int 0, .int 0, .int 0, .int 0, .int 0, .ref r0, .ref r1, .ref r2, .ref r3, .ref r4, .ref r5, .ref r6, .ref h1])), (h1, .inr (4, [.int 0, .int 0, .int 0, .int 0, .int 0, .int 0, .int 0]))] H := hP
  have hD : va_D A [(h0, .inr (10, [.int 0, .int 0, .int 0, .int 0, .int 0, .ref r0, .ref r1, .ref r2, .ref r3, .ref r4, .ref r5, .ref r6, .ref h1])), (h1, .inr (4, [.int 0, .int 0, .int 0, .int 0, .int 0, .int 0, .int 0]))] := hD
  refine W.widen (k := 0) (n := 0) (Nat.le_of_ble_eq_true rfl) (Nat.le_of_ble_eq_true rfl) ?_
  exact zret_v hx hb hr hlocks hP hD hK hS () trivial [0, 1] [] (by decide) rfl rfl (Nat.le_of_ble_eq_true rfl) (Nat.le_of_ble_eq_true rfl) dX10_forget_32
set_option maxHeartbeats 4000000 in
set_option maxRecDepth 100000 in
theorem zX9_endOfBlanks_1 (l : Launch) (D : va_G) (h0 r0 r1 r2 : Nat) (sz : Nat) : Met l yX9_endOfBlanks wsX9_endOfBlanks ({ frames := 0, cells := 0, slots := 0, locals := 0 }) (zPre D [.ref h0, .int 0] [(h0, .inr (9, [.int 0, .ref r0, .ref r1, .ref r2, .int 0]))] [] sz) ((fun A => va_Qi (fun (r : Int32) (u : Unit) => r = 0) (zB D A (fun (u : Unit) => match u with | _ => [(h0, .inr (9, [.int 0, .ref r0, .ref r1, .ref r2, .int 0]))]) (fun (u : Unit) => match u with | _ => [])) A) (va_A [(h0, .inr (9, [.int 0, .ref r0, .ref r1, .ref r2, .int 0]))] sz)) 0 0 (va_A [(h0, .inr (9, [.int 0, .ref r0, .ref r1, .ref r2, .int 0]))] sz) := by
  refine zOfW (QF := fun A => va_Qi (fun (r : Int32) (u : Unit) => r = 0) (zB D A (fun (u : Unit) => match u with | _ => [(h0, .inr (9, [.int 0, .ref r0, .ref r1, .ref r2, .int 0]))]) (fun (u : Unit) => match u with | _ => [])) A) (cc := cX9_endOfBlanks) (maxL := 3) (ret := (some .int)) (by decide) rfl (Nat.le_of_ble_eq_true rfl) ?_
  intro p e s m below meth c A ls hx hb hr hml hts hown hlocks hin hA hS hP hD hK hN hl
  have hl : lv_has ls 3 [(0, .ref h0), (1, .int 0)] := hl
  refine lv_iload_n hx hb dX9_endOfBlanks_0 rfl (lv_at hl 1 rfl) ?_
  refine lv_istore_n (lv' := [(2, .int 0), (0, .ref h0), (1, .int 0)]) hx hb dX9_endOfBlanks_1 rfl hl (by decide) rfl (fun ls hl => ?_)
  refine lv_iload_n hx hb dX9_endOfBlanks_2 rfl (lv_at hl 0 rfl) ?_
  refine lv_aload_n hx hb dX9_endOfBlanks_3 rfl (lv_at hl 1 rfl) ?_
  refine va_get (D := D) (ci := 9) (v := .int 0) (C := RX9) (T := TX9) (N := 5) hx hb hts iuX9_endOfBlanks_X9 hown hK hP 0 rfl rfl 4 (by decide) (hts (.fieldLink RX9 23 "StraitGame$Tokens" "bytes" "I") (List.mem_of_getElem? (i := 1) rfl)) (fun _ h9 => h9) rfl dX9_endOfBlanks_4 ?_
  refine lv_icmp_ge (tgt := 38) hx hb dX9_endOfBlanks_7 (by decide) (fun _ => ?_) (fun h9 => absurd (by decide) h9)
  refine lv_iload_n hx hb dX9_endOfBlanks_38 rfl (lv_at hl 0 rfl) ?_
  exact zret_i hx hb hr hlocks hP hD hK hS () rfl [0] [] (by decide) rfl rfl (Nat.le_of_ble_eq_true rfl) (Nat.le_of_ble_eq_true rfl) dX9_endOfBlanks_39
set_option maxHeartbeats 4000000 in
set_option maxRecDepth 100000 in
theorem zX9_isDigit_1 (l : Launch) (D : va_G) (h0 r0 r1 r2 : Nat) (sz : Nat) : Met l yX9_isDigit wsX9_isDigit ({ frames := 0, cells := 0, slots := 0, locals := 0 }) (zPre D [.ref h0, .int 0] [(h0, .inr (9, [.int 0, .ref r0, .ref r1, .ref r2, .int 0]))] [] sz) ((fun A => va_Qi (fun (r : Int32) (u : Unit) => r = 0) (zB D A (fun (u : Unit) => match u with | _ => [(h0, .inr (9, [.int 0, .ref r0, .ref r1, .ref r2, .int 0]))]) (fun (u : Unit) => match u with | _ => [])) A) (va_A [(h0, .inr (9, [.int 0, .ref r0, .ref r1, .ref r2, .int 0]))] sz)) 0 0 (va_A [(h0, .inr (9, [.int 0, .ref r0, .ref r1, .ref r2, .int 0]))] sz) := by
  refine zOfW (QF := fun A => va_Qi (fun (r : Int32) (u : Unit) => r = 0) (zB D A (fun (u : Unit) => match u with | _ => [(h0, .inr (9, [.int 0, .ref r0, .ref r1, .ref r2, .int 0]))]) (fun (u : Unit) => match u with | _ => [])) A) (cc := cX9_isDigit) (maxL := 2) (ret := (some .boolean)) (by decide) rfl (Nat.le_of_ble_eq_true rfl) ?_
  intro p e s m below meth c A ls hx hb hr hml hts hown hlocks hin hA hS hP hD hK hN hl
  have hl : lv_has ls 2 [(0, .ref h0), (1, .int 0)] := hl
  refine lv_iload_n hx hb dX9_isDigit_0 rfl (lv_at hl 1 rfl) ?_
  refine lv_aload_n hx hb dX9_isDigit_1 rfl (lv_at hl 0 rfl) ?_
  refine va_get (D := D) (ci := 9) (v := .int 0) (C := RX9) (T := TX9) (N := 5) hx hb hts iuX9_isDigit_X9 hown hK hP 0 rfl rfl 4 (by decide) (hts (.fieldLink RX9 23 "StraitGame$Tokens" "bytes" "I") (List.mem_of_getElem? (i := 1) rfl)) (fun _ h9 => h9) rfl dX9_isDigit_2 ?_
  refine lv_icmp_ge (tgt := 34) hx hb dX9_isDigit_5 (by decide) (fun _ => ?_) (fun h9 => absurd (by decide) h9)
  refine lv_iconst (v := 0) hx hb dX9_isDigit_34 (by decide) ?_
  exact zret_z hx hb hr (by decide) hlocks hP hD hK hS () rfl [0] [] (by decide) rfl rfl (Nat.le_of_ble_eq_true rfl) (Nat.le_of_ble_eq_true rfl) dX9_isDigit_35
set_option maxHeartbeats 4000000 in
set_option maxRecDepth 100000 in
theorem zX9_endOfToken_1 (l : Launch) (D : va_G) (h0 r0 r1 r2 : Nat) (sz : Nat) : Met l yX9_endOfToken wsX9_endOfToken ({ frames := 1, cells := 0, slots := 0, locals := 21 }) (zPre D [.ref h0, .int 0] [(h0, .inr (9, [.int 0, .ref r0, .ref r1, .ref r2, .int 0]))] [] sz) ((fun A => va_Qi (fun (r : Int32) (u : Unit) => r = 1) (zB D A (fun (u : Unit) => match u with | _ => [(h0, .inr (9, [.int 0, .ref r0, .ref r1, .ref r2, .int 0]))]) (fun (u : Unit) => match u with | _ => [])) A) (va_A [(h0, .inr (9, [.int 0, .ref r0, .ref r1, .ref r2, .int 0]))] sz)) 0 0 (va_A [(h0, .inr (9, [.int 0, .ref r0, .ref r1, .ref r2, .int 0]))] sz) := by
  refine zOfW (QF := fun A => va_Qi (fun (r : Int32) (u : Unit) => r = 1) (zB D A (fun (u : Unit) => match u with | _ => [(h0, .inr (9, [.int 0, .ref r0, .ref r1, .ref r2, .int 0]))]) (fun (u : Unit) => match u with | _ => [])) A) (cc := cX9_endOfToken) (maxL := 3) (ret := (some .int)) (by decide) rfl (Nat.le_of_ble_eq_true rfl) ?_
  intro p e s m below meth c A ls hx hb hr hml hts hown hlocks hin hA hS hP hD hK hN hl
  have hl : lv_has ls 3 [(0, .ref h0), (1, .int 0)] := hl
  refine lv_iload_n hx hb dX9_endOfToken_0 rfl (lv_at hl 1 rfl) ?_
  refine lv_istore_n (lv' := [(2, .int 0), (0, .ref h0), (1, .int 0)]) hx hb dX9_endOfToken_1 rfl hl (by decide) rfl (fun ls hl => ?_)
  refine lv_aload_n hx hb dX9_endOfToken_2 rfl (lv_at hl 1 rfl) ?_
  refine lv_iload_n hx hb dX9_endOfToken_3 rfl (lv_at hl 2 rfl) ?_
  refine zA_i (zR_V (As := [.int 0]) (rest := []) ⟨hx, hb, hml, hown, hts⟩ (zX9_isDigit_1 l D h0 r0 r1 r2 _) (cwV 1 hts gX9_endOfToken_X9_isDigit rfl rfl rfl (by decide +kernel) ⟨(Nat.le_of_ble_eq_true rfl), (Nat.le_of_ble_eq_true rfl)⟩) hP hD hK hN [0] [] rfl (by decide) rfl 0 9 rfl rfl rfl hl.1 rfl (Nat.le_of_ble_eq_true rfl) dX9_endOfToken_4 ⟨(Nat.le_of_ble_eq_true rfl), (Nat.le_of_ble_eq_true rfl)⟩) hP hD hK hS hA [0] [] rfl rfl (by decide) (by decide) (fun r_4 u H locs hw hP hD hK hS => ?_)
  have hK : va_K D vwCl [] s := hK
  have hP : va_P D vwCl [(h0, .inr (9, [.int 0, .ref r0, .ref r1, .ref r2, .int 0]))] H := hP
  have hD : va_D A [(h0, .inr (9, [.int 0, .ref r0, .ref r1, .ref r2, .int 0]))] := hD
  refine W.widen (k := 0) (n := 0) (Nat.le_of_ble_eq_true rfl) (Nat.le_of_ble_eq_true rfl) ?_
  have er : r_4 = 0 := hw
  refine z_top (y := 0) er ?_
  refine lv_if_eq (tgt := 34) hx hb dX9_endOfToken_7 (by decide) (fun _ => ?_) (fun h9 => absurd (by decide) h9)
  refine lv_iload_n hx hb dX9_endOfToken_34 rfl (lv_at hl 0 rfl) ?_
  refine lv_aload_n hx hb dX9_endOfToken_35 rfl (lv_at hl 1 rfl) ?_
  refine va_get (D := D) (ci := 9) (v := .int 0) (C := RX9) (T := TX9) (N := 5) hx hb hts iuX9_endOfToken_X9 hown hK hP 0 rfl rfl 4 (by decide) (hts (.fieldLink RX9 23 "StraitGame$Tokens" "bytes" "I") (List.mem_of_getElem? (i := 1) rfl)) (fun _ h9 => h9) rfl dX9_endOfToken_36 ?_
  refine lv_icmp_ge (tgt := 56) hx hb dX9_endOfToken_39 (by decide) (fun _ => ?_) (fun h9 => absurd (by decide) h9)
  refine lv_iload_n hx hb dX9_endOfToken_56 rfl (lv_at hl 0 rfl) ?_
  refine lv_iload_n hx hb dX9_endOfToken_57 rfl (lv_at hl 2 rfl) ?_
  refine lv_icmp_le (tgt := 65) hx hb dX9_endOfToken_58 (by decide) (fun _ => ?_) (fun h9 => absurd (by decide) h9)
  refine lv_iload_n hx hb dX9_endOfToken_65 rfl (lv_at hl 2 rfl) ?_
  refine lv_iconst (v := 1) hx hb dX9_endOfToken_66 (by decide) ?_
  refine lv_iadd hx hb dX9_endOfToken_67 ?_
  refine z_top (y := 1) (by decide) ?_
  exact zret_i hx hb hr hlocks hP hD hK hS () rfl [0] [] (by decide) rfl rfl (Nat.le_of_ble_eq_true rfl) (Nat.le_of_ble_eq_true rfl) dX9_endOfToken_68
set_option maxHeartbeats 4000000 in
set_option maxRecDepth 100000 in
theorem zX9_kindOf_1 (l : Launch) (D : va_G) (h0 r0 r1 r2 : Nat) (sz : Nat) : Met l yX9_kindOf wsX9_kindOf ({ frames := 0, cells := 0, slots := 0, locals := 0 }) (zPre D [.ref h0, .int 0, .int 1] [(h0, .inr (9, [.int 0, .ref r0, .ref r1, .ref r2, .int 0]))] [] sz) ((fun A => va_Qi (fun (r : Int32) (u : Unit) => r = 0) (zB D A (fun (u : Unit) => match u with | _ => [(h0, .inr (9, [.int 0, .ref r0, .ref r1, .ref r2, .int 0]))]) (fun (u : Unit) => match u with | _ => [])) A) (va_A [(h0, .inr (9, [.int 0, .ref r0, .ref r1, .ref r2, .int 0]))] sz)) 0 0 (va_A [(h0, .inr (9, [.int 0, .ref r0, .ref r1, .ref r2, .int 0]))] sz) := by
  refine zOfW (QF := fun A => va_Qi (fun (r : Int32) (u : Unit) => r = 0) (zB D A (fun (u : Unit) => match u with | _ => [(h0, .inr (9, [.int 0, .ref r0, .ref r1, .ref r2, .int 0]))]) (fun (u : Unit) => match u with | _ => [])) A) (cc := cX9_kindOf) (maxL := 3) (ret := (some .int)) (by decide) rfl (Nat.le_of_ble_eq_true rfl) ?_
  intro p e s m below meth c A ls hx hb hr hml hts hown hlocks hin hA hS hP hD hK hN hl
  have hl : lv_has ls 3 [(0, .ref h0), (1, .int 0), (2, .int 1)] := hl
  refine lv_iload_n hx hb dX9_kindOf_0 rfl (lv_at hl 1 rfl) ?_
  refine lv_aload_n hx hb dX9_kindOf_1 rfl (lv_at hl 0 rfl) ?_
  refine va_get (D := D) (ci := 9) (v := .int 0) (C := RX9) (T := TX9) (N := 5) hx hb hts iuX9_kindOf_X9 hown hK hP 0 rfl rfl 4 (by decide) (hts (.fieldLink RX9 23 "StraitGame$Tokens" "bytes" "I") (List.mem_of_getElem? (i := 1) rfl)) (fun _ h9 => h9) rfl dX9_kindOf_2 ?_
  refine lv_icmp_lt (tgt := 10) hx hb dX9_kindOf_5 (by decide) (fun h9 => absurd h9 (by decide)) (fun _ => ?_)
  refine lv_iconst (v := 0) hx hb dX9_kindOf_8 (by decide) ?_
  exact zret_i hx hb hr hlocks hP hD hK hS () rfl [0] [] (by decide) rfl rfl (Nat.le_of_ble_eq_true rfl) (Nat.le_of_ble_eq_true rfl) dX9_kindOf_9
set_option maxHeartbeats 4000000 in
set_option maxRecDepth 100000 in
theorem zX9_scan_1 (l : Launch) (D : va_G) (h0 h1 h2 h3 : Nat) (k0 k1 k2 : ClassId) (sz : Nat) : Met l yX9_scan wsX9_scan ({ frames := 2, cells := 0, slots := 0, locals := 43 }) (zPre D [.ref h0, .int 0] [(h0, .inr (9, [.int 0, .ref h2, .ref h3, .ref h1, .int 0])), (h1, .inl (k0, 1600, .inl (fun _ => 0))), (h2, .inl (k1, 1601, .inl (fun _ => 0))), (h3, .inl (k2, 1601, .inl (fun _ => 0)))] [(k0, .byte), (k1, .byte), (k2, .int)] sz) ((fun A => va_Qv (fun (u : Unit) => match u with | _ => True) (zB D A (fun (u : Unit) => match u with | _ => [(h0, .inr (9, [.int 1, .ref h2, .ref h3, .ref h1, .int 0])), (h1, .inl (k0, 1600, .inl (fun _ => 0))), (h2, .inl (k1, 1601, .inl (fun _ => 0))), (h3, .inl (k2, 1601, .inl (fun _ => 0)))]) (fun (u : Unit) => match u with | _ => [])) A) (va_A [(h0, .inr (9, [.int 0, .ref h2, .ref h3, .ref h1, .int 0])), (h1, .inl (k0, 1600, .inl (fun _ => 0))), (h2, .inl (k1, 1601, .inl (fun _ => 0))), (h3, .inl (k2, 1601, .inl (fun _ => 0)))] sz)) 0 0 (va_A [(h0, .inr (9, [.int 0, .ref h2, .ref h3, .ref h1, .int 0])), (h1, .inl (k0, 1600, .inl (fun _ => 0))), (h2, .inl (k1, 1601, .inl (fun _ => 0))), (h3, .inl (k2, 1601, .inl (fun _ => 0)))] sz) := by
  refine zOfW (QF := fun A => va_Qv (fun (u : Unit) => match u with | _ => True) (zB D A (fun (u : Unit) => match u with | _ => [(h0, .inr (9, [.int 1, .ref h2, .ref h3, .ref h1, .int 0])), (h1, .inl (k0, 1600, .inl (fun _ => 0))), (h2, .inl (k1, 1601, .inl (fun _ => 0))), (h3, .inl (k2, 1601, .inl (fun _ => 0)))]) (fun (u : Unit) => match u with | _ => [])) A) (cc := cX9_scan) (maxL := 5) (ret := none) (by decide) rfl (Nat.le_of_ble_eq_true rfl) ?_
  intro p e s m below meth c A ls hx hb hr hml hts hown hlocks hin hA hS hP hD hK hN hl
  have hl : lv_has ls 5 [(0, .ref h0), (1, .int 0)] := hl
  refine lv_aload_n hx hb dX9_scan_0 rfl (lv_at hl 0 rfl) ?_
  refine lv_iload_n hx hb dX9_scan_1 rfl (lv_at hl 1 rfl) ?_
  refine lv_aload_n hx hb dX9_scan_2 rfl (lv_at hl 0 rfl) ?_
  refine va_get (D := D) (ci := 9) (v := .ref h1) (C := RX9) (T := TX9) (N := 5) hx hb hts iuX9_scan_X9 hown hK hP 0 rfl rfl 3 (by decide) (hts (.fieldLink RX9 26 "StraitGame$Tokens" "text" "[B") (List.mem_of_getElem? (i := 1) rfl)) (fun _ h9 => h9) rfl dX9_scan_3 ?_
  refine va_alen (v := 1600) hx hb hK hP 1 0 rfl rfl rfl dX9_scan_6 ?_
  refine va_mmin hx hb (hml.trans hl.1.symm) hown (hts (.methodLink RX9 29 Lib.Math.min.name) (List.mem_of_getElem? (i := 2) rfl)) (hts (.static Lib.Math.min.name) (List.mem_of_getElem? (i := 3) rfl)) (hts (.initialized "java/lang/Math") (List.mem_of_getElem? (i := 4) rfl)) (hts (.code Lib.Math.min.name Lib.Math.min.code 2 (some .int)) (List.mem_of_getElem? (i := 5) rfl)) (Nat.le_of_ble_eq_true rfl) (Nat.le_of_ble_eq_true rfl) (Nat.zero_le _) (Nat.zero_le _) dX9_scan_7 ?_
  refine z_top (y := 0) (by decide) ?_
  refine va_put (D := D) (ci := 9) (v := .int 0) (ty := .int) (C := RX9) (T := TX9) (N := 5) hx hb hts iuX9_scan_X9 tyX9 tyX9_ok nmX9 hown hK hP hD hS 0 rfl rfl 4 (by decide) (hts (.fieldLink RX9 23 "StraitGame$Tokens" "bytes" "I") (List.mem_of_getElem? (i := 6) rfl)) (fun _ h9 => h9) rfl (by decide +kernel) rfl rfl (Nat.le_of_ble_eq_true rfl) dX9_scan_10 (fun H locs hP hD hS => ?_)
  have hP : va_P D vwCl [(h0, .inr (9, [.int 0, .ref h2, .ref h3, .ref h1, .int 0])), (h1, .inl (k0, 1600, .inl (fun _ => 0))), (h2, .inl (k1, 1601, .inl (fun _ => 0))), (h3, .inl (k2, 1601, .inl (fun _ => 0)))] H := hP
  have hD : va_D A [(h0, .inr (9, [.int 0, .ref h2, .ref h3, .ref h1, .int 0])), (h1, .inl (k0, 1600, .inl (fun _ => 0))), (h2, .inl (k1, 1601, .inl (fun _ => 0))), (h3, .inl (k2, 1601, .inl (fun _ => 0)))] := hD
  refine lv_aload_n hx hb dX9_scan_13 rfl (lv_at hl 0 rfl) ?_
  refine lv_iconst (v := 0) hx hb dX9_scan_14 (by decide) ?_
  refine va_put (D := D) (ci := 9) (v := .int 0) (ty := .int) (C := RX9) (T := TX9) (N := 5) hx hb hts iuX9_scan_X9 tyX9 tyX9_ok nmX9 hown hK hP hD hS 0 rfl rfl 0 (by decide) (hts (.fieldLink RX9 9 "StraitGame$Tokens" "count" "I") (List.mem_of_getElem? (i := 7) rfl)) (fun _ h9 => h9) rfl (by decide +kernel) rfl rfl (Nat.le_of_ble_eq_true rfl) dX9_scan_15 (fun H locs hP hD hS => ?_)
  have hP : va_P D vwCl [(h0, .inr (9, [.int 0, .ref h2, .ref h3, .ref h1, .int 0])), (h1, .inl (k0, 1600, .inl (fun _ => 0))), (h2, .inl (k1, 1601, .inl (fun _ => 0))), (h3, .inl (k2, 1601, .inl (fun _ => 0)))] H := hP
  have hD : va_D A [(h0, .inr (9, [.int 0, .ref h2, .ref h3, .ref h1, .int 0])), (h1, .inl (k0, 1600, .inl (fun _ => 0))), (h2, .inl (k1, 1601, .inl (fun _ => 0))), (h3, .inl (k2, 1601, .inl (fun _ => 0)))] := hD
  refine lv_iconst (v := 3) hx hb dX9_scan_18 (by decide) ?_
  refine lv_istore_n (lv' := [(2, .int 3), (0, .ref h0), (1, .int 0)]) hx hb dX9_scan_19 rfl hl (by decide) rfl (fun ls hl => ?_)
  refine lv_iconst (v := 0) hx hb dX9_scan_20 (by decide) ?_
  refine lv_istore_n (lv' := [(3, .int 0), (2, .int 3), (0, .ref h0), (1, .int 0)]) hx hb dX9_scan_21 rfl hl (by decide) rfl (fun ls hl => ?_)
  refine lv_aload_n hx hb dX9_scan_22 rfl (lv_at hl 2 rfl) ?_
  refine va_get (D := D) (ci := 9) (v := .int 0) (C := RX9) (T := TX9) (N := 5) hx hb hts iuX9_scan_X9 hown hK hP 0 rfl rfl 0 (by decide) (hts (.fieldLink RX9 9 "StraitGame$Tokens" "count" "I") (List.mem_of_getElem? (i := 7) rfl)) (fun _ h9 => h9) rfl dX9_scan_23 ?_
  refine lv_sipush (v := 1600) hx hb dX9_scan_26 (by decide) ?_
  refine lv_icmp_gt (tgt := 99) hx hb dX9_scan_29 (by decide) (fun h9 => absurd h9 (by decide)) (fun _ => ?_)
  refine lv_iload_n hx hb dX9_scan_32 rfl (lv_at hl 1 rfl) ?_
  refine lv_if_eq (tgt := 99) hx hb dX9_scan_33 (by decide) (fun h9 => absurd h9 (by decide)) (fun _ => ?_)
  refine lv_iload_n hx hb dX9_scan_36 rfl (lv_at hl 1 rfl) ?_
  refine lv_iconst (v := 1) hx hb dX9_scan_37 (by decide) ?_
  refine lv_icmp_eq (tgt := 99) hx hb dX9_scan_38 (by decide) (fun h9 => absurd h9 (by decide)) (fun _ => ?_)
  refine lv_aload_n hx hb dX9_scan_41 rfl (lv_at hl 2 rfl) ?_
  refine lv_iload_n hx hb dX9_scan_42 rfl (lv_at hl 0 rfl) ?_
  refine zA_i (zR_V (As := [.int 0]) (rest := []) ⟨hx, hb, hml, hown, hts⟩ (zX9_endOfBlanks_1 l D h0 h2 h3 h1 _) (cwV 1 hts gX9_scan_X9_endOfBlanks rfl rfl rfl (by decide +kernel) ⟨(Nat.le_of_ble_eq_true rfl), (Nat.le_of_ble_eq_true rfl)⟩) hP hD hK hN [0] [] rfl (by decide) rfl 0 9 rfl rfl rfl hl.1 rfl (Nat.le_of_ble_eq_true rfl) dX9_scan_43 ⟨(Nat.le_of_ble_eq_true rfl), (Nat.le_of_ble_eq_true rfl)⟩) hP hD hK hS hA [0] [1, 2, 3] rfl rfl (by decide) (by decide) (fun r_11 u H locs hw hP hD hK hS => ?_)
  have hK : va_K D vwCl [(k0, .byte), (k1, .byte), (k2, .int)] s := hK
  have hP : va_P D vwCl [(h1, .inl (k0, 1600, .inl (fun _ => 0))), (h2, .inl (k1, 1601, .inl (fun _ => 0))), (h3, .inl (k2, 1601, .inl (fun _ => 0))), (h0, .inr (9, [.int 0, .ref h2, .ref h3, .ref h1, .int 0]))] H := hP
  have hD : va_D A [(h1, .inl (k0, 1600, .inl (fun _ => 0))), (h2, .inl (k1, 1601, .inl (fun _ => 0))), (h3, .inl (k2, 1601, .inl (fun _ => 0))), (h0, .inr (9, [.int 0, .ref h2, .ref h3, .ref h1, .int 0]))] := hD
  refine W.widen (k := 0) (n := 0) (Nat.le_of_ble_eq_true rfl) (Nat.le_of_ble_eq_true rfl) ?_
  have er : r_11 = 0 := hw
  refine z_top (y := 0) er ?_
  refine lv_istore_n (lv' := [(3, .int 0), (2, .int 3), (0, .ref h0), (1, .int 0)]) hx hb dX9_scan_46 rfl hl (by decide) rfl (fun ls hl => ?_)
  refine lv_aload_n hx hb dX9_scan_47 rfl (lv_at hl 2 rfl) ?_
  refine lv_iload_n hx hb dX9_scan_48 rfl (lv_at hl 0 rfl) ?_
  refine zA_i (zR_V (As := [.int 0]) (rest := []) ⟨hx, hb, hml, hown, hts⟩ (zX9_endOfToken_1 l D h0 h2 h3 h1 _) (cwV 1 hts gX9_scan_X9_endOfToken rfl rfl rfl (by decide +kernel) ⟨(Nat.le_of_ble_eq_true rfl), (Nat.le_of_ble_eq_true rfl)⟩) hP hD hK hN [3] [] rfl (by decide) rfl 0 9 rfl rfl rfl hl.1 rfl (Nat.le_of_ble_eq_true rfl) dX9_scan_49 ⟨(Nat.le_of_ble_eq_true rfl), (Nat.le_of_ble_eq_true rfl)⟩) hP hD hK hS hA [3] [0, 1, 2] rfl rfl (by decide) (by decide) (fun r_13 u H locs hw hP hD hK hS => ?_)
  have hK : va_K D vwCl [(k0, .byte), (k1, .byte), (k2, .int)] s := hK
  have hP : va_P D vwCl [(h1, .inl (k0, 1600, .inl (fun _ => 0))), (h2, .inl (k1, 1601, .inl (fun _ => 0))), (h3, .inl (k2, 1601, .inl (fun _ => 0))), (h0, .inr (9, [.int 0, .ref h2, .ref h3, .ref h1, .int 0]))] H := hP
  have hD : va_D A [(h1, .inl (k0, 1600, .inl (fun _ => 0))), (h2, .inl (k1, 1601, .inl (fun _ => 0))), (h3, .inl (k2, 1601, .inl (fun _ => 0))), (h0, .inr (9, [.int 0, .ref h2, .ref h3, .ref h1, .int 0]))] := hD
  refine W.widen (k := 0) (n := 0) (Nat.le_of_ble_eq_true rfl) (Nat.le_of_ble_eq_true rfl) ?_
  have er : r_13 = 1 := hw
  refine z_top (y := 1) er ?_
  refine lv_istore (lv' := [(4, .int 1), (3, .int 0), (2, .int 3), (0, .ref h0), (1, .int 0)]) hx hb dX9_scan_52 hl (by decide) rfl (fun ls hl => ?_)
  refine lv_aload_n hx hb dX9_scan_54 rfl (lv_at hl 3 rfl) ?_
  refine lv_iload_n hx hb dX9_scan_55 rfl (lv_at hl 1 rfl) ?_
  refine lv_iload hx hb dX9_scan_56 (lv_at hl 0 rfl) ?_
  refine zA_i (zR_V (As := [.int 0, .int 1]) (rest := []) ⟨hx, hb, hml, hown, hts⟩ (zX9_kindOf_1 l D h0 h2 h3 h1 _) (cwV 2 hts gX9_scan_X9_kindOf rfl rfl rfl (by decide +kernel) ⟨(Nat.le_of_ble_eq_true rfl), (Nat.le_of_ble_eq_true rfl)⟩) hP hD hK hN [3] [] rfl (by decide) rfl 0 9 rfl rfl rfl hl.1 rfl (Nat.le_of_ble_eq_true rfl) dX9_scan_58 ⟨(Nat.le_of_ble_eq_true rfl), (Nat.le_of_ble_eq_true rfl)⟩) hP hD hK hS hA [3] [0, 1, 2] rfl rfl (by decide) (by decide) (fun r_14 u H locs hw hP hD hK hS => ?_)
  have hK : va_K D vwCl [(k0, .byte), (k1, .byte), (k2, .int)] s := hK
  have hP : va_P D vwCl [(h1, .inl (k0, 1600, .inl (fun _ => 0))), (h2, .inl (k1, 1601, .inl (fun _ => 0))), (h3, .inl (k2, 1601, .inl (fun _ => 0))), (h0, .inr (9, [.int 0, .ref h2, .ref h3, .ref h1, .int 0]))] H := hP
  have hD : va_D A [(h1, .inl (k0, 1600, .inl (fun _ => 0))), (h2, .inl (k1, 1601, .inl (fun _ => 0))), (h3, .inl (k2, 1601, .inl (fun _ => 0))), (h0, .inr (9, [.int 0, .ref h2, .ref h3, .ref h1, .int 0]))] := hD
  refine W.widen (k := 0) (n := 0) (Nat.le_of_ble_eq_true rfl) (Nat.le_of_ble_eq_true rfl) ?_
  have er : r_14 = 0 := hw
  refine z_top (y := 0) er ?_
  refine lv_istore_n (lv' := [(2, .int 0), (4, .int 1), (3, .int 0), (0, .ref h0), (1, .int 0)]) hx hb dX9_scan_61 rfl hl (by decide) rfl (fun ls hl => ?_)
  refine lv_aload_n hx hb dX9_scan_62 rfl (lv_at hl 3 rfl) ?_
  refine va_get (D := D) (ci := 9) (v := .ref h2) (C := RX9) (T := TX9) (N := 5) hx hb hts iuX9_scan_X9 hown hK hP 3 rfl rfl 1 (by decide) (hts (.fieldLink RX9 15 "StraitGame$Tokens" "kinds" "[B") (List.mem_of_getElem? (i := 8) rfl)) (fun _ h9 => h9) rfl dX9_scan_63 ?_
  refine lv_aload_n hx hb dX9_scan_66 rfl (lv_at hl 3 rfl) ?_
  refine va_get (D := D) (ci := 9) (v := .int 0) (C := RX9) (T := TX9) (N := 5) hx hb hts iuX9_scan_X9 hown hK hP 3 rfl rfl 0 (by decide) (hts (.fieldLink RX9 9 "StraitGame$Tokens" "count" "I") (List.mem_of_getElem? (i := 7) rfl)) (fun _ h9 => h9) rfl dX9_scan_67 ?_
  refine lv_iload_n hx hb dX9_scan_70 rfl (lv_at hl 0 rfl) ?_
  refine lv_i2b (v := 0) hx hb dX9_scan_71 (by decide) ?_
  refine va_bast hx hb hK hP hD hS 1 1 rfl rfl (z_in (by decide)) dX9_scan_72 (fun H locs hP hD hS => ?_)
  have e9 : (upd (fun _ => 0) 0 0 : Nat → Int32) = (fun _ => 0) := z_upd0 0
  have hP : va_P D vwCl [(h1, .inl (k0, 1600, .inl (fun _ => 0))), (h2, .inl (k1, 1601, .inl (upd (fun _ => 0) 0 0))), (h3, .inl (k2, 1601, .inl (fun _ => 0))), (h0, .inr (9, [.int 0, .ref h2, .ref h3, .ref h1, .int 0]))] H := hP
  have hD : va_D A [(h1, .inl (k0, 1600, .inl (fun _ => 0))), (h2, .inl (k1, 1601, .inl (upd (fun _ => 0) 0 0))), (h3, .inl (k2, 1601, .inl (fun _ => 0))), (h0, .inr (9, [.int 0, .ref h2, .ref h3, .ref h1, .int 0]))] := hD
  rw [e9] at hP hD
  refine lv_aload_n hx hb dX9_scan_73 rfl (lv_at hl 3 rfl) ?_
  refine va_get (D := D) (ci := 9) (v := .ref h3) (C := RX9) (T := TX9) (N := 5) hx hb hts iuX9_scan_X9 hown hK hP 3 rfl rfl 2 (by decide) (hts (.fieldLink RX9 19 "StraitGame$Tokens" "places" "[I") (List.mem_of_getElem? (i := 9) rfl)) (fun _ h9 => h9) rfl dX9_scan_74 ?_
  refine lv_aload_n hx hb dX9_scan_77 rfl (lv_at hl 3 rfl) ?_
  refine va_get (D := D) (ci := 9) (v := .int 0) (C := RX9) (T := TX9) (N := 5) hx hb hts iuX9_scan_X9 hown hK hP 3 rfl rfl 0 (by decide) (hts (.fieldLink RX9 9 "StraitGame$Tokens" "count" "I") (List.mem_of_getElem? (i := 7) rfl)) (fun _ h9 => h9) rfl dX9_scan_78 ?_
  refine lv_iload_n hx hb dX9_scan_81 rfl (lv_at hl 2 rfl) ?_
  refine va_iast hx hb hK hP hD hS 2 2 rfl rfl (z_in (by decide)) dX9_scan_82 (fun H locs hP hD hS => ?_)
  have e9 : (upd (fun _ => 0) 0 0 : Nat → Int32) = (fun _ => 0) := z_upd0 0
  have hP : va_P D vwCl [(h1, .inl (k0, 1600, .inl (fun _ => 0))), (h2, .inl (k1, 1601, .inl (fun _ => 0))), (h3, .inl (k2, 1601, .inl (upd (fun _ => 0) 0 0))), (h0, .inr (9, [.int 0, .ref h2, .ref h3, .ref h1, .int 0]))] H := hP
  have hD : va_D A [(h1, .inl (k0, 1600, .inl (fun _ => 0))), (h2, .inl (k1, 1601, .inl (fun _ => 0))), (h3, .inl (k2, 1601, .inl (upd (fun _ => 0) 0 0))), (h0, .inr (9, [.int 0, .ref h2, .ref h3, .ref h1, .int 0]))] := hD
  rw [e9] at hP hD
  refine lv_aload_n hx hb dX9_scan_83 rfl (lv_at hl 3 rfl) ?_
  refine lv_dup hx hb dX9_scan_84 rfl ?_
  refine va_get (D := D) (ci := 9) (v := .int 0) (C := RX9) (T := TX9) (N := 5) hx hb hts iuX9_scan_X9 hown hK hP 3 rfl rfl 0 (by decide) (hts (.fieldLink RX9 9 "StraitGame$Tokens" "count" "I") (List.mem_of_getElem? (i := 7) rfl)) (fun _ h9 => h9) rfl dX9_scan_85 ?_
  refine lv_iconst (v := 1) hx hb dX9_scan_88 (by decide) ?_
  refine lv_iadd hx hb dX9_scan_89 ?_
  refine z_top (y := 1) (by decide) ?_
  refine va_put (D := D) (ci := 9) (v := .int 1) (ty := .int) (C := RX9) (T := TX9) (N := 5) hx hb hts iuX9_scan_X9 tyX9 tyX9_ok nmX9 hown hK hP hD hS 3 rfl rfl 0 (by decide) (hts (.fieldLink RX9 9 "StraitGame$Tokens" "count" "I") (List.mem_of_getElem? (i := 7) rfl)) (fun _ h9 => h9) rfl (by decide +kernel) rfl rfl (Nat.le_of_ble_eq_true rfl) dX9_scan_90 (fun H locs hP hD hS => ?_)
  have hP : va_P D vwCl [(h1, .inl (k0, 1600, .inl (fun _ => 0))), (h2, .inl (k1, 1601, .inl (fun _ => 0))), (h3, .inl (k2, 1601, .inl (fun _ => 0))), (h0, .inr (9, [.int 1, .ref h2, .ref h3, .ref h1, .int 0]))] H := hP
  have hD : va_D A [(h1, .inl (k0, 1600, .inl (fun _ => 0))), (h2, .inl (k1, 1601, .inl (fun _ => 0))), (h3, .inl (k2, 1601, .inl (fun _ => 0))), (h0, .inr (9, [.int 1, .ref h2, .ref h3, .ref h1, .int 0]))] := hD
  refine lv_iload hx hb dX9_scan_93 (lv_at hl 1 rfl) ?_
  refine lv_istore_n (lv' := [(3, .int 1), (2, .int 0), (4, .int 1), (0, .ref h0), (1, .int 0)]) hx hb dX9_scan_95 rfl hl (by decide) rfl (fun ls hl => ?_)
  refine lv_goto (tgt := 22) hx hb dX9_scan_96 (by decide) ?_
  refine lv_aload_n hx hb dX9_scan_22 rfl (lv_at hl 3 rfl) ?_
  refine va_get (D := D) (ci := 9) (v := .int 1) (C := RX9) (T := TX9) (N := 5) hx hb hts iuX9_scan_X9 hown hK hP 3 rfl rfl 0 (by decide) (hts (.fieldLink RX9 9 "StraitGame$Tokens" "count" "I") (List.mem_of_getElem? (i := 7) rfl)) (fun _ h9 => h9) rfl dX9_scan_23 ?_
  refine lv_sipush (v := 1600) hx hb dX9_scan_26 (by decide) ?_
  refine lv_icmp_gt (tgt := 99) hx hb dX9_scan_29 (by decide) (fun h9 => absurd h9 (by decide)) (fun _ => ?_)
  refine lv_iload_n hx hb dX9_scan_32 rfl (lv_at hl 1 rfl) ?_
  refine lv_if_eq (tgt := 99) hx hb dX9_scan_33 (by decide) (fun _ => ?_) (fun h9 => absurd (by decide) h9)
  exact zret_v hx hb hr hlocks hP hD hK hS () trivial [3, 0, 1, 2] [] (by decide) rfl rfl (Nat.le_of_ble_eq_true rfl) (Nat.le_of_ble_eq_true rfl) dX9_scan_99
set_option maxHeartbeats 4000000 in
set_option maxRecDepth 100000 in
theorem zX5_look_1 (l : Launch) (D : va_G) (h0 h1 h2 h3 r0 r1 r2 : Nat) (k0 k1 : ClassId) (sz : Nat) : Met l yX5_look wsX5_look ({ frames := 0, cells := 0, slots := 0, locals := 0 }) (zPre D [.ref h0] [(h0, .inr (5, [.int 0, .int (-1), .ref h1, .ref r0, .int 0, .int 0, .int 0, .int 0, .int 0, .ref r1])), (h1, .inr (9, [.int 1, .ref h2, .ref h3, .ref r2, .int 0])), (h2, .inl (k0, 1601, .inl (fun _ => 0))), (h3, .inl (k1, 1601, .inl (fun _ => 0)))] [(k0, .byte), (k1, .int)] sz) ((fun A => va_Qv (fun (u : Unit) => match u with | _ => True) (zB D A (fun (u : Unit) => match u with | _ => [(h0, .inr (5, [.int 0, .int (-1), .ref h1, .ref r0, .int 0, .int 0, .int 0, .int 0, .int 0, .ref r1])), (h1, .inr (9, [.int 1, .ref h2, .ref h3, .ref r2, .int 0])), (h2, .inl (k0, 1601, .inl (fun _ => 0))), (h3, .inl (k1, 1601, .inl (fun _ => 0)))]) (fun (u : Unit) => match u with | _ => [])) A) (va_A [(h0, .inr (5, [.int 0, .int (-1), .ref h1, .ref r0, .int 0, .int 0, .int 0, .int 0, .int 0, .ref r1])), (h1, .inr (9, [.int 1, .ref h2, .ref h3, .ref r2, .int 0])), (h2, .inl (k0, 1601, .inl (fun _ => 0))), (h3, .inl (k1, 1601, .inl (fun _ => 0)))] sz)) 0 0 (va_A [(h0, .inr (5, [.int 0, .int (-1), .ref h1, .ref r0, .int 0, .int 0, .int 0, .int 0, .int 0, .ref r1])), (h1, .inr (9, [.int 1, .ref h2, .ref h3, .ref r2, .int 0])), (h2, .inl (k0, 1601, .inl (fun _ => 0))), (h3, .inl (k1, 1601, .inl (fun _ => 0)))] sz) := by
  refine zOfW (QF := fun A => va_Qv (fun (u : Unit) => match u with | _ => True) (zB D A (fun (u : Unit) => match u with | _ => [(h0, .inr (5, [.int 0, .int (-1), .ref h1, .ref r0, .int 0, .int 0, .int 0, .int 0, .int 0, .ref r1])), (h1, .inr (9, [.int 1, .ref h2, .ref h3, .ref r2, .int 0])), (h2, .inl (k0, 1601, .inl (fun _ => 0))), (h3, .inl (k1, 1601, .inl (fun _ => 0)))]) (fun (u : Unit) => match u with | _ => [])) A) (cc := cX5_look) (maxL := 1) (ret := none) (by decide) rfl (Nat.le_of_ble_eq_true rfl) ?_
  intro p e s m below meth c A ls hx hb hr hml hts hown hlocks hin hA hS hP hD hK hN hl
  have hl : lv_has ls 1 [(0, .ref h0)] := hl
  refine lv_aload_n hx hb dX5_look_0 rfl (lv_at hl 0 rfl) ?_
  refine va_get (D := D) (ci := 5) (v := .int 0) (C := RX5) (T := TX5) (N := 10) hx hb hts iuX5_look_X5 hown hK hP 0 rfl rfl 4 (by decide) (hts (.fieldLink RX5 18 "StraitGame$Reader" "token" "I") (List.mem_of_getElem? (i := 1) rfl)) (fun _ h9 => h9) rfl dX5_look_1 ?_
  refine lv_aload_n hx hb dX5_look_4 rfl (lv_at hl 0 rfl) ?_
  refine va_get (D := D) (ci := 5) (v := .ref h1) (C := RX5) (T := TX5) (N := 10) hx hb hts iuX5_look_X5 hown hK hP 0 rfl rfl 2 (by decide) (hts (.fieldLink RX5 42 "StraitGame$Reader" "tokens" "LStraitGame$Tokens;") (List.mem_of_getElem? (i := 2) rfl)) (fun _ h9 => h9) rfl dX5_look_5 ?_
  refine va_get (D := D) (ci := 9) (v := .int 1) (C := RX9) (T := TX9) (N := 5) hx hb hts iuX5_look_X9 hown hK hP 1 rfl rfl 0 (by decide) (hts (.fieldLink RX5 61 "StraitGame$Tokens" "count" "I") (List.mem_of_getElem? (i := 3) rfl)) (fun _ h9 => h9) rfl dX5_look_8 ?_
  refine lv_icmp_ge (tgt := 46) hx hb dX5_look_11 (by decide) (fun h9 => absurd h9 (by decide)) (fun _ => ?_)
  refine lv_aload_n hx hb dX5_look_14 rfl (lv_at hl 0 rfl) ?_
  refine lv_aload_n hx hb dX5_look_15 rfl (lv_at hl 0 rfl) ?_
  refine va_get (D := D) (ci := 5) (v := .ref h1) (C := RX5) (T := TX5) (N := 10) hx hb hts iuX5_look_X5 hown hK hP 0 rfl rfl 2 (by decide) (hts (.fieldLink RX5 42 "StraitGame$Reader" "tokens" "LStraitGame$Tokens;") (List.mem_of_getElem? (i := 2) rfl)) (fun _ h9 => h9) rfl dX5_look_16 ?_
  refine va_get (D := D) (ci := 9) (v := .ref h2) (C := RX9) (T := TX9) (N := 5) hx hb hts iuX5_look_X9 hown hK hP 1 rfl rfl 1 (by decide) (hts (.fieldLink RX5 64 "StraitGame$Tokens" "kinds" "[B") (List.mem_of_getElem? (i := 4) rfl)) (fun _ h9 => h9) rfl dX5_look_19 ?_
  refine lv_aload_n hx hb dX5_look_22 rfl (lv_at hl 0 rfl) ?_
  refine va_get (D := D) (ci := 5) (v := .int 0) (C := RX5) (T := TX5) (N := 10) hx hb hts iuX5_look_X5 hown hK hP 0 rfl rfl 4 (by decide) (hts (.fieldLink RX5 18 "StraitGame$Reader" "token" "I") (List.mem_of_getElem? (i := 1) rfl)) (fun _ h9 => h9) rfl dX5_look_23 ?_
  refine va_bald hx hb hK hP 2 0 rfl rfl (z_in (by decide)) dX5_look_26 ?_
  refine z_top (y := 0) rfl ?_
  refine va_put (D := D) (ci := 5) (v := .int 0) (ty := .int) (C := RX5) (T := TX5) (N := 10) hx hb hts iuX5_look_X5 tyX5 tyX5_ok nmX5 hown hK hP hD hS 0 rfl rfl 5 (by decide) (hts (.fieldLink RX5 23 "StraitGame$Reader" "kind" "I") (List.mem_of_getElem? (i := 5) rfl)) (fun _ h9 => h9) rfl (by decide +kernel) rfl rfl (Nat.le_of_ble_eq_true rfl) dX5_look_27 (fun H locs hP hD hS => ?_)
  have hP : va_P D vwCl [(h0, .inr (5, [.int 0, .int (-1), .ref h1, .ref r0, .int 0, .int 0, .int 0, .int 0, .int 0, .ref r1])), (h1, .inr (9, [.int 1, .ref h2, .ref h3, .ref r2, .int 0])), (h2, .inl (k0, 1601, .inl (fun _ => 0))), (h3, .inl (k1, 1601, .inl (fun _ => 0)))] H := hP
  have hD : va_D A [(h0, .inr (5, [.int 0, .int (-1), .ref h1, .ref r0, .int 0, .int 0, .int 0, .int 0, .int 0, .ref r1])), (h1, .inr (9, [.int 1, .ref h2, .ref h3, .ref r2, .int 0])), (h2, .inl (k0, 1601, .inl (fun _ => 0))), (h3, .inl (k1, 1601, .inl (fun _ => 0)))] := hD
  refine lv_aload_n hx hb dX5_look_30 rfl (lv_at hl 0 rfl) ?_
  refine lv_aload_n hx hb dX5_look_31 rfl (lv_at hl 0 rfl) ?_
  refine va_get (D := D) (ci := 5) (v := .ref h1) (C := RX5) (T := TX5) (N := 10) hx hb hts iuX5_look_X5 hown hK hP 0 rfl rfl 2 (by decide) (hts (.fieldLink RX5 42 "StraitGame$Reader" "tokens" "LStraitGame$Tokens;") (List.mem_of_getElem? (i := 2) rfl)) (fun _ h9 => h9) rfl dX5_look_32 ?_
  refine va_get (D := D) (ci := 9) (v := .ref h3) (C := RX9) (T := TX9) (N := 5) hx hb hts iuX5_look_X9 hown hK hP 1 rfl rfl 2 (by decide) (hts (.fieldLink RX5 68 "StraitGame$Tokens" "places" "[I") (List.mem_of_getElem? (i := 6) rfl)) (fun _ h9 => h9) rfl dX5_look_35 ?_
  refine lv_aload_n hx hb dX5_look_38 rfl (lv_at hl 0 rfl) ?_
  refine va_get (D := D) (ci := 5) (v := .int 0) (C := RX5) (T := TX5) (N := 10) hx hb hts iuX5_look_X5 hown hK hP 0 rfl rfl 4 (by decide) (hts (.fieldLink RX5 18 "StraitGame$Reader" "token" "I") (List.mem_of_getElem? (i := 1) rfl)) (fun _ h9 => h9) rfl dX5_look_39 ?_
  refine va_iald hx hb hK hP 3 1 rfl rfl (z_in (by decide)) dX5_look_42 ?_
  refine z_top (y := 0) rfl ?_
  refine va_put (D := D) (ci := 5) (v := .int 0) (ty := .int) (C := RX5) (T := TX5) (N := 10) hx hb hts iuX5_look_X5 tyX5 tyX5_ok nmX5 hown hK hP hD hS 0 rfl rfl 6 (by decide) (hts (.fieldLink RX5 26 "StraitGame$Reader" "place" "I") (List.mem_of_getElem? (i := 7) rfl)) (fun _ h9 => h9) rfl (by decide +kernel) rfl rfl (Nat.le_of_ble_eq_true rfl) dX5_look_43 (fun H locs hP hD hS => ?_)
  have hP : va_P D vwCl [(h0, .inr (5, [.int 0, .int (-1), .ref h1, .ref r0, .int 0, .int 0, .int 0, .int 0, .int 0, .ref r1])), (h1, .inr (9, [.int 1, .ref h2, .ref h3, .ref r2, .int 0])), (h2, .inl (k0, 1601, .inl (fun _ => 0))), (h3, .inl (k1, 1601, .inl (fun _ => 0)))] H := hP
  have hD : va_D A [(h0, .inr (5, [.int 0, .int (-1), .ref h1, .ref r0, .int 0, .int 0, .int 0, .int 0, .int 0, .ref r1])), (h1, .inr (9, [.int 1, .ref h2, .ref h3, .ref r2, .int 0])), (h2, .inl (k0, 1601, .inl (fun _ => 0))), (h3, .inl (k1, 1601, .inl (fun _ => 0)))] := hD
  exact zret_v hx hb hr hlocks hP hD hK hS () trivial [0, 1, 2, 3] [] (by decide) rfl rfl (Nat.le_of_ble_eq_true rfl) (Nat.le_of_ble_eq_true rfl) dX5_look_46
set_option maxHeartbeats 4000000 in
set_option maxRecDepth 100000 in
theorem zX5_read_1 (l : Launch) (D : va_G) (h0 h1 h2 h3 h4 r0 r1 : Nat) (k0 k1 k2 : ClassId) (sz : Nat) : Met l yX5_read wsX5_read ({ frames := 3, cells := 0, slots := 0, locals := 67 }) (zPre D [.ref h0, .int 0, .ref r0] [(h0, .inr (5, [.int 0, .int (-1), .ref h1, .ref r0, .int 0, .int 0, .int 0, .int 0, .int 0, .ref r1])), (h1, .inr (9, [.int 0, .ref h3, .ref h4, .ref h2, .int 0])), (h2, .inl (k0, 1600, .inl (fun _ => 0))), (h3, .inl (k1, 1601, .inl (fun _ => 0))), (h4, .inl (k2, 1601, .inl (fun _ => 0)))] [(k0, .byte), (k1, .byte), (k2, .int)] sz) ((fun A => va_Qi (fun (r : Int32) (u : Unit) => r = 1) (zB D A (fun (u : Unit) => match u with | _ => [(h0, .inr (5, [.int 0, .int (-1), .ref h1, .ref r0, .int 0, .int 0, .int 0, .int 0, .int 0, .ref r1])), (h1, .inr (9, [.int 1, .ref h3, .ref h4, .ref h2, .int 0])), (h2, .inl (k0, 1600, .inl (fun _ => 0))), (h3, .inl (k1, 1601, .inl (fun _ => 0))), (h4, .inl (k2, 1601, .inl (fun _ => 0)))]) (fun (u : Unit) => match u with | _ => [])) A) (va_A [(h0, .inr (5, [.int 0, .int (-1), .ref h1, .ref r0, .int 0, .int 0, .int 0, .int 0, .int 0, .ref r1])), (h1, .inr (9, [.int 0, .ref h3, .ref h4, .ref h2, .int 0])), (h2, .inl (k0, 1600, .inl (fun _ => 0))), (h3, .inl (k1, 1601, .inl (fun _ => 0))), (h4, .inl (k2, 1601, .inl (fun _ => 0)))] sz)) 0 0 (va_A [(h0, .inr (5, [.int 0, .int (-1), .ref h1, .ref r0, .int 0, .int 0, .int 0, .int 0, .int 0, .ref r1])), (h1, .inr (9, [.int 0, .ref h3, .ref h4, .ref h2, .int 0])), (h2, .inl (k0, 1600, .inl (fun _ => 0))), (h3, .inl (k1, 1601, .inl (fun _ => 0))), (h4, .inl (k2, 1601, .inl (fun _ => 0)))] sz) := by
  refine zOfW (QF := fun A => va_Qi (fun (r : Int32) (u : Unit) => r = 1) (zB D A (fun (u : Unit) => match u with | _ => [(h0, .inr (5, [.int 0, .int (-1), .ref h1, .ref r0, .int 0, .int 0, .int 0, .int 0, .int 0, .ref r1])), (h1, .inr (9, [.int 1, .ref h3, .ref h4, .ref h2, .int 0])), (h2, .inl (k0, 1600, .inl (fun _ => 0))), (h3, .inl (k1, 1601, .inl (fun _ => 0))), (h4, .inl (k2, 1601, .inl (fun _ => 0)))]) (fun (u : Unit) => match u with | _ => [])) A) (cc := cX5_read) (maxL := 4) (ret := (some .boolean)) (by decide) rfl (Nat.le_of_ble_eq_true rfl) ?_
  intro p e s m below meth c A ls hx hb hr hml hts hown hlocks hin hA hS hP hD hK hN hl
  have hl : lv_has ls 4 [(0, .ref h0), (1, .int 0), (2, .ref r0)] := hl
  refine lv_aload_n hx hb dX5_read_0 rfl (lv_at hl 0 rfl) ?_
  refine lv_aload_n hx hb dX5_read_1 rfl (lv_at hl 2 rfl) ?_
  refine va_put (D := D) (ci := 5) (v := .ref r0) (ty := (tyX5 3)) (C := RX5) (T := TX5) (N := 10) hx hb hts iuX5_read_X5 tyX5 tyX5_ok nmX5 hown hK hP hD hS 0 rfl rfl 3 (by decide) (hts (.fieldLink RX5 46 "StraitGame$Reader" "told" "LStraitGame$Told;") (List.mem_of_getElem? (i := 1) rfl)) (fun _ h9 => h9) rfl (by decide +kernel) rfl rfl (Nat.le_of_ble_eq_true rfl) dX5_read_2 (fun H locs hP hD hS => ?_)
  have hP : va_P D vwCl [(h0, .inr (5, [.int 0, .int (-1), .ref h1, .ref r0, .int 0, .int 0, .int 0, .int 0, .int 0, .ref r1])), (h1, .inr (9, [.int 0, .ref h3, .ref h4, .ref h2, .int 0])), (h2, .inl (k0, 1600, .inl (fun _ => 0))), (h3, .inl (k1, 1601, .inl (fun _ => 0))), (h4, .inl (k2, 1601, .inl (fun _ => 0)))] H := hP
  have hD : va_D A [(h0, .inr (5, [.int 0, .int (-1), .ref h1, .ref r0, .int 0, .int 0, .int 0, .int 0, .int 0, .ref r1])), (h1, .inr (9, [.int 0, .ref h3, .ref h4, .ref h2, .int 0])), (h2, .inl (k0, 1600, .inl (fun _ => 0))), (h3, .inl (k1, 1601, .inl (fun _ => 0))), (h4, .inl (k2, 1601, .inl (fun _ => 0)))] := hD
  refine lv_aload_n hx hb dX5_read_5 rfl (lv_at hl 0 rfl) ?_
  refine lv_iconst (v := 0) hx hb dX5_read_6 (by decide) ?_
  refine va_put (D := D) (ci := 5) (v := .int 0) (ty := .int) (C := RX5) (T := TX5) (N := 10) hx hb hts iuX5_read_X5 tyX5 tyX5_ok nmX5 hown hK hP hD hS 0 rfl rfl 0 (by decide) (hts (.fieldLink RX5 9 "StraitGame$Reader" "fault" "I") (List.mem_of_getElem? (i := 2) rfl)) (fun _ h9 => h9) rfl (by decide +kernel) rfl rfl (Nat.le_of_ble_eq_true rfl) dX5_read_7 (fun H locs hP hD hS => ?_)
  have hP : va_P D vwCl [(h0, .inr (5, [.int 0, .int (-1), .ref h1, .ref r0, .int 0, .int 0, .int 0, .int 0, .int 0, .ref r1])), (h1, .inr (9, [.int 0, .ref h3, .ref h4, .ref h2, .int 0])), (h2, .inl (k0, 1600, .inl (fun _ => 0))), (h3, .inl (k1, 1601, .inl (fun _ => 0))), (h4, .inl (k2, 1601, .inl (fun _ => 0)))] H := hP
  have hD : va_D A [(h0, .inr (5, [.int 0, .int (-1), .ref h1, .ref r0, .int 0, .int 0, .int 0, .int 0, .int 0, .ref r1])), (h1, .inr (9, [.int 0, .ref h3, .ref h4, .ref h2, .int 0])), (h2, .inl (k0, 1600, .inl (fun _ => 0))), (h3, .inl (k1, 1601, .inl (fun _ => 0))), (h4, .inl (k2, 1601, .inl (fun _ => 0)))] := hD
  refine lv_aload_n hx hb dX5_read_10 rfl (lv_at hl 0 rfl) ?_
  refine lv_iconst (v := (-1)) hx hb dX5_read_11 (by decide) ?_
  refine va_put (D := D) (ci := 5) (v := .int (-1)) (ty := .int) (C := RX5) (T := TX5) (N := 10) hx hb hts iuX5_read_X5 tyX5 tyX5_ok nmX5 hown hK hP hD hS 0 rfl rfl 1 (by decide) (hts (.fieldLink RX5 15 "StraitGame$Reader" "faultPlace" "I") (List.mem_of_getElem? (i := 3) rfl)) (fun _ h9 => h9) rfl (by decide +kernel) rfl rfl (Nat.le_of_ble_eq_true rfl) dX5_read_12 (fun H locs hP hD hS => ?_)
  have hP : va_P D vwCl [(h0, .inr (5, [.int 0, .int (-1), .ref h1, .ref r0, .int 0, .int 0, .int 0, .int 0, .int 0, .ref r1])), (h1, .inr (9, [.int 0, .ref h3, .ref h4, .ref h2, .int 0])), (h2, .inl (k0, 1600, .inl (fun _ => 0))), (h3, .inl (k1, 1601, .inl (fun _ => 0))), (h4, .inl (k2, 1601, .inl (fun _ => 0)))] H := hP
  have hD : va_D A [(h0, .inr (5, [.int 0, .int (-1), .ref h1, .ref r0, .int 0, .int 0, .int 0, .int 0, .int 0, .ref r1])), (h1, .inr (9, [.int 0, .ref h3, .ref h4, .ref h2, .int 0])), (h2, .inl (k0, 1600, .inl (fun _ => 0))), (h3, .inl (k1, 1601, .inl (fun _ => 0))), (h4, .inl (k2, 1601, .inl (fun _ => 0)))] := hD
  refine lv_aload_n hx hb dX5_read_15 rfl (lv_at hl 0 rfl) ?_
  refine va_get (D := D) (ci := 5) (v := .ref h1) (C := RX5) (T := TX5) (N := 10) hx hb hts iuX5_read_X5 hown hK hP 0 rfl rfl 2 (by decide) (hts (.fieldLink RX5 42 "StraitGame$Reader" "tokens" "LStraitGame$Tokens;") (List.mem_of_getElem? (i := 4) rfl)) (fun _ h9 => h9) rfl dX5_read_16 ?_
  refine lv_iload_n hx hb dX5_read_19 rfl (lv_at hl 1 rfl) ?_
  refine zA_v (zR_V (As := [.int 0]) (rest := []) ⟨hx, hb, hml, hown, hts⟩ (zX9_scan_1 l D h1 h2 h3 h4 k0 k1 k2 _) (cwV 1 hts gX5_read_X9_scan rfl rfl rfl (by decide +kernel) ⟨(Nat.le_of_ble_eq_true rfl), (Nat.le_of_ble_eq_true rfl)⟩) hP hD hK hN [1, 2, 3, 4] [0, 1, 2] rfl (by decide) rfl 0 9 rfl rfl rfl hl.1 rfl (Nat.le_of_ble_eq_true rfl) dX5_read_20 ⟨(Nat.le_of_ble_eq_true rfl), (Nat.le_of_ble_eq_true rfl)⟩) hP hD hK hS hA [1, 2, 3, 4] [0] rfl rfl (by decide) (by decide) (fun u H locs hw hP hD hK hS => ?_)
  have hK : va_K D vwCl [(k0, .byte), (k1, .byte), (k2, .int)] s := hK
  have hP : va_P D vwCl [(h0, .inr (5, [.int 0, .int (-1), .ref h1, .ref r0, .int 0, .int 0, .int 0, .int 0, .int 0, .ref r1])), (h1, .inr (9, [.int 1, .ref h3, .ref h4, .ref h2, .int 0])), (h2, .inl (k0, 1600, .inl (fun _ => 0))), (h3, .inl (k1, 1601, .inl (fun _ => 0))), (h4, .inl (k2, 1601, .inl (fun _ => 0)))] H := hP
  have hD : va_D A [(h0, .inr (5, [.int 0, .int (-1), .ref h1, .ref r0, .int 0, .int 0, .int 0, .int 0, .int 0, .ref r1])), (h1, .inr (9, [.int 1, .ref h3, .ref h4, .ref h2, .int 0])), (h2, .inl (k0, 1600, .inl (fun _ => 0))), (h3, .inl (k1, 1601, .inl (fun _ => 0))), (h4, .inl (k2, 1601, .inl (fun _ => 0)))] := hD
  refine W.widen (k := 0) (n := 0) (Nat.le_of_ble_eq_true rfl) (Nat.le_of_ble_eq_true rfl) ?_
  refine lv_aload_n hx hb dX5_read_23 rfl (lv_at hl 0 rfl) ?_
  refine lv_iconst (v := 0) hx hb dX5_read_24 (by decide) ?_
  refine va_put (D := D) (ci := 5) (v := .int 0) (ty := .int) (C := RX5) (T := TX5) (N := 10) hx hb hts iuX5_read_X5 tyX5 tyX5_ok nmX5 hown hK hP hD hS 0 rfl rfl 4 (by decide) (hts (.fieldLink RX5 18 "StraitGame$Reader" "token" "I") (List.mem_of_getElem? (i := 5) rfl)) (fun _ h9 => h9) rfl (by decide +kernel) rfl rfl (Nat.le_of_ble_eq_true rfl) dX5_read_25 (fun H locs hP hD hS => ?_)
  have hP : va_P D vwCl [(h0, .inr (5, [.int 0, .int (-1), .ref h1, .ref r0, .int 0, .int 0, .int 0, .int 0, .int 0, .ref r1])), (h1, .inr (9, [.int 1, .ref h3, .ref h4, .ref h2, .int 0])), (h2, .inl (k0, 1600, .inl (fun _ => 0))), (h3, .inl (k1, 1601, .inl (fun _ => 0))), (h4, .inl (k2, 1601, .inl (fun _ => 0)))] H := hP
  have hD : va_D A [(h0, .inr (5, [.int 0, .int (-1), .ref h1, .ref r0, .int 0, .int 0, .int 0, .int 0, .int 0, .ref r1])), (h1, .inr (9, [.int 1, .ref h3, .ref h4, .ref h2, .int 0])), (h2, .inl (k0, 1600, .inl (fun _ => 0))), (h3, .inl (k1, 1601, .inl (fun _ => 0))), (h4, .inl (k2, 1601, .inl (fun _ => 0)))] := hD
  refine lv_aload_n hx hb dX5_read_28 rfl (lv_at hl 0 rfl) ?_
  refine zA_v (zR_V (As := []) (rest := []) ⟨hx, hb, hml, hown, hts⟩ (zX5_look_1 l D h0 h1 h3 h4 r0 r1 h2 k1 k2 _) (cwV 0 hts gX5_read_X5_look rfl rfl rfl (by decide +kernel) ⟨(Nat.le_of_ble_eq_true rfl), (Nat.le_of_ble_eq_true rfl)⟩) hP hD hK hN [0, 1, 3, 4] [1, 2] rfl (by decide) rfl 0 5 rfl rfl rfl hl.1 rfl (Nat.le_of_ble_eq_true rfl) dX5_read_29 ⟨(Nat.le_of_ble_eq_true rfl), (Nat.le_of_ble_eq_true rfl)⟩) hP hD hK hS hA [0, 1, 3, 4] [2] rfl rfl (by decide) (by decide) (fun u H locs hw hP hD hK hS => ?_)
  have hK : va_K D vwCl [(k0, .byte), (k1, .byte), (k2, .int)] s := hK
  have hP : va_P D vwCl [(h2, .inl (k0, 1600, .inl (fun _ => 0))), (h0, .inr (5, [.int 0, .int (-1), .ref h1, .ref r0, .int 0, .int 0, .int 0, .int 0, .int 0, .ref r1])), (h1, .inr (9, [.int 1, .ref h3, .ref h4, .ref h2, .int 0])), (h3, .inl (k1, 1601, .inl (fun _ => 0))), (h4, .inl (k2, 1601, .inl (fun _ => 0)))] H := hP
  have hD : va_D A [(h2, .inl (k0, 1600, .inl (fun _ => 0))), (h0, .inr (5, [.int 0, .int (-1), .ref h1, .ref r0, .int 0, .int 0, .int 0, .int 0, .int 0, .ref r1])), (h1, .inr (9, [.int 1, .ref h3, .ref h4, .ref h2, .int 0])), (h3, .inl (k1, 1601, .inl (fun _ => 0))), (h4, .inl (k2, 1601, .inl (fun _ => 0)))] := hD
  refine W.widen (k := 0) (n := 0) (Nat.le_of_ble_eq_true rfl) (Nat.le_of_ble_eq_true rfl) ?_
  refine lv_iconst (v := 0) hx hb dX5_read_32 (by decide) ?_
  refine lv_istore_n (lv' := [(3, .int 0), (0, .ref h0), (1, .int 0), (2, .ref r0)]) hx hb dX5_read_33 rfl hl (by decide) rfl (fun ls hl => ?_)
  refine lv_iload_n hx hb dX5_read_34 rfl (lv_at hl 0 rfl) ?_
  refine lv_sipush (v := 1600) hx hb dX5_read_35 (by decide) ?_
  refine lv_icmp_gt (tgt := 63) hx hb dX5_read_38 (by decide) (fun h9 => absurd h9 (by decide)) (fun _ => ?_)
  refine lv_aload_n hx hb dX5_read_41 rfl (lv_at hl 1 rfl) ?_
  refine va_get (D := D) (ci := 5) (v := .int 0) (C := RX5) (T := TX5) (N := 10) hx hb hts iuX5_read_X5 hown hK hP 1 rfl rfl 5 (by decide) (hts (.fieldLink RX5 23 "StraitGame$Reader" "kind" "I") (List.mem_of_getElem? (i := 6) rfl)) (fun _ h9 => h9) rfl dX5_read_42 ?_
  refine lv_if_eq (tgt := 63) hx hb dX5_read_45 (by decide) (fun _ => ?_) (fun h9 => absurd (by decide) h9)
  refine lv_iconst (v := 1) hx hb dX5_read_63 (by decide) ?_
  exact zret_z hx hb hr (by decide) hlocks hP hD hK hS () rfl [1, 2, 0, 3, 4] [] (by decide) rfl rfl (Nat.le_of_ble_eq_true rfl) (Nat.le_of_ble_eq_true rfl) dX5_read_64
set_option maxHeartbeats 4000000 in
set_option maxRecDepth 100000 in
theorem zX2_install_2 (l : Launch) (D : va_G) (h0 h1 h2 h3 r0 r1 r2 r3 r4 r5 r6 r7 r8 r9 r10 r11 r12 : Nat) (k0 : ClassId) (f0 : Nat → Int32) (sz : Nat) : Met l yX2_install wsX2_install ({ frames := 1, cells := 0, slots := 0, locals := 23 }) (zPre D [.ref h1, .ref h0] [(h0, .inr (10, [.int 0, .int 0, .int 0, .int 0, .int 0, .ref r0, .ref r1, .ref r2, .ref r3, .ref r4, .ref r5, .ref r6, .ref h2])), (h1, .inr (2, [.int 0, .int 0, .int 0, .int 0, .int 0, .ref h3, .ref r7, .ref r8, .ref r9, .ref r10, .ref r11, .ref r12])), (h2, .inr (4, [.int 0, .int 0, .int 0, .int 0, .int 0, .int 0, .int 0])), (h3, .inl (k0, 180, .inl f0))] [(k0, .int)] sz) ((fun A => va_Qv (fun (u : (Nat → Int32)) => match u with | ff_61 => True) (zB D A (fun (u : (Nat → Int32)) => match u with | ff_61 => [(h0, .inr (10, [.int 0, .int 0, .int 0, .int 0, .int 0, .ref r0, .ref r1, .ref r2, .ref r3, .ref r4, .ref r5, .ref r6, .ref h2])), (h1, .inr (2, [.int 0, .int 0, .int 0, .int 0, .int 0, .ref h3, .ref r7, .ref r8, .ref r9, .ref r10, .ref r11, .ref r12])), (h2, .inr (4, [.int 0, .int 0, .int 0, .int 0, .int 0, .int 0, .int 0])), (h3, .inl (k0, 180, .inl ff_61))]) (fun (u : (Nat → Int32)) => match u with | ff_61 => [])) A) (va_A [(h0, .inr (10, [.int 0, .int 0, .int 0, .int 0, .int 0, .ref r0, .ref r1, .ref r2, .ref r3, .ref r4, .ref r5, .ref r6, .ref h2])), (h1, .inr (2, [.int 0, .int 0, .int 0, .int 0, .int 0, .ref h3, .ref r7, .ref r8, .ref r9, .ref r10, .ref r11, .ref r12])), (h2, .inr (4, [.int 0, .int 0, .int 0, .int 0, .int 0, .int 0, .int 0])), (h3, .inl (k0, 180, .inl f0))] sz)) 0 0 (va_A [(h0, .inr (10, [.int 0, .int 0, .int 0, .int 0, .int 0, .ref r0, .ref r1, .ref r2, .ref r3, .ref r4, .ref r5, .ref r6, .ref h2])), (h1, .inr (2, [.int 0, .int 0, .int 0, .int 0, .int 0, .ref h3, .ref r7, .ref r8, .ref r9, .ref r10, .ref r11, .ref r12])), (h2, .inr (4, [.int 0, .int 0, .int 0, .int 0, .int 0, .int 0, .int 0])), (h3, .inl (k0, 180, .inl f0))] sz) := by
  refine zOfW (QF := fun A => va_Qv (fun (u : (Nat → Int32)) => match u with | ff_61 => True) (zB D A (fun (u : (Nat → Int32)) => match u with | ff_61 => [(h0, .inr (10, [.int 0, .int 0, .int 0, .int 0, .int 0, .ref r0, .ref r1, .ref r2, .ref r3, .ref r4, .ref r5, .ref r6, .ref h2])), (h1, .inr (2, [.int 0, .int 0, .int 0, .int 0, .int 0, .ref h3, .ref r7, .ref r8, .ref r9, .ref r10, .ref r11, .ref r12])), (h2, .inr (4, [.int 0, .int 0, .int 0, .int 0, .int 0, .int 0, .int 0])), (h3, .inl (k0, 180, .inl ff_61))]) (fun (u : (Nat → Int32)) => match u with | ff_61 => [])) A) (cc := cX2_install) (maxL := 4) (ret := none) (by decide) rfl (Nat.le_of_ble_eq_true rfl) ?_
  intro p e s m below meth c A ls hx hb hr hml hts hown hlocks hin hA hS hP hD hK hN hl
  have hl : lv_has ls 4 [(0, .ref h1), (1, .ref h0)] := hl
  refine lv_aload_n hx hb dX2_install_0 rfl (lv_at hl 0 rfl) ?_
  refine lv_aload_n hx hb dX2_install_1 rfl (lv_at hl 1 rfl) ?_
  refine va_get (D := D) (ci := 10) (v := .int 0) (C := RX10) (T := TX10) (N := 13) hx hb hts iuX2_install_X10 hown hK hP 0 rfl rfl 0 (by decide) (hts (.fieldLink RX2 51 "StraitGame$Told" "files" "I") (List.mem_of_getElem? (i := 1) rfl)) (fun _ h9 => h9) rfl dX2_install_2 ?_
  refine va_put (D := D) (ci := 2) (v := .int 0) (ty := .int) (C := RX2) (T := TX2) (N := 12) hx hb hts iuX2_install_X2 tyX2 tyX2_ok nmX2 hown hK hP hD hS 1 rfl rfl 1 (by decide) (hts (.fieldLink RX2 15 "StraitGame$Laws" "files" "I") (List.mem_of_getElem? (i := 2) rfl)) (fun _ h9 => h9) rfl (by decide +kernel) rfl rfl (Nat.le_of_ble_eq_true rfl) dX2_install_5 (fun H locs hP hD hS => ?_)
  have hP : va_P D vwCl [(h0, .inr (10, [.int 0, .int 0, .int 0, .int 0, .int 0, .ref r0, .ref r1, .ref r2, .ref r3, .ref r4, .ref r5, .ref r6, .ref h2])), (h1, .inr (2, [.int 0, .int 0, .int 0, .int 0, .int 0, .ref h3, .ref r7, .ref r8, .ref r9, .ref r10, .ref r11, .ref r12])), (h2, .inr (4, [.int 0, .int 0, .int 0, .int 0, .int 0, .int 0, .int 0])), (h3, .inl (k0, 180, .inl f0))] H := hP
  have hD : va_D A [(h0, .inr (10, [.int 0, .int 0, .int 0, .int 0, .int 0, .ref r0, .ref r1, .ref r2, .ref r3, .ref r4, .ref r5, .ref r6, .ref h2])), (h1, .inr (2, [.int 0, .int 0, .int 0, .int 0, .int 0, .ref h3, .ref r7, .ref r8, .ref r9, .ref r10, .ref r11, .ref r12])), (h2, .inr (4, [.int 0, .int 0, .int 0, .int 0, .int 0, .int 0, .int 0])), (h3, .inl (k0, 180, .inl f0))] := hD
  refine lv_aload_n hx hb dX2_install_8 rfl (lv_at hl 0 rfl) ?_
  refine lv_aload_n hx hb dX2_install_9 rfl (lv_at hl 1 rfl) ?_
  refine va_get (D := D) (ci := 10) (v := .int 0) (C := RX10) (T := TX10) (N := 13) hx hb hts iuX2_install_X10 hown hK hP 0 rfl rfl 1 (by decide) (hts (.fieldLink RX2 54 "StraitGame$Told" "ranks" "I") (List.mem_of_getElem? (i := 3) rfl)) (fun _ h9 => h9) rfl dX2_install_10 ?_
  refine va_put (D := D) (ci := 2) (v := .int 0) (ty := .int) (C := RX2) (T := TX2) (N := 12) hx hb hts iuX2_install_X2 tyX2 tyX2_ok nmX2 hown hK hP hD hS 1 rfl rfl 2 (by decide) (hts (.fieldLink RX2 18 "StraitGame$Laws" "ranks" "I") (List.mem_of_getElem? (i := 4) rfl)) (fun _ h9 => h9) rfl (by decide +kernel) rfl rfl (Nat.le_of_ble_eq_true rfl) dX2_install_13 (fun H locs hP hD hS => ?_)
  have hP : va_P D vwCl [(h0, .inr (10, [.int 0, .int 0, .int 0, .int 0, .int 0, .ref r0, .ref r1, .ref r2, .ref r3, .ref r4, .ref r5, .ref r6, .ref h2])), (h1, .inr (2, [.int 0, .int 0, .int 0, .int 0, .int 0, .ref h3, .ref r7, .ref r8, .ref r9, .ref r10, .ref r11, .ref r12])), (h2, .inr (4, [.int 0, .int 0, .int 0, .int 0, .int 0, .int 0, .int 0])), (h3, .inl (k0, 180, .inl f0))] H := hP
  have hD : va_D A [(h0, .inr (10, [.int 0, .int 0, .int 0, .int 0, .int 0, .ref r0, .ref r1, .ref r2, .ref r3, .ref r4, .ref r5, .ref r6, .ref h2])), (h1, .inr (2, [.int 0, .int 0, .int 0, .int 0, .int 0, .ref h3, .ref r7, .ref r8, .ref r9, .ref r10, .ref r11, .ref r12])), (h2, .inr (4, [.int 0, .int 0, .int 0, .int 0, .int 0, .int 0, .int 0])), (h3, .inl (k0, 180, .inl f0))] := hD
  refine lv_aload_n hx hb dX2_install_16 rfl (lv_at hl 0 rfl) ?_
  refine lv_aload_n hx hb dX2_install_17 rfl (lv_at hl 0 rfl) ?_
  refine va_get (D := D) (ci := 2) (v := .int 0) (C := RX2) (T := TX2) (N := 12) hx hb hts iuX2_install_X2 hown hK hP 1 rfl rfl 1 (by decide) (hts (.fieldLink RX2 15 "StraitGame$Laws" "files" "I") (List.mem_of_getElem? (i := 2) rfl)) (fun _ h9 => h9) rfl dX2_install_18 ?_
  refine lv_aload_n hx hb dX2_install_21 rfl (lv_at hl 0 rfl) ?_
  refine va_get (D := D) (ci := 2) (v := .int 0) (C := RX2) (T := TX2) (N := 12) hx hb hts iuX2_install_X2 hown hK hP 1 rfl rfl 2 (by decide) (hts (.fieldLink RX2 18 "StraitGame$Laws" "ranks" "I") (List.mem_of_getElem? (i := 4) rfl)) (fun _ h9 => h9) rfl dX2_install_22 ?_
  refine lv_imul hx hb dX2_install_25 ?_
  refine z_top (y := 0) (by decide) ?_
  refine va_put (D := D) (ci := 2) (v := .int 0) (ty := .int) (C := RX2) (T := TX2) (N := 12) hx hb hts iuX2_install_X2 tyX2 tyX2_ok nmX2 hown hK hP hD hS 1 rfl rfl 0 (by decide) (hts (.fieldLink RX2 9 "StraitGame$Laws" "squares" "I") (List.mem_of_getElem? (i := 5) rfl)) (fun _ h9 => h9) rfl (by decide +kernel) rfl rfl (Nat.le_of_ble_eq_true rfl) dX2_install_26 (fun H locs hP hD hS => ?_)
  have hP : va_P D vwCl [(h0, .inr (10, [.int 0, .int 0, .int 0, .int 0, .int 0, .ref r0, .ref r1, .ref r2, .ref r3, .ref r4, .ref r5, .ref r6, .ref h2])), (h1, .inr (2, [.int 0, .int 0, .int 0, .int 0, .int 0, .ref h3, .ref r7, .ref r8, .ref r9, .ref r10, .ref r11, .ref r12])), (h2, .inr (4, [.int 0, .int 0, .int 0, .int 0, .int 0, .int 0, .int 0])), (h3, .inl (k0, 180, .inl f0))] H := hP
  have hD : va_D A [(h0, .inr (10, [.int 0, .int 0, .int 0, .int 0, .int 0, .ref r0, .ref r1, .ref r2, .ref r3, .ref r4, .ref r5, .ref r6, .ref h2])), (h1, .inr (2, [.int 0, .int 0, .int 0, .int 0, .int 0, .ref h3, .ref r7, .ref r8, .ref r9, .ref r10, .ref r11, .ref r12])), (h2, .inr (4, [.int 0, .int 0, .int 0, .int 0, .int 0, .int 0, .int 0])), (h3, .inl (k0, 180, .inl f0))] := hD
  refine lv_aload_n hx hb dX2_install_29 rfl (lv_at hl 0 rfl) ?_
  refine lv_aload_n hx hb dX2_install_30 rfl (lv_at hl 1 rfl) ?_
  refine va_get (D := D) (ci := 10) (v := .ref h2) (C := RX10) (T := TX10) (N := 13) hx hb hts iuX2_install_X10 hown hK hP 0 rfl rfl 12 (by decide) (hts (.fieldLink RX2 55 "StraitGame$Told" "start" "LStraitGame$Position;") (List.mem_of_getElem? (i := 6) rfl)) (fun _ h9 => h9) rfl dX2_install_31 ?_
  refine va_get (D := D) (ci := 4) (v := .int 0) (C := RX4) (T := TX4) (N := 7) hx hb hts iuX2_install_X4 hown hK hP 2 rfl rfl 1 (by decide) (hts (.fieldLink RX2 59 "StraitGame$Position" "white" "I") (List.mem_of_getElem? (i := 7) rfl)) (fun _ h9 => h9) rfl dX2_install_34 ?_
  refine lv_aload_n hx hb dX2_install_37 rfl (lv_at hl 1 rfl) ?_
  refine va_get (D := D) (ci := 10) (v := .ref h2) (C := RX10) (T := TX10) (N := 13) hx hb hts iuX2_install_X10 hown hK hP 0 rfl rfl 12 (by decide) (hts (.fieldLink RX2 55 "StraitGame$Told" "start" "LStraitGame$Position;") (List.mem_of_getElem? (i := 6) rfl)) (fun _ h9 => h9) rfl dX2_install_38 ?_
  refine va_get (D := D) (ci := 4) (v := .int 0) (C := RX4) (T := TX4) (N := 7) hx hb hts iuX2_install_X4 hown hK hP 2 rfl rfl 3 (by decide) (hts (.fieldLink RX2 64 "StraitGame$Position" "kings" "I") (List.mem_of_getElem? (i := 8) rfl)) (fun _ h9 => h9) rfl dX2_install_41 ?_
  refine lv_iand hx hb dX2_install_44 ?_
  refine z_top (y := 0) (by decide) ?_
  refine lv_if_eq (tgt := 52) hx hb dX2_install_45 (by decide) (fun _ => ?_) (fun h9 => absurd (by decide) h9)
  refine lv_iconst (v := 0) hx hb dX2_install_52 (by decide) ?_
  refine va_put (D := D) (ci := 2) (v := .int 0) (ty := .boolean) (C := RX2) (T := TX2) (N := 12) hx hb hts iuX2_install_X2 tyX2 tyX2_ok nmX2 hown hK hP hD hS 1 rfl rfl 3 (by decide) (hts (.fieldLink RX2 21 "StraitGame$Laws" "whiteHadKing" "Z") (List.mem_of_getElem? (i := 9) rfl)) (fun _ h9 => h9) rfl (by decide +kernel) (by decide) rfl (Nat.le_of_ble_eq_true rfl) dX2_install_53 (fun H locs hP hD hS => ?_)
  have hP : va_P D vwCl [(h0, .inr (10, [.int 0, .int 0, .int 0, .int 0, .int 0, .ref r0, .ref r1, .ref r2, .ref r3, .ref r4, .ref r5, .ref r6, .ref h2])), (h1, .inr (2, [.int 0, .int 0, .int 0, .int 0, .int 0, .ref h3, .ref r7, .ref r8, .ref r9, .ref r10, .ref r11, .ref r12])), (h2, .inr (4, [.int 0, .int 0, .int 0, .int 0, .int 0, .int 0, .int 0])), (h3, .inl (k0, 180, .inl f0))] H := hP
  have hD : va_D A [(h0, .inr (10, [.int 0, .int 0, .int 0, .int 0, .int 0, .ref r0, .ref r1, .ref r2, .ref r3, .ref r4, .ref r5, .ref r6, .ref h2])), (h1, .inr (2, [.int 0, .int 0, .int 0, .int 0, .int 0, .ref h3, .ref r7, .ref r8, .ref r9, .ref r10, .ref r11, .ref r12])), (h2, .inr (4, [.int 0, .int 0, .int 0, .int 0, .int 0, .int 0, .int 0])), (h3, .inl (k0, 180, .inl f0))] := hD
  refine lv_aload_n hx hb dX2_install_56 rfl (lv_at hl 0 rfl) ?_
  refine lv_aload_n hx hb dX2_install_57 rfl (lv_at hl 1 rfl) ?_
  refine va_get (D := D) (ci := 10) (v := .ref h2) (C := RX10) (T := TX10) (N := 13) hx hb hts iuX2_install_X10 hown hK hP 0 rfl rfl 12 (by decide) (hts (.fieldLink RX2 55 "StraitGame$Told" "start" "LStraitGame$Position;") (List.mem_of_getElem? (i := 6) rfl)) (fun _ h9 => h9) rfl dX2_install_58 ?_
  refine va_get (D := D) (ci := 4) (v := .int 0) (C := RX4) (T := TX4) (N := 7) hx hb hts iuX2_install_X4 hown hK hP 2 rfl rfl 2 (by decide) (hts (.fieldLink RX2 67 "StraitGame$Position" "black" "I") (List.mem_of_getElem? (i := 10) rfl)) (fun _ h9 => h9) rfl dX2_install_61 ?_
  refine lv_aload_n hx hb dX2_install_64 rfl (lv_at hl 1 rfl) ?_
  refine va_get (D := D) (ci := 10) (v := .ref h2) (C := RX10) (T := TX10) (N := 13) hx hb hts iuX2_install_X10 hown hK hP 0 rfl rfl 12 (by decide) (hts (.fieldLink RX2 55 "StraitGame$Told" "start" "LStraitGame$Position;") (List.mem_of_getElem? (i := 6) rfl)) (fun _ h9 => h9) rfl dX2_install_65 ?_
  refine va_get (D := D) (ci := 4) (v := .int 0) (C := RX4) (T := TX4) (N := 7) hx hb hts iuX2_install_X4 hown hK hP 2 rfl rfl 3 (by decide) (hts (.fieldLink RX2 64 "StraitGame$Position" "kings" "I") (List.mem_of_getElem? (i := 8) rfl)) (fun _ h9 => h9) rfl dX2_install_68 ?_
  refine lv_iand hx hb dX2_install_71 ?_
  refine z_top (y := 0) (by decide) ?_
  refine lv_if_eq (tgt := 79) hx hb dX2_install_72 (by decide) (fun _ => ?_) (fun h9 => absurd (by decide) h9)
  refine lv_iconst (v := 0) hx hb dX2_install_79 (by decide) ?_
  refine va_put (D := D) (ci := 2) (v := .int 0) (ty := .boolean) (C := RX2) (T := TX2) (N := 12) hx hb hts iuX2_install_X2 tyX2 tyX2_ok nmX2 hown hK hP hD hS 1 rfl rfl 4 (by decide) (hts (.fieldLink RX2 25 "StraitGame$Laws" "blackHadKing" "Z") (List.mem_of_getElem? (i := 11) rfl)) (fun _ h9 => h9) rfl (by decide +kernel) (by decide) rfl (Nat.le_of_ble_eq_true rfl) dX2_install_80 (fun H locs hP hD hS => ?_)
  have hP : va_P D vwCl [(h0, .inr (10, [.int 0, .int 0, .int 0, .int 0, .int 0, .ref r0, .ref r1, .ref r2, .ref r3, .ref r4, .ref r5, .ref r6, .ref h2])), (h1, .inr (2, [.int 0, .int 0, .int 0, .int 0, .int 0, .ref h3, .ref r7, .ref r8, .ref r9, .ref r10, .ref r11, .ref r12])), (h2, .inr (4, [.int 0, .int 0, .int 0, .int 0, .int 0, .int 0, .int 0])), (h3, .inl (k0, 180, .inl f0))] H := hP
  have hD : va_D A [(h0, .inr (10, [.int 0, .int 0, .int 0, .int 0, .int 0, .ref r0, .ref r1, .ref r2, .ref r3, .ref r4, .ref r5, .ref r6, .ref h2])), (h1, .inr (2, [.int 0, .int 0, .int 0, .int 0, .int 0, .ref h3, .ref r7, .ref r8, .ref r9, .ref r10, .ref r11, .ref r12])), (h2, .inr (4, [.int 0, .int 0, .int 0, .int 0, .int 0, .int 0, .int 0])), (h3, .inl (k0, 180, .inl f0))] := hD
  refine lv_aload_n hx hb dX2_install_83 rfl (lv_at hl 0 rfl) ?_
  refine va_get (D := D) (ci := 2) (v := .ref h3) (C := RX2) (T := TX2) (N := 12) hx hb hts iuX2_install_X2 hown hK hP 1 rfl rfl 5 (by decide) (hts (.fieldLink RX2 28 "StraitGame$Laws" "leapTo" "[I") (List.mem_of_getElem? (i := 12) rfl)) (fun _ h9 => h9) rfl dX2_install_84 ?_
  refine lv_iconst (v := 0) hx hb dX2_install_87 (by decide) ?_
  refine zA_v (zR_S (As := [.ref h3, .int 0]) (rest := []) ⟨hx, hb, hml, hown, hts⟩ (zfill l D h3 k0 f0 180 0 _ (by decide)) (va_cwS 2 hts gX2_install_J7_fill_53178 rfl rfl rfl (by decide +kernel) ⟨(Nat.le_of_ble_eq_true rfl), (Nat.le_of_ble_eq_true rfl)⟩) hP hD hK hN [3] [0] rfl (by decide) rfl rfl hl.1 rfl (Nat.le_of_ble_eq_true rfl) dX2_install_88 ⟨(Nat.le_of_ble_eq_true rfl), (Nat.le_of_ble_eq_true rfl)⟩) hP hD hK hS hA [3] [0, 1, 2] rfl rfl (by decide) (by decide) (fun u H locs hw hP hD hK hS => ?_)
  obtain ⟨ff_62, rfl⟩ : ∃ z, z = u := ⟨_, rfl⟩
  have hK : va_K D vwCl [(k0, .int)] s := hK
  have hP : va_P D vwCl [(h0, .inr (10, [.int 0, .int 0, .int 0, .int 0, .int 0, .ref r0, .ref r1, .ref r2, .ref r3, .ref r4, .ref r5, .ref r6, .ref h2])), (h1, .inr (2, [.int 0, .int 0, .int 0, .int 0, .int 0, .ref h3, .ref r7, .ref r8, .ref r9, .ref r10, .ref r11, .ref r12])), (h2, .inr (4, [.int 0, .int 0, .int 0, .int 0, .int 0, .int 0, .int 0])), (h3, .inl (k0, 180, .inl ff_62))] H := hP
  have hD : va_D A [(h0, .inr (10, [.int 0, .int 0, .int 0, .int 0, .int 0, .ref r0, .ref r1, .ref r2, .ref r3, .ref r4, .ref r5, .ref r6, .ref h2])), (h1, .inr (2, [.int 0, .int 0, .int 0, .int 0, .int 0, .ref h3, .ref r7, .ref r8, .ref r9, .ref r10, .ref r11, .ref r12])), (h2, .inr (4, [.int 0, .int 0, .int 0, .int 0, .int 0, .int 0, .int 0])), (h3, .inl (k0, 180, .inl ff_62))] := hD
  refine W.widen (k := 0) (n := 0) (Nat.le_of_ble_eq_true rfl) (Nat.le_of_ble_eq_true rfl) ?_
  refine lv_iconst (v := 0) hx hb dX2_install_91 (by decide) ?_
  refine lv_istore_n (lv' := [(2, .int 0), (0, .ref h1), (1, .ref h0)]) hx hb dX2_install_92 rfl hl (by decide) rfl (fun ls hl => ?_)
  refine lv_iload_n hx hb dX2_install_93 rfl (lv_at hl 0 rfl) ?_
  refine lv_aload_n hx hb dX2_install_94 rfl (lv_at hl 2 rfl) ?_
  refine va_get (D := D) (ci := 10) (v := .int 0) (C := RX10) (T := TX10) (N := 13) hx hb hts iuX2_install_X10 hown hK hP 0 rfl rfl 2 (by decide) (hts (.fieldLink RX2 76 "StraitGame$Told" "pieces" "I") (List.mem_of_getElem? (i := 13) rfl)) (fun _ h9 => h9) rfl dX2_install_95 ?_
  refine lv_icmp_ge (tgt := 156) hx hb dX2_install_98 (by decide) (fun _ => ?_) (fun h9 => absurd (by decide) h9)
  refine lv_iconst (v := 0) hx hb dX2_install_156 (by decide) ?_
  refine lv_istore_n (lv' := [(2, .int 0), (0, .ref h1), (1, .ref h0)]) hx hb dX2_install_157 rfl hl (by decide) rfl (fun ls hl => ?_)
  refine lv_iload_n hx hb dX2_install_158 rfl (lv_at hl 0 rfl) ?_
  refine lv_aload_n hx hb dX2_install_159 rfl (lv_at hl 1 rfl) ?_
  refine va_get (D := D) (ci := 2) (v := .int 0) (C := RX2) (T := TX2) (N := 12) hx hb hts iuX2_install_X2 hown hK hP 1 rfl rfl 0 (by decide) (hts (.fieldLink RX2 9 "StraitGame$Laws" "squares" "I") (List.mem_of_getElem? (i := 5) rfl)) (fun _ h9 => h9) rfl dX2_install_160 ?_
  refine lv_icmp_ge (tgt := 177) hx hb dX2_install_163 (by decide) (fun _ => ?_) (fun h9 => absurd (by decide) h9)
  exact zret_v hx hb hr hlocks hP hD hK hS ff_62 trivial [0, 1, 2, 3] [] (by decide) rfl rfl (Nat.le_of_ble_eq_true rfl) (Nat.le_of_ble_eq_true rfl) dX2_install_177
set_option maxHeartbeats 4000000 in
set_option maxRecDepth 100000 in
theorem zX3_begin_2 (l : Launch) (D : va_G) (h0 h1 h2 h3 h4 h5 r0 r1 r2 r3 r4 r5 r6 : Nat) (k0 k1 : ClassId) (f0 : Nat → Option Nat) (f1 : Nat → Int32) (sz : Nat) (hf_f0_0 : f0 0 = some h2) (hf_f0_1 : f0 1 = some h4) (hf_f0_2 : f0 2 = some r5) (hf_f0_3 : f0 3 = some r6) (hf_f1_0 : f1 0 = (-1)) (hf_f1_1 : f1 1 = (-1)) (hf_f1_2 : f1 2 = (-1)) : Met l yX3_begin wsX3_begin ({ frames := 1, cells := 0, slots := 0, locals := 23 }) (zPre D [.ref h0, .ref h3] [(h0, .inr (3, [.int 0, .int 0, .ref r0, .ref r1, .ref r2, .ref r3, .ref r4, .ref h1, .ref h5])), (h1, .inl (k0, 122, .inr (.inr (.inr (.inr f0))))), (h2, .inr (4, [.int 0, .int 0, .int 0, .int 0, .int 0, .int 0, .int 0])), (h3, .inr (4, [.int 0, .int 0, .int 0, .int 0, .int 0, .int 0, .int 0])), (h4, .inr (4, [.int 0, .int 0, .int 0, .int 0, .int 0, .int 0, .int 0])), (h5, .inl (k1, 3, .inl f1))] [(k0, .object RX4), (k1, .int)] sz) ((fun A => va_Qv (fun (u : (Nat → Int32)) => match u with | ff_65 => ff_65 0 = (-1) ∧ ff_65 1 = (-1) ∧ ff_65 2 = (-1)) (zB D A (fun (u : (Nat → Int32)) => match u with | ff_65 => [(h0, .inr (3, [.int 0, .int 0, .ref r0, .ref r1, .ref r2, .ref r3, .ref r4, .ref h1, .ref h5])), (h1, .inl (k0, 122, .inr (.inr (.inr (.inr f0))))), (h2, .inr (4, [.int 0, .int 0, .int 0, .int 0, .int 0, .int 0, .int 0])), (h3, .inr (4, [.int 0, .int 0, .int 0, .int 0, .int 0, .int 0, .int 0])), (h4, .inr (4, [.int 0, .int 0, .int 0, .int 0, .int 0, .int 0, .int 0])), (h5, .inl (k1, 3, .inl ff_65))]) (fun (u : (Nat → Int32)) => match u with | ff_65 => [])) A) (va_A [(h0, .inr (3, [.int 0, .int 0, .ref r0, .ref r1, .ref r2, .ref r3, .ref r4, .ref h1, .ref h5])), (h1, .inl (k0, 122, .inr (.inr (.inr (.inr f0))))), (h2, .inr (4, [.int 0, .int 0, .int 0, .int 0, .int 0, .int 0, .int 0])), (h3, .inr (4, [.int 0, .int 0, .int 0, .int 0, .int 0, .int 0, .int 0])), (h4, .inr (4, [.int 0, .int 0, .int 0, .int 0, .int 0, .int 0, .int 0])), (h5, .inl (k1, 3, .inl f1))] sz)) 0 0 (va_A [(h0, .inr (3, [.int 0, .int 0, .ref r0, .ref r1, .ref r2, .ref r3, .ref r4, .ref h1, .ref h5])), (h1, .inl (k0, 122, .inr (.inr (.inr (.inr f0))))), (h2, .inr (4, [.int 0, .int 0, .int 0, .int 0, .int 0, .int 0, .int 0])), (h3, .inr (4, [.int 0, .int 0, .int 0, .int 0, .int 0, .int 0, .int 0])), (h4, .inr (4, [.int 0, .int 0, .int 0, .int 0, .int 0, .int 0, .int 0])), (h5, .inl (k1, 3, .inl f1))] sz) := by
  refine zOfW (QF := fun A => va_Qv (fun (u : (Nat → Int32)) => match u with | ff_65 => ff_65 0 = (-1) ∧ ff_65 1 = (-1) ∧ ff_65 2 = (-1)) (zB D A (fun (u : (Nat → Int32)) => match u with | ff_65 => [(h0, .inr (3, [.int 0, .int 0, .ref r0, .ref r1, .ref r2, .ref r3, .ref r4, .ref h1, .ref h5])), (h1, .inl (k0, 122, .inr (.inr (.inr (.inr f0))))), (h2, .inr (4, [.int 0, .int 0, .int 0, .int 0, .int 0, .int 0, .int 0])), (h3, .inr (4, [.int 0, .int 0, .int 0, .int 0, .int 0, .int 0, .int 0])), (h4, .inr (4, [.int 0, .int 0, .int 0, .int 0, .int 0, .int 0, .int 0])), (h5, .inl (k1, 3, .inl ff_65))]) (fun (u : (Nat → Int32)) => match u with | ff_65 => [])) A) (cc := cX3_begin) (maxL := 2) (ret := none) (by decide) rfl (Nat.le_of_ble_eq_true rfl) ?_
  intro p e s m below meth c A ls hx hb hr hml hts hown hlocks hin hA hS hP hD hK hN hl
  have hl : lv_has ls 2 [(0, .ref h0), (1, .ref h3)] := hl
  refine lv_aload_n hx hb dX3_begin_0 rfl (lv_at hl 0 rfl) ?_
  refine lv_iconst (v := 0) hx hb dX3_begin_1 (by decide) ?_
  refine va_put (D := D) (ci := 3) (v := .int 0) (ty := .int) (C := RX3) (T := TX3) (N := 9) hx hb hts iuX3_begin_X3 tyX3 tyX3_ok nmX3 hown hK hP hD hS 0 rfl rfl 0 (by decide) (hts (.fieldLink RX3 9 "StraitGame$Nights" "count" "I") (List.mem_of_getElem? (i := 1) rfl)) (fun _ h9 => h9) rfl (by decide +kernel) rfl rfl (Nat.le_of_ble_eq_true rfl) dX3_begin_2 (fun H locs hP hD hS => ?_)
  have hP : va_P D vwCl [(h0, .inr (3, [.int 0, .int 0, .ref r0, .ref r1, .ref r2, .ref r3, .ref r4, .ref h1, .ref h5])), (h1, .inl (k0, 122, .inr (.inr (.inr (.inr f0))))), (h2, .inr (4, [.int 0, .int 0, .int 0, .int 0, .int 0, .int 0, .int 0])), (h3, .inr (4, [.int 0, .int 0, .int 0, .int 0, .int 0, .int 0, .int 0])), (h4, .inr (4, [.int 0, .int 0, .int 0, .int 0, .int 0, .int 0, .int 0])), (h5, .inl (k1, 3, .inl f1))] H := hP
  have hD : va_D A [(h0, .inr (3, [.int 0, .int 0, .ref r0, .ref r1, .ref r2, .ref r3, .ref r4, .ref h1, .ref h5])), (h1, .inl (k0, 122, .inr (.inr (.inr (.inr f0))))), (h2, .inr (4, [.int 0, .int 0, .int 0, .int 0, .int 0, .int 0, .int 0])), (h3, .inr (4, [.int 0, .int 0, .int 0, .int 0, .int 0, .int 0, .int 0])), (h4, .inr (4, [.int 0, .int 0, .int 0, .int 0, .int 0, .int 0, .int 0])), (h5, .inl (k1, 3, .inl f1))] := hD
  refine lv_aload_n hx hb dX3_begin_5 rfl (lv_at hl 0 rfl) ?_
  refine lv_iconst (v := 0) hx hb dX3_begin_6 (by decide) ?_
  refine va_put (D := D) (ci := 3) (v := .int 0) (ty := .int) (C := RX3) (T := TX3) (N := 9) hx hb hts iuX3_begin_X3 tyX3 tyX3_ok nmX3 hown hK hP hD hS 0 rfl rfl 1 (by decide) (hts (.fieldLink RX3 15 "StraitGame$Nights" "kept" "I") (List.mem_of_getElem? (i := 2) rfl)) (fun _ h9 => h9) rfl (by decide +kernel) rfl rfl (Nat.le_of_ble_eq_true rfl) dX3_begin_7 (fun H locs hP hD hS => ?_)
  have hP : va_P D vwCl [(h0, .inr (3, [.int 0, .int 0, .ref r0, .ref r1, .ref r2, .ref r3, .ref r4, .ref h1, .ref h5])), (h1, .inl (k0, 122, .inr (.inr (.inr (.inr f0))))), (h2, .inr (4, [.int 0, .int 0, .int 0, .int 0, .int 0, .int 0, .int 0])), (h3, .inr (4, [.int 0, .int 0, .int 0, .int 0, .int 0, .int 0, .int 0])), (h4, .inr (4, [.int 0, .int 0, .int 0, .int 0, .int 0, .int 0, .int 0])), (h5, .inl (k1, 3, .inl f1))] H := hP
  have hD : va_D A [(h0, .inr (3, [.int 0, .int 0, .ref r0, .ref r1, .ref r2, .ref r3, .ref r4, .ref h1, .ref h5])), (h1, .inl (k0, 122, .inr (.inr (.inr (.inr f0))))), (h2, .inr (4, [.int 0, .int 0, .int 0, .int 0, .int 0, .int 0, .int 0])), (h3, .inr (4, [.int 0, .int 0, .int 0, .int 0, .int 0, .int 0, .int 0])), (h4, .inr (4, [.int 0, .int 0, .int 0, .int 0, .int 0, .int 0, .int 0])), (h5, .inl (k1, 3, .inl f1))] := hD
  refine lv_aload_n hx hb dX3_begin_10 rfl (lv_at hl 0 rfl) ?_
  refine va_get (D := D) (ci := 3) (v := .ref h1) (C := RX3) (T := TX3) (N := 9) hx hb hts iuX3_begin_X3 hown hK hP 0 rfl rfl 7 (by decide) (hts (.fieldLink RX3 34 "StraitGame$Nights" "boards" "[LStraitGame$Position;") (List.mem_of_getElem? (i := 3) rfl)) (fun _ h9 => h9) rfl dX3_begin_11 ?_
  refine lv_iconst (v := 0) hx hb dX3_begin_14 (by decide) ?_
  refine va_aldq hx hb hK hP 1 0 rfl rfl (z_in (by decide)) dX3_begin_15 ?_
  refine z_topv (y := .ref h2) (congrArg va_rf ((congrArg f0 (show Int32.toNatClampNeg 0 = 0 from by decide)).trans hf_f0_0)) ?_
  refine lv_aload_n hx hb dX3_begin_16 rfl (lv_at hl 1 rfl) ?_
  refine zA_v (zR_V (As := [.ref h3]) (rest := []) ⟨hx, hb, hml, hown, hts⟩ (zX4_copyOf_1 l D h3 h2 _) (cwV 1 hts gX3_begin_X4_copyOf rfl rfl rfl (by decide +kernel) ⟨(Nat.le_of_ble_eq_true rfl), (Nat.le_of_ble_eq_true rfl)⟩) hP hD hK hN [3, 2] [] rfl (by decide) rfl 1 4 rfl rfl rfl hl.1 rfl (Nat.le_of_ble_eq_true rfl) dX3_begin_17 ⟨(Nat.le_of_ble_eq_true rfl), (Nat.le_of_ble_eq_true rfl)⟩) hP hD hK hS hA [3, 2] [0, 1, 4, 5] rfl rfl (by decide) (by decide) (fun u H locs hw hP hD hK hS => ?_)
  have hK : va_K D vwCl [(k0, .object RX4), (k1, .int)] s := hK
  have hP : va_P D vwCl [(h0, .inr (3, [.int 0, .int 0, .ref r0, .ref r1, .ref r2, .ref r3, .ref r4, .ref h1, .ref h5])), (h1, .inl (k0, 122, .inr (.inr (.inr (.inr f0))))), (h4, .inr (4, [.int 0, .int 0, .int 0, .int 0, .int 0, .int 0, .int 0])), (h5, .inl (k1, 3, .inl f1)), (h3, .inr (4, [.int 0, .int 0, .int 0, .int 0, .int 0, .int 0, .int 0])), (h2, .inr (4, [.int 0, .int 0, .int 0, .int 0, .int 0, .int 0, .int 0]))] H := hP
  have hD : va_D A [(h0, .inr (3, [.int 0, .int 0, .ref r0, .ref r1, .ref r2, .ref r3, .ref r4, .ref h1, .ref h5])), (h1, .inl (k0, 122, .inr (.inr (.inr (.inr f0))))), (h4, .inr (4, [.int 0, .int 0, .int 0, .int 0, .int 0, .int 0, .int 0])), (h5, .inl (k1, 3, .inl f1)), (h3, .inr (4, [.int 0, .int 0, .int 0, .int 0, .int 0, .int 0, .int 0])), (h2, .inr (4, [.int 0, .int 0, .int 0, .int 0, .int 0, .int 0, .int 0]))] := hD
  refine W.widen (k := 0) (n := 0) (Nat.le_of_ble_eq_true rfl) (Nat.le_of_ble_eq_true rfl) ?_
  refine lv_aload_n hx hb dX3_begin_20 rfl (lv_at hl 0 rfl) ?_
  refine va_get (D := D) (ci := 3) (v := .ref h1) (C := RX3) (T := TX3) (N := 9) hx hb hts iuX3_begin_X3 hown hK hP 0 rfl rfl 7 (by decide) (hts (.fieldLink RX3 34 "StraitGame$Nights" "boards" "[LStraitGame$Position;") (List.mem_of_getElem? (i := 3) rfl)) (fun _ h9 => h9) rfl dX3_begin_21 ?_
  refine lv_iconst (v := 1) hx hb dX3_begin_24 (by decide) ?_
  refine va_aldq hx hb hK hP 1 0 rfl rfl (z_in (by decide)) dX3_begin_25 ?_
  refine z_topv (y := .ref h4) (congrArg va_rf ((congrArg f0 (show Int32.toNatClampNeg 1 = 1 from by decide)).trans hf_f0_1)) ?_
  refine lv_aload_n hx hb dX3_begin_26 rfl (lv_at hl 1 rfl) ?_
  refine zA_v (zR_V (As := [.ref h3]) (rest := []) ⟨hx, hb, hml, hown, hts⟩ (zX4_copyOf_1 l D h3 h4 _) (cwV 1 hts gX3_begin_X4_copyOf rfl rfl rfl (by decide +kernel) ⟨(Nat.le_of_ble_eq_true rfl), (Nat.le_of_ble_eq_true rfl)⟩) hP hD hK hN [4, 2] [] rfl (by decide) rfl 1 4 rfl rfl rfl hl.1 rfl (Nat.le_of_ble_eq_true rfl) dX3_begin_27 ⟨(Nat.le_of_ble_eq_true rfl), (Nat.le_of_ble_eq_true rfl)⟩) hP hD hK hS hA [4, 2] [0, 1, 3, 5] rfl rfl (by decide) (by decide) (fun u H locs hw hP hD hK hS => ?_)
  have hK : va_K D vwCl [(k0, .object RX4), (k1, .int)] s := hK
  have hP : va_P D vwCl [(h0, .inr (3, [.int 0, .int 0, .ref r0, .ref r1, .ref r2, .ref r3, .ref r4, .ref h1, .ref h5])), (h1, .inl (k0, 122, .inr (.inr (.inr (.inr f0))))), (h5, .inl (k1, 3, .inl f1)), (h2, .inr (4, [.int 0, .int 0, .int 0, .int 0, .int 0, .int 0, .int 0])), (h3, .inr (4, [.int 0, .int 0, .int 0, .int 0, .int 0, .int 0, .int 0])), (h4, .inr (4, [.int 0, .int 0, .int 0, .int 0, .int 0, .int 0, .int 0]))] H := hP
  have hD : va_D A [(h0, .inr (3, [.int 0, .int 0, .ref r0, .ref r1, .ref r2, .ref r3, .ref r4, .ref h1, .ref h5])), (h1, .inl (k0, 122, .inr (.inr (.inr (.inr f0))))), (h5, .inl (k1, 3, .inl f1)), (h2, .inr (4, [.int 0, .int 0, .int 0, .int 0, .int 0, .int 0, .int 0])), (h3, .inr (4, [.int 0, .int 0, .int 0, .int 0, .int 0, .int 0, .int 0])), (h4, .inr (4, [.int 0, .int 0, .int 0, .int 0, .int 0, .int 0, .int 0]))] := hD
  refine W.widen (k := 0) (n := 0) (Nat.le_of_ble_eq_true rfl) (Nat.le_of_ble_eq_true rfl) ?_
  refine lv_aload_n hx hb dX3_begin_30 rfl (lv_at hl 0 rfl) ?_
  refine va_get (D := D) (ci := 3) (v := .ref h5) (C := RX3) (T := TX3) (N := 9) hx hb hts iuX3_begin_X3 hown hK hP 0 rfl rfl 8 (by decide) (hts (.fieldLink RX3 38 "StraitGame$Nights" "boxCount" "[I") (List.mem_of_getElem? (i := 4) rfl)) (fun _ h9 => h9) rfl dX3_begin_31 ?_
  refine lv_iconst (v := (-1)) hx hb dX3_begin_34 (by decide) ?_
  refine zA_v (zR_S (As := [.ref h5, .int (-1)]) (rest := []) ⟨hx, hb, hml, hown, hts⟩ (zfill l D h5 k1 f1 3 (-1) _ (by decide)) (va_cwS 2 hts gX3_begin_J7_fill_53178 rfl rfl rfl (by decide +kernel) ⟨(Nat.le_of_ble_eq_true rfl), (Nat.le_of_ble_eq_true rfl)⟩) hP hD hK hN [2] [1] rfl (by decide) rfl rfl hl.1 rfl (Nat.le_of_ble_eq_true rfl) dX3_begin_35 ⟨(Nat.le_of_ble_eq_true rfl), (Nat.le_of_ble_eq_true rfl)⟩) hP hD hK hS hA [2] [0, 1, 3, 4, 5] rfl rfl (by decide) (by decide) (fun u H locs hw hP hD hK hS => ?_)
  obtain ⟨ff_66, rfl⟩ : ∃ z, z = u := ⟨_, rfl⟩
  have hK : va_K D vwCl [(k0, .object RX4), (k1, .int)] s := hK
  have hP : va_P D vwCl [(h0, .inr (3, [.int 0, .int 0, .ref r0, .ref r1, .ref r2, .ref r3, .ref r4, .ref h1, .ref h5])), (h1, .inl (k0, 122, .inr (.inr (.inr (.inr f0))))), (h2, .inr (4, [.int 0, .int 0, .int 0, .int 0, .int 0, .int 0, .int 0])), (h3, .inr (4, [.int 0, .int 0, .int 0, .int 0, .int 0, .int 0, .int 0])), (h4, .inr (4, [.int 0, .int 0, .int 0, .int 0, .int 0, .int 0, .int 0])), (h5, .inl (k1, 3, .inl ff_66))] H := hP
  have hD : va_D A [(h0, .inr (3, [.int 0, .int 0, .ref r0, .ref r1, .ref r2, .ref r3, .ref r4, .ref h1, .ref h5])), (h1, .inl (k0, 122, .inr (.inr (.inr (.inr f0))))), (h2, .inr (4, [.int 0, .int 0, .int 0, .int 0, .int 0, .int 0, .int 0])), (h3, .inr (4, [.int 0, .int 0, .int 0, .int 0, .int 0, .int 0, .int 0])), (h4, .inr (4, [.int 0, .int 0, .int 0, .int 0, .int 0, .int 0, .int 0])), (h5, .inl (k1, 3, .inl ff_66))] := hD
  refine W.widen (k := 0) (n := 0) (Nat.le_of_ble_eq_true rfl) (Nat.le_of_ble_eq_true rfl) ?_
  have hf_59 : ff_66 0 = (-1) := hw 0 (by decide)
  have hf_60 : ff_66 1 = (-1) := hw 1 (by decide)
  have hf_61 : ff_66 2 = (-1) := hw 2 (by decide)
  exact zret_v hx hb hr hlocks hP hD hK hS ff_66 ⟨(hf_59), (hf_60), (hf_61)⟩ [0, 1, 2, 3, 4, 5] [] (by decide) rfl rfl (Nat.le_of_ble_eq_true rfl) (Nat.le_of_ble_eq_true rfl) dX3_begin_38
set_option maxHeartbeats 4000000 in
set_option maxRecDepth 100000 in
theorem zX11_begin_2 (l : Launch) (D : va_G) (h0 h1 h2 h3 h4 h5 h6 h7 h8 h9 h10 h11 r0 r1 r2 r3 r4 r5 r6 r7 r8 r9 r10 r11 r12 r13 r14 r15 r16 r17 r18 r19 r20 r21 r22 r23 r24 r25 r26 r27 r28 r29 r30 r31 r32 r33 r34 r35 : Nat) (k0 k1 k2 : ClassId) (f0 : Nat → Int32) (f1 : Nat → Option Nat) (f2 : Nat → Int32) (sz : Nat) (hf_f1_0 : f1 0 = some h7) (hf_f1_1 : f1 1 = some h8) (hf_f1_2 : f1 2 = some r23) (hf_f1_3 : f1 3 = some r24) (hf_f2_0 : f2 0 = (-1)) (hf_f2_1 : f2 1 = (-1)) (hf_f2_2 : f2 2 = (-1)) : Met l yX11_begin wsX11_begin ({ frames := 2, cells := 0, slots := 0, locals := 46 }) (zPre D [.ref h0] [(h0, .inr (11, [.ref r0, .int 0, .ref h2, .ref r1, .ref r2, .ref h1, .ref r3, .ref h5, .ref r4, .ref h10, .ref h11, .ref r5])), (h1, .inr (2, [.int 0, .int 0, .int 0, .int 0, .int 0, .ref h4, .ref r6, .ref r7, .ref r8, .ref r9, .ref r10, .ref r11])), (h2, .inr (10, [.int 0, .int 0, .int 0, .int 0, .int 0, .ref r12, .ref r13, .ref r14, .ref r15, .ref r16, .ref r17, .ref r18, .ref h3])), (h3, .inr (4, [.int 0, .int 0, .int 0, .int 0, .int 0, .int 0, .int 0])), (h4, .inl (k0, 180, .inl f0)), (h5, .inr (3, [.int 0, .int 0, .ref r19, .ref r20, .ref r21, .ref r22, .ref h1, .ref h6, .ref h9])), (h6, .inl (k1, 122, .inr (.inr (.inr (.inr f1))))), (h7, .inr (4, [.int 0, .int 0, .int 0, .int 0, .int 0, .int 0, .int 0])), (h8, .inr (4, [.int 0, .int 0, .int 0, .int 0, .int 0, .int 0, .int 0])), (h9, .inl (k2, 3, .inl f2)), (h10, .inr (0, [.int 0, .int 0, .ref r25, .ref r26, .ref r27, .ref r28, .ref r29])), (h11, .inr (7, [.int 0, .int 0, .ref r30, .ref r31, .ref r32, .ref r33, .ref r34, .ref r35]))] [(k0, .int), (k1, .object RX4), (k2, .int)] sz) ((fun A => va_Qv (fun (u : (Nat → Int32) × (Nat → Int32)) => match u with | (ff_69, ff_71) => ff_71 0 = (-1) ∧ ff_71 1 = (-1) ∧ ff_71 2 = (-1)) (zB D A (fun (u : (Nat → Int32) × (Nat → Int32)) => match u with | (ff_69, ff_71) => [(h0, .inr (11, [.ref r0, .int 0, .ref h2, .ref r1, .ref r2, .ref h1, .ref r3, .ref h5, .ref r4, .ref h10, .ref h11, .ref r5])), (h1, .inr (2, [.int 0, .int 0, .int 0, .int 0, .int 0, .ref h4, .ref r6, .ref r7, .ref r8, .ref r9, .ref r10, .ref r11])), (h2, .inr (10, [.int 0, .int 0, .int 0, .int 0, .int 0, .ref r12, .ref r13, .ref r14, .ref r15, .ref r16, .ref r17, .ref r18, .ref h3])), (h3, .inr (4, [.int 0, .int 0, .int 0, .int 0, .int 0, .int 0, .int 0])), (h4, .inl (k0, 180, .inl ff_69)), (h5, .inr (3, [.int 0, .int 0, .ref r19, .ref r20, .ref r21, .ref r22, .ref h1, .ref h6, .ref h9])), (h6, .inl (k1, 122, .inr (.inr (.inr (.inr f1))))), (h7, .inr (4, [.int 0, .int 0, .int 0, .int 0, .int 0, .int 0, .int 0])), (h8, .inr (4, [.int 0, .int 0, .int 0, .int 0, .int 0, .int 0, .int 0])), (h9, .inl (k2, 3, .inl ff_71)), (h10, .inr (0, [.int 0, .int 0, .ref r25, .ref r26, .ref r27, .ref r28, .ref r29])), (h11, .inr (7, [.int 0, .int 0, .ref r30, .ref r31, .ref r32, .ref r33, .ref r34, .ref r35]))]) (fun (u : (Nat → Int32) × (Nat → Int32)) => match u with | (ff_69, ff_71) => [])) A) (va_A [(h0, .inr (11, [.ref r0, .int 0, .ref h2, .ref r1, .ref r2, .ref h1, .ref r3, .ref h5, .ref r4, .ref h10, .ref h11, .ref r5])), (h1, .inr (2, [.int 0, .int 0, .int 0, .int 0, .int 0, .ref h4, .ref r6, .ref r7, .ref r8, .ref r9, .ref r10, .ref r11])), (h2, .inr (10, [.int 0, .int 0, .int 0, .int 0, .int 0, .ref r12, .ref r13, .ref r14, .ref r15, .ref r16, .ref r17, .ref r18, .ref h3])), (h3, .inr (4, [.int 0, .int 0, .int 0, .int 0, .int 0, .int 0, .int 0])), (h4, .inl (k0, 180, .inl f0)), (h5, .inr (3, [.int 0, .int 0, .ref r19, .ref r20, .ref r21, .ref r22, .ref h1, .ref h6, .ref h9])), (h6, .inl (k1, 122, .inr (.inr (.inr (.inr f1))))), (h7, .inr (4, [.int 0, .int 0, .int 0, .int 0, .int 0, .int 0, .int 0])), (h8, .inr (4, [.int 0, .int 0, .int 0, .int 0, .int 0, .int 0, .int 0])), (h9, .inl (k2, 3, .inl f2)), (h10, .inr (0, [.int 0, .int 0, .ref r25, .ref r26, .ref r27, .ref r28, .ref r29])), (h11, .inr (7, [.int 0, .int 0, .ref r30, .ref r31, .ref r32, .ref r33, .ref r34, .ref r35]))] sz)) 0 0 (va_A [(h0, .inr (11, [.ref r0, .int 0, .ref h2, .ref r1, .ref r2, .ref h1, .ref r3, .ref h5, .ref r4, .ref h10, .ref h11, .ref r5])), (h1, .inr (2, [.int 0, .int 0, .int 0, .int 0, .int 0, .ref h4, .ref r6, .ref r7, .ref r8, .ref r9, .ref r10, .ref r11])), (h2, .inr (10, [.int 0, .int 0, .int 0, .int 0, .int 0, .ref r12, .ref r13, .ref r14, .ref r15, .ref r16, .ref r17, .ref r18, .ref h3])), (h3, .inr (4, [.int 0, .int 0, .int 0, .int 0, .int 0, .int 0, .int 0])), (h4, .inl (k0, 180, .inl f0)), (h5, .inr (3, [.int 0, .int 0, .ref r19, .ref r20, .ref r21, .ref r22, .ref h1, .ref h6, .ref h9])), (h6, .inl (k1, 122, .inr (.inr (.inr (.inr f1))))), (h7, .inr (4, [.int 0, .int 0, .int 0, .int 0, .int 0, .int 0, .int 0])), (h8, .inr (4, [.int 0, .int 0, .int 0, .int 0, .int 0, .int 0, .int 0])), (h9, .inl (k2, 3, .inl f2)), (h10, .inr (0, [.int 0, .int 0, .ref r25, .ref r26, .ref r27, .ref r28, .ref r29])), (h11, .inr (7, [.int 0, .int 0, .ref r30, .ref r31, .ref r32, .ref r33, .ref r34, .ref r35]))] sz) := by
  refine zOfW (QF := fun A => va_Qv (fun (u : (Nat → Int32) × (Nat → Int32)) => match u with | (ff_69, ff_71) => ff_71 0 = (-1) ∧ ff_71 1 = (-1) ∧ ff_71 2 = (-1)) (zB D A (fun (u : (Nat → Int32) × (Nat → Int32)) => match u with | (ff_69, ff_71) => [(h0, .inr (11, [.ref r0, .int 0, .ref h2, .ref r1, .ref r2, .ref h1, .ref r3, .ref h5, .ref r4, .ref h10, .ref h11, .ref r5])), (h1, .inr (2, [.int 0, .int 0, .int 0, .int 0, .int 0, .ref h4, .ref r6, .ref r7, .ref r8, .ref r9, .ref r10, .ref r11])), (h2, .inr (10, [.int 0, .int 0, .int 0, .int 0, .int 0, .ref r12, .ref r13, .ref r14, .ref r15, .ref r16, .ref r17, .ref r18, .ref h3])), (h3, .inr (4, [.int 0, .int 0, .int 0, .int 0, .int 0, .int 0, .int 0])), (h4, .inl (k0, 180, .inl ff_69)), (h5, .inr (3, [.int 0, .int 0, .ref r19, .ref r20, .ref r21, .ref r22, .ref h1, .ref h6, .ref h9])), (h6, .inl (k1, 122, .inr (.inr (.inr (.inr f1))))), (h7, .inr (4, [.int 0, .int 0, .int 0, .int 0, .int 0, .int 0, .int 0])), (h8, .inr (4, [.int 0, .int 0, .int 0, .int 0, .int 0, .int 0, .int 0])), (h9, .inl (k2, 3, .inl ff_71)), (h10, .inr (0, [.int 0, .int 0, .ref r25, .ref r26, .ref r27, .ref r28, .ref r29])), (h11, .inr (7, [.int 0, .int 0, .ref r30, .ref r31, .ref r32, .ref r33, .ref r34, .ref r35]))]) (fun (u : (Nat → Int32) × (Nat → Int32)) => match u with | (ff_69, ff_71) => [])) A) (cc := cX11_begin) (maxL := 1) (ret := none) (by decide) rfl (Nat.le_of_ble_eq_true rfl) ?_
  intro p e s m below meth c A ls hx hb hr hml hts hown hlocks hin hA hS hP hD hK hN hl
  have hl : lv_has ls 1 [(0, .ref h0)] := hl
  refine lv_aload_n hx hb dX11_begin_0 rfl (lv_at hl 0 rfl) ?_
  refine va_get (D := D) (ci := 11) (v := .ref h1) (C := RX11) (T := TX11) (N := 12) hx hb hts iuX11_begin_X11 hown hK hP 0 rfl rfl 5 (by decide) (hts (.fieldLink RX11 39 "StraitGame" "laws" "LStraitGame$Laws;") (List.mem_of_getElem? (i := 1) rfl)) (fun _ h9 => h9) rfl dX11_begin_1 ?_
  refine lv_aload_n hx hb dX11_begin_4 rfl (lv_at hl 0 rfl) ?_
  refine va_get (D := D) (ci := 11) (v := .ref h2) (C := RX11) (T := TX11) (N := 12) hx hb hts iuX11_begin_X11 hown hK hP 0 rfl rfl 2 (by decide) (hts (.fieldLink RX11 20 "StraitGame" "told" "LStraitGame$Told;") (List.mem_of_getElem? (i := 2) rfl)) (fun _ h9 => h9) rfl dX11_begin_5 ?_
  refine zA_v (zR_V (As := [.ref h2]) (rest := []) ⟨hx, hb, hml, hown, hts⟩ (zX2_install_2 l D h2 h1 h3 h4 r12 r13 r14 r15 r16 r17 r18 r6 r7 r8 r9 r10 r11 k0 f0 _) (cwV 1 hts gX11_begin_X2_install rfl rfl rfl (by decide +kernel) ⟨(Nat.le_of_ble_eq_true rfl), (Nat.le_of_ble_eq_true rfl)⟩) hP hD hK hN [2, 1, 3, 4] [0] rfl (by decide) rfl 1 2 rfl rfl rfl hl.1 rfl (Nat.le_of_ble_eq_true rfl) dX11_begin_8 ⟨(Nat.le_of_ble_eq_true rfl), (Nat.le_of_ble_eq_true rfl)⟩) hP hD hK hS hA [2, 1, 3, 4] [0, 5, 6, 7, 8, 9, 10, 11] rfl rfl (by decide) (by decide) (fun u H locs hw hP hD hK hS => ?_)
  obtain ⟨ff_73, rfl⟩ : ∃ z, z = u := ⟨_, rfl⟩
  have hK : va_K D vwCl [(k0, .int), (k1, .object RX4), (k2, .int)] s := hK
  have hP : va_P D vwCl [(h0, .inr (11, [.ref r0, .int 0, .ref h2, .ref r1, .ref r2, .ref h1, .ref r3, .ref h5, .ref r4, .ref h10, .ref h11, .ref r5])), (h5, .inr (3, [.int 0, .int 0, .ref r19, .ref r20, .ref r21, .ref r22, .ref h1, .ref h6, .ref h9])), (h6, .inl (k1, 122, .inr (.inr (.inr (.inr f1))))), (h7, .inr (4, [.int 0, .int 0, .int 0, .int 0, .int 0, .int 0, .int 0])), (h8, .inr (4, [.int 0, .int 0, .int 0, .int 0, .int 0, .int 0, .int 0])), (h9, .inl (k2, 3, .inl f2)), (h10, .inr (0, [.int 0, .int 0, .ref r25, .ref r26, .ref r27, .ref r28, .ref r29])), (h11, .inr (7, [.int 0, .int 0, .ref r30, .ref r31, .ref r32, .ref r33, .ref r34, .ref r35])), (h2, .inr (10, [.int 0, .int 0, .int 0, .int 0, .int 0, .ref r12, .ref r13, .ref r14, .ref r15, .ref r16, .ref r17, .ref r18, .ref h3])), (h1, .inr (2, [.int 0, .int 0, .int 0, .int 0, .int 0, .ref h4, .ref r6, .ref r7, .ref r8, .ref r9, .ref r10, .ref r11])), (h3, .inr (4, [.int 0, .int 0, .int 0, .int 0, .int 0, .int 0, .int 0])), (h4, .inl (k0, 180, .inl ff_73))] H := hP
  have hD : va_D A [(h0, .inr (11, [.ref r0, .int 0, .ref h2, .ref r1, .ref r2, .ref h1, .ref r3, .ref h5, .ref r4, .ref h10, .ref h11, .ref r5])), (h5, .inr (3, [.int 0, .int 0, .ref r19, .ref r20, .ref r21, .ref r22, .ref h1, .ref h6, .ref h9])), (h6, .inl (k1, 122, .inr (.inr (.inr (.inr f1))))), (h7, .inr (4, [.int 0, .int 0, .int 0, .int 0, .int 0, .int 0, .int 0])), (h8, .inr (4, [.int 0, .int 0, .int 0, .int 0, .int 0, .int 0, .int 0])), (h9, .inl (k2, 3, .inl f2)), (h10, .inr (0, [.int 0, .int 0, .ref r25, .ref r26, .ref r27, .ref r28, .ref r29])), (h11, .inr (7, [.int 0, .int 0, .ref r30, .ref r31, .ref r32, .ref r33, .ref r34, .ref r35])), (h2, .inr (10, [.int 0, .int 0, .int 0, .int 0, .int 0, .ref r12, .ref r13, .ref r14, .ref r15, .ref r16, .ref r17, .ref r18, .ref h3])), (h1, .inr (2, [.int 0, .int 0, .int 0, .int 0, .int 0, .ref h4, .ref r6, .ref r7, .ref r8, .ref r9, .ref r10, .ref r11])), (h3, .inr (4, [.int 0, .int 0, .int 0, .int 0, .int 0, .int 0, .int 0])), (h4, .inl (k0, 180, .inl ff_73))] := hD
  refine W.widen (k := 0) (n := 0) (Nat.le_of_ble_eq_true rfl) (Nat.le_of_ble_eq_true rfl) ?_
  refine lv_aload_n hx hb dX11_begin_11 rfl (lv_at hl 0 rfl) ?_
  refine va_get (D := D) (ci := 11) (v := .ref h5) (C := RX11) (T := TX11) (N := 12) hx hb hts iuX11_begin_X11 hown hK hP 0 rfl rfl 7 (by decide) (hts (.fieldLink RX11 55 "StraitGame" "nights" "LStraitGame$Nights;") (List.mem_of_getElem? (i := 3) rfl)) (fun _ h9 => h9) rfl dX11_begin_12 ?_
  refine lv_aload_n hx hb dX11_begin_15 rfl (lv_at hl 0 rfl) ?_
  refine va_get (D := D) (ci := 11) (v := .ref h2) (C := RX11) (T := TX11) (N := 12) hx hb hts iuX11_begin_X11 hown hK hP 0 rfl rfl 2 (by decide) (hts (.fieldLink RX11 20 "StraitGame" "told" "LStraitGame$Told;") (List.mem_of_getElem? (i := 2) rfl)) (fun _ h9 => h9) rfl dX11_begin_16 ?_
  refine va_get (D := D) (ci := 10) (v := .ref h3) (C := RX10) (T := TX10) (N := 13) hx hb hts iuX11_begin_X10 hown hK hP 8 rfl rfl 12 (by decide) (hts (.fieldLink RX11 112 "StraitGame$Told" "start" "LStraitGame$Position;") (List.mem_of_getElem? (i := 4) rfl)) (fun _ h9 => h9) rfl dX11_begin_19 ?_
  refine zA_v (zR_V (As := [.ref h3]) (rest := []) ⟨hx, hb, hml, hown, hts⟩ (zX3_begin_2 l D h5 h6 h7 h3 h8 h9 r19 r20 r21 r22 h1 r23 r24 k1 k2 f1 f2 _ (hf_f1_0) (hf_f1_1) (hf_f1_2) (hf_f1_3) (hf_f2_0) (hf_f2_1) (hf_f2_2)) (cwV 1 hts gX11_begin_X3_begin rfl rfl rfl (by decide +kernel) ⟨(Nat.le_of_ble_eq_true rfl), (Nat.le_of_ble_eq_true rfl)⟩) hP hD hK hN [1, 2, 3, 10, 4, 5] [1, 2] rfl (by decide) rfl 0 3 rfl rfl rfl hl.1 rfl (Nat.le_of_ble_eq_true rfl) dX11_begin_22 ⟨(Nat.le_of_ble_eq_true rfl), (Nat.le_of_ble_eq_true rfl)⟩) hP hD hK hS hA [1, 2, 3, 10, 4, 5] [0, 6, 7, 8, 9, 11] rfl rfl (by decide) (by decide) (fun u H locs hw hP hD hK hS => ?_)
  obtain ⟨ff_75, rfl⟩ : ∃ z, z = u := ⟨_, rfl⟩
  have hK : va_K D vwCl [(k0, .int), (k1, .object RX4), (k2, .int)] s := hK
  have hP : va_P D vwCl [(h0, .inr (11, [.ref r0, .int 0, .ref h2, .ref r1, .ref r2, .ref h1, .ref r3, .ref h5, .ref r4, .ref h10, .ref h11, .ref r5])), (h10, .inr (0, [.int 0, .int 0, .ref r25, .ref r26, .ref r27, .ref r28, .ref r29])), (h11, .inr (7, [.int 0, .int 0, .ref r30, .ref r31, .ref r32, .ref r33, .ref r34, .ref r35])), (h2, .inr (10, [.int 0, .int 0, .int 0, .int 0, .int 0, .ref r12, .ref r13, .ref r14, .ref r15, .ref r16, .ref r17, .ref r18, .ref h3])), (h1, .inr (2, [.int 0, .int 0, .int 0, .int 0, .int 0, .ref h4, .ref r6, .ref r7, .ref r8, .ref r9, .ref r10, .ref r11])), (h4, .inl (k0, 180, .inl ff_73)), (h5, .inr (3, [.int 0, .int 0, .ref r19, .ref r20, .ref r21, .ref r22, .ref h1, .ref h6, .ref h9])), (h6, .inl (k1, 122, .inr (.inr (.inr (.inr f1))))), (h7, .inr (4, [.int 0, .int 0, .int 0, .int 0, .int 0, .int 0, .int 0])), (h3, .inr (4, [.int 0, .int 0, .int 0, .int 0, .int 0, .int 0, .int 0])), (h8, .inr (4, [.int 0, .int 0, .int 0, .int 0, .int 0, .int 0, .int 0])), (h9, .inl (k2, 3, .inl ff_75))] H := hP
  have hD : va_D A [(h0, .inr (11, [.ref r0, .int 0, .ref h2, .ref r1, .ref r2, .ref h1, .ref r3, .ref h5, .ref r4, .ref h10, .ref h11, .ref r5])), (h10, .inr (0, [.int 0, .int 0, .ref r25, .ref r26, .ref r27, .ref r28, .ref r29])), (h11, .inr (7, [.int 0, .int 0, .ref r30, .ref r31, .ref r32, .ref r33, .ref r34, .ref r35])), (h2, .inr (10, [.int 0, .int 0, .int 0, .int 0, .int 0, .ref r12, .ref r13, .ref r14, .ref r15, .ref r16, .ref r17, .ref r18, .ref h3])), (h1, .inr (2, [.int 0, .int 0, .int 0, .int 0, .int 0, .ref h4, .ref r6, .ref r7, .ref r8, .ref r9, .ref r10, .ref r11])), (h4, .inl (k0, 180, .inl ff_73)), (h5, .inr (3, [.int 0, .int 0, .ref r19, .ref r20, .ref r21, .ref r22, .ref h1, .ref h6, .ref h9])), (h6, .inl (k1, 122, .inr (.inr (.inr (.inr f1))))), (h7, .inr (4, [.int 0, .int 0, .int 0, .int 0, .int 0, .int 0, .int 0])), (h3, .inr (4, [.int 0, .int 0, .int 0, .int 0, .int 0, .int 0, .int 0])), (h8, .inr (4, [.int 0, .int 0, .int 0, .int 0, .int 0, .int 0, .int 0])), (h9, .inl (k2, 3, .inl ff_75))] := hD
  refine W.widen (k := 0) (n := 0) (Nat.le_of_ble_eq_true rfl) (Nat.le_of_ble_eq_true rfl) ?_
  have hf_74 : ff_75 0 = (-1) := hw.1
  have hf_75 : ff_75 1 = (-1) := hw.2.1
  have hf_76 : ff_75 2 = (-1) := hw.2.2
  refine lv_aload_n hx hb dX11_begin_25 rfl (lv_at hl 0 rfl) ?_
  refine va_get (D := D) (ci := 11) (v := .ref h10) (C := RX11) (T := TX11) (N := 12) hx hb hts iuX11_begin_X11 hown hK hP 0 rfl rfl 9 (by decide) (hts (.fieldLink RX11 71 "StraitGame" "codes" "LStraitGame$Codes;") (List.mem_of_getElem? (i := 5) rfl)) (fun _ h9 => h9) rfl dX11_begin_26 ?_
  refine lv_aload_n hx hb dX11_begin_29 rfl (lv_at hl 0 rfl) ?_
  refine va_get (D := D) (ci := 11) (v := .ref h2) (C := RX11) (T := TX11) (N := 12) hx hb hts iuX11_begin_X11 hown hK hP 0 rfl rfl 2 (by decide) (hts (.fieldLink RX11 20 "StraitGame" "told" "LStraitGame$Told;") (List.mem_of_getElem? (i := 2) rfl)) (fun _ h9 => h9) rfl dX11_begin_30 ?_
  refine zA_v (zR_V (As := [.ref h2]) (rest := []) ⟨hx, hb, hml, hown, hts⟩ (zX0_settle_1 l D h2 h10 r12 r13 r14 r15 r16 r17 r18 h3 r25 r26 r27 r28 r29 _) (cwV 1 hts gX11_begin_X0_settle rfl rfl rfl (by decide +kernel) ⟨(Nat.le_of_ble_eq_true rfl), (Nat.le_of_ble_eq_true rfl)⟩) hP hD hK hN [3, 1] [] rfl (by decide) rfl 1 0 rfl rfl rfl hl.1 rfl (Nat.le_of_ble_eq_true rfl) dX11_begin_33 ⟨(Nat.le_of_ble_eq_true rfl), (Nat.le_of_ble_eq_true rfl)⟩) hP hD hK hS hA [3, 1] [0, 2, 4, 5, 6, 7, 8, 9, 10, 11] rfl rfl (by decide) (by decide) (fun u H locs hw hP hD hK hS => ?_)
  have hK : va_K D vwCl [(k0, .int), (k1, .object RX4), (k2, .int)] s := hK
  have hP : va_P D vwCl [(h0, .inr (11, [.ref r0, .int 0, .ref h2, .ref r1, .ref r2, .ref h1, .ref r3, .ref h5, .ref r4, .ref h10, .ref h11, .ref r5])), (h11, .inr (7, [.int 0, .int 0, .ref r30, .ref r31, .ref r32, .ref r33, .ref r34, .ref r35])), (h1, .inr (2, [.int 0, .int 0, .int 0, .int 0, .int 0, .ref h4, .ref r6, .ref r7, .ref r8, .ref r9, .ref r10, .ref r11])), (h4, .inl (k0, 180, .inl ff_73)), (h5, .inr (3, [.int 0, .int 0, .ref r19, .ref r20, .ref r21, .ref r22, .ref h1, .ref h6, .ref h9])), (h6, .inl (k1, 122, .inr (.inr (.inr (.inr f1))))), (h7, .inr (4, [.int 0, .int 0, .int 0, .int 0, .int 0, .int 0, .int 0])), (h3, .inr (4, [.int 0, .int 0, .int 0, .int 0, .int 0, .int 0, .int 0])), (h8, .inr (4, [.int 0, .int 0, .int 0, .int 0, .int 0, .int 0, .int 0])), (h9, .inl (k2, 3, .inl ff_75)), (h2, .inr (10, [.int 0, .int 0, .int 0, .int 0, .int 0, .ref r12, .ref r13, .ref r14, .ref r15, .ref r16, .ref r17, .ref r18, .ref h3])), (h10, .inr (0, [.int 0, .int 0, .ref r25, .ref r26, .ref r27, .ref r28, .ref r29]))] H := hP
  have hD : va_D A [(h0, .inr (11, [.ref r0, .int 0, .ref h2, .ref r1, .ref r2, .ref h1, .ref r3, .ref h5, .ref r4, .ref h10, .ref h11, .ref r5])), (h11, .inr (7, [.int 0, .int 0, .ref r30, .ref r31, .ref r32, .ref r33, .ref r34, .ref r35])), (h1, .inr (2, [.int 0, .int 0, .int 0, .int 0, .int 0, .ref h4, .ref r6, .ref r7, .ref r8, .ref r9, .ref r10, .ref r11])), (h4, .inl (k0, 180, .inl ff_73)), (h5, .inr (3, [.int 0, .int 0, .ref r19, .ref r20, .ref r21, .ref r22, .ref h1, .ref h6, .ref h9])), (h6, .inl (k1, 122, .inr (.inr (.inr (.inr f1))))), (h7, .inr (4, [.int 0, .int 0, .int 0, .int 0, .int 0, .int 0, .int 0])), (h3, .inr (4, [.int 0, .int 0, .int 0, .int 0, .int 0, .int 0, .int 0])), (h8, .inr (4, [.int 0, .int 0, .int 0, .int 0, .int 0, .int 0, .int 0])), (h9, .inl (k2, 3, .inl ff_75)), (h2, .inr (10, [.int 0, .int 0, .int 0, .int 0, .int 0, .ref r12, .ref r13, .ref r14, .ref r15, .ref r16, .ref r17, .ref r18, .ref h3])), (h10, .inr (0, [.int 0, .int 0, .ref r25, .ref r26, .ref r27, .ref r28, .ref r29]))] := hD
  refine W.widen (k := 0) (n := 0) (Nat.le_of_ble_eq_true rfl) (Nat.le_of_ble_eq_true rfl) ?_
  refine lv_aload_n hx hb dX11_begin_36 rfl (lv_at hl 0 rfl) ?_
  refine va_get (D := D) (ci := 11) (v := .ref h11) (C := RX11) (T := TX11) (N := 12) hx hb hts iuX11_begin_X11 hown hK hP 0 rfl rfl 10 (by decide) (hts (.fieldLink RX11 78 "StraitGame" "sights" "LStraitGame$Sights;") (List.mem_of_getElem? (i := 6) rfl)) (fun _ h9 => h9) rfl dX11_begin_37 ?_
  refine lv_iconst (v := 0) hx hb dX11_begin_40 (by decide) ?_
  refine va_put (D := D) (ci := 7) (v := .int 0) (ty := .int) (C := RX7) (T := TX7) (N := 8) hx hb hts iuX11_begin_X7 tyX7 tyX7_ok nmX7 hown hK hP hD hS 1 rfl rfl 0 (by decide) (hts (.fieldLink RX11 122 "StraitGame$Sights" "count" "I") (List.mem_of_getElem? (i := 7) rfl)) (fun _ h9 => h9) rfl (by decide +kernel) rfl rfl (Nat.le_of_ble_eq_true rfl) dX11_begin_41 (fun H locs hP hD hS => ?_)
  have hP : va_P D vwCl [(h0, .inr (11, [.ref r0, .int 0, .ref h2, .ref r1, .ref r2, .ref h1, .ref r3, .ref h5, .ref r4, .ref h10, .ref h11, .ref r5])), (h11, .inr (7, [.int 0, .int 0, .ref r30, .ref r31, .ref r32, .ref r33, .ref r34, .ref r35])), (h1, .inr (2, [.int 0, .int 0, .int 0, .int 0, .int 0, .ref h4, .ref r6, .ref r7, .ref r8, .ref r9, .ref r10, .ref r11])), (h4, .inl (k0, 180, .inl ff_73)), (h5, .inr (3, [.int 0, .int 0, .ref r19, .ref r20, .ref r21, .ref r22, .ref h1, .ref h6, .ref h9])), (h6, .inl (k1, 122, .inr (.inr (.inr (.inr f1))))), (h7, .inr (4, [.int 0, .int 0, .int 0, .int 0, .int 0, .int 0, .int 0])), (h3, .inr (4, [.int 0, .int 0, .int 0, .int 0, .int 0, .int 0, .int 0])), (h8, .inr (4, [.int 0, .int 0, .int 0, .int 0, .int 0, .int 0, .int 0])), (h9, .inl (k2, 3, .inl ff_75)), (h2, .inr (10, [.int 0, .int 0, .int 0, .int 0, .int 0, .ref r12, .ref r13, .ref r14, .ref r15, .ref r16, .ref r17, .ref r18, .ref h3])), (h10, .inr (0, [.int 0, .int 0, .ref r25, .ref r26, .ref r27, .ref r28, .ref r29]))] H := hP
  have hD : va_D A [(h0, .inr (11, [.ref r0, .int 0, .ref h2, .ref r1, .ref r2, .ref h1, .ref r3, .ref h5, .ref r4, .ref h10, .ref h11, .ref r5])), (h11, .inr (7, [.int 0, .int 0, .ref r30, .ref r31, .ref r32, .ref r33, .ref r34, .ref r35])), (h1, .inr (2, [.int 0, .int 0, .int 0, .int 0, .int 0, .ref h4, .ref r6, .ref r7, .ref r8, .ref r9, .ref r10, .ref r11])), (h4, .inl (k0, 180, .inl ff_73)), (h5, .inr (3, [.int 0, .int 0, .ref r19, .ref r20, .ref r21, .ref r22, .ref h1, .ref h6, .ref h9])), (h6, .inl (k1, 122, .inr (.inr (.inr (.inr f1))))), (h7, .inr (4, [.int 0, .int 0, .int 0, .int 0, .int 0, .int 0, .int 0])), (h3, .inr (4, [.int 0, .int 0, .int 0, .int 0, .int 0, .int 0, .int 0])), (h8, .inr (4, [.int 0, .int 0, .int 0, .int 0, .int 0, .int 0, .int 0])), (h9, .inl (k2, 3, .inl ff_75)), (h2, .inr (10, [.int 0, .int 0, .int 0, .int 0, .int 0, .ref r12, .ref r13, .ref r14, .ref r15, .ref r16, .ref r17, .ref r18, .ref h3])), (h10, .inr (0, [.int 0, .int 0, .ref r25, .ref r26, .ref r27, .ref r28, .ref r29]))] := hD
  exact zret_v hx hb hr hlocks hP hD hK hS (ff_73, ff_75) ⟨(hf_74), (hf_75), (hf_76)⟩ [0, 2, 10, 7, 3, 4, 5, 6, 8, 9, 11, 1] [] (by decide) rfl rfl (Nat.le_of_ble_eq_true rfl) (Nat.le_of_ble_eq_true rfl) dX11_begin_44
set_option maxHeartbeats 4000000 in
set_option maxRecDepth 100000 in
theorem aX11_game_c1 (l : Launch) (D : va_G) (h0 h1 h2 h3 h4 h5 h6 h7 h8 h9 h10 h11 h12 h13 h14 h15 h16 r0 r1 r2 r3 r4 r5 r6 r7 r8 r9 r10 r11 r12 r13 r14 r15 r16 r17 r18 r19 r20 r21 r22 r23 r24 r25 r26 r27 r28 r29 r30 r31 r32 r33 r34 : Nat) (k0 k1 k2 k3 k4 k5 : ClassId) (f0 : Nat → Int32) (f1 : Nat → Option Nat) (f2 : Nat → Int32) (sz : Nat) (hf_f1_0 : f1 0 = some h12) (hf_f1_1 : f1 1 = some h13) (hf_f1_2 : f1 2 = some r22) (hf_f1_3 : f1 3 = some r23) (hf_f2_0 : f2 0 = (-1)) (hf_f2_1 : f2 1 = (-1)) (hf_f2_2 : f2 2 = (-1)) : Met l yX11_game wsX11_game ({ frames := 4, cells := 0, slots := 0, locals := 90 }) (zPre D [.ref h0] [(h0, .inr (11, [.ref h5, .int 0, .ref r0, .ref h1, .ref h3, .ref h8, .ref r1, .ref h10, .ref r2, .ref h15, .ref h16, .ref r3])), (h1, .inr (10, [.int 0, .int 0, .int 0, .int 0, .int 0, .ref r4, .ref r5, .ref r6, .ref r7, .ref r8, .ref r9, .ref r10, .ref h2])), (h2, .inr (4, [.int 0, .int 0, .int 0, .int 0, .int 0, .int 0, .int 0])), (h3, .inr (5, [.int 0, .int (-1), .ref h4, .ref h1, .int 0, .int 0, .int 0, .int 0, .int 0, .ref r11])), (h4, .inr (9, [.int 0, .ref h6, .ref h7, .ref h5, .int 0])), (h5, .inl (k0, 1600, .inl (fun _ => 0))), (h6, .inl (k1, 1601, .inl (fun _ => 0))), (h7, .inl (k2, 1601, .inl (fun _ => 0))), (h8, .inr (2, [.int 0, .int 0, .int 0, .int 0, .int 0, .ref h9, .ref r12, .ref r13, .ref r14, .ref r15, .ref r16, .ref r17])), (h9, .inl (k3, 180, .inl f0)), (h10, .inr (3, [.int 0, .int 0, .ref r18, .ref r19, .ref r20, .ref r21, .ref h8, .ref h11, .ref h14])), (h11, .inl (k4, 122, .inr (.inr (.inr (.inr f1))))), (h12, .inr (4, [.int 0, .int 0, .int 0, .int 0, .int 0, .int 0, .int 0])), (h13, .inr (4, [.int 0, .int 0, .int 0, .int 0, .int 0, .int 0, .int 0])), (h14, .inl (k5, 3, .inl f2)), (h15, .inr (0, [.int 0, .int 0, .ref r24, .ref r25, .ref r26, .ref r27, .ref r28])), (h16, .inr (7, [.int 0, .int 0, .ref r29, .ref r30, .ref r31, .ref r32, .ref r33, .ref r34]))] [(k0, .byte), (k1, .byte), (k2, .int), (k3, .int), (k4, .object RX4), (k5, .int)] sz) ((fun A => va_Qi (fun (r : Int32) (u : Unit) => r = 0) (zB D A (fun (u : Unit) => match u with | _ => []) (fun (u : Unit) => match u with | _ => [])) A) (va_A [(h0, .inr (11, [.ref h5, .int 0, .ref r0, .ref h1, .ref h3, .ref h8, .ref r1, .ref h10, .ref r2, .ref h15, .ref h16, .ref r3])), (h1, .inr (10, [.int 0, .int 0, .int 0, .int 0, .int 0, .ref r4, .ref r5, .ref r6, .ref r7, .ref r8, .ref r9, .ref r10, .ref h2])), (h2, .inr (4, [.int 0, .int 0, .int 0, .int 0, .int 0, .int 0, .int 0])), (h3, .inr (5, [.int 0, .int (-1), .ref h4, .ref h1, .int 0, .int 0, .int 0, .int 0, .int 0, .ref r11])), (h4, .inr (9, [.int 0, .ref h6, .ref h7, .ref h5, .int 0])), (h5, .inl (k0, 1600, .inl (fun _ => 0))), (h6, .inl (k1, 1601, .inl (fun _ => 0))), (h7, .inl (k2, 1601, .inl (fun _ => 0))), (h8, .inr (2, [.int 0, .int 0, .int 0, .int 0, .int 0, .ref h9, .ref r12, .ref r13, .ref r14, .ref r15, .ref r16, .ref r17])), (h9, .inl (k3, 180, .inl f0)), (h10, .inr (3, [.int 0, .int 0, .ref r18, .ref r19, .ref r20, .ref r21, .ref h8, .ref h11, .ref h14])), (h11, .inl (k4, 122, .inr (.inr (.inr (.inr f1))))), (h12, .inr (4, [.int 0, .int 0, .int 0, .int 0, .int 0, .int 0, .int 0])), (h13, .inr (4, [.int 0, .int 0, .int 0, .int 0, .int 0, .int 0, .int 0])), (h14, .inl (k5, 3, .inl f2)), (h15, .inr (0, [.int 0, .int 0, .ref r24, .ref r25, .ref r26, .ref r27, .ref r28])), (h16, .inr (7, [.int 0, .int 0, .ref r29, .ref r30, .ref r31, .ref r32, .ref r33, .ref r34]))] sz)) 0 0 (va_A [(h0, .inr (11, [.ref h5, .int 0, .ref r0, .ref h1, .ref h3, .ref h8, .ref r1, .ref h10, .ref r2, .ref h15, .ref h16, .ref r3])), (h1, .inr (10, [.int 0, .int 0, .int 0, .int 0, .int 0, .ref r4, .ref r5, .ref r6, .ref r7, .ref r8, .ref r9, .ref r10, .ref h2])), (h2, .inr (4, [.int 0, .int 0, .int 0, .int 0, .int 0, .int 0, .int 0])), (h3, .inr (5, [.int 0, .int (-1), .ref h4, .ref h1, .int 0, .int 0, .int 0, .int 0, .int 0, .ref r11])), (h4, .inr (9, [.int 0, .ref h6, .ref h7, .ref h5, .int 0])), (h5, .inl (k0, 1600, .inl (fun _ => 0))), (h6, .inl (k1, 1601, .inl (fun _ => 0))), (h7, .inl (k2, 1601, .inl (fun _ => 0))), (h8, .inr (2, [.int 0, .int 0, .int 0, .int 0, .int 0, .ref h9, .ref r12, .ref r13, .ref r14, .ref r15, .ref r16, .ref r17])), (h9, .inl (k3, 180, .inl f0)), (h10, .inr (3, [.int 0, .int 0, .ref r18, .ref r19, .ref r20, .ref r21, .ref h8, .ref h11, .ref h14])), (h11, .inl (k4, 122, .inr (.inr (.inr (.inr f1))))), (h12, .inr (4, [.int 0, .int 0, .int 0, .int 0, .int 0, .int 0, .int 0])), (h13, .inr (4, [.int 0, .int 0, .int 0, .int 0, .int 0, .int 0, .int 0])), (h14, .inl (k5, 3, .inl f2)), (h15, .inr (0, [.int 0, .int 0, .ref r24, .ref r25, .ref r26, .ref r27, .ref r28])), (h16, .inr (7, [.int 0, .int 0, .ref r29, .ref r30, .ref r31, .ref r32, .ref r33, .ref r34]))] sz) := by
  refine zOfW (QF := fun A => va_Qi (fun (r : Int32) (u : Unit) => r = 0) (zB D A (fun (u : Unit) => match u with | _ => []) (fun (u : Unit) => match u with | _ => [])) A) (cc := cX11_game) (maxL := 2) (ret := (some .int)) (by decide) rfl (Nat.le_of_ble_eq_true rfl) ?_
  intro p e s m below meth c A ls hx hb hr hml hts hown hlocks hin hA hS hP hD hK hN hl
  have hl : lv_has ls 2 [(0, .ref h0)] := hl
  refine lv_aload_n hx hb dX11_game_0 rfl (lv_at hl 0 rfl) ?_
  refine va_get (D := D) (ci := 11) (v := .ref h1) (C := RX11) (T := TX11) (N := 12) hx hb hts iuX11_game_X11 hown hK hP 0 rfl rfl 3 (by decide) (hts (.fieldLink RX11 24 "StraitGame" "draft" "LStraitGame$Told;") (List.mem_of_getElem? (i := 1) rfl)) (fun _ h9 => h9) rfl dX11_game_1 ?_
  refine zA_v (zR_V (As := []) (rest := []) ⟨hx, hb, hml, hown, hts⟩ (zX10_forget_1 l D h1 h2 r4 r5 r6 r7 r8 r9 r10 _) (cwV 0 hts gX11_game_X10_forget rfl rfl rfl (by decide +kernel) ⟨(Nat.le_of_ble_eq_true rfl), (Nat.le_of_ble_eq_true rfl)⟩) hP hD hK hN [1, 2] [] rfl (by decide) rfl 0 10 rfl rfl rfl hl.1 rfl (Nat.le_of_ble_eq_true rfl) dX11_game_4 ⟨(Nat.le_of_ble_eq_true rfl), (Nat.le_of_ble_eq_true rfl)⟩) hP hD hK hS hA [1, 2] [0, 3, 4, 5, 6, 7, 8, 9, 10, 11, 12, 13, 14, 15, 16] rfl rfl (by decide) (by decide) (fun u H locs hw hP hD hK hS => ?_)
  have hK : va_K D vwCl [(k0, .byte), (k1, .byte), (k2, .int), (k3, .int), (k4, .object RX4), (k5, .int)] s := hK
  have hP : va_P D vwCl [(h0, .inr (11, [.ref h5, .int 0, .ref r0, .ref h1, .ref h3, .ref h8, .ref r1, .ref h10, .ref r2, .ref h15, .ref h16, .ref r3])), (h3, .inr (5, [.int 0, .int (-1), .ref h4, .ref h1, .int 0, .int 0, .int 0, .int 0, .int 0, .ref r11])), (h4, .inr (9, [.int 0, .ref h6, .ref h7, .ref h5, .int 0])), (h5, .inl (k0, 1600, .inl (fun _ => 0))), (h6, .inl (k1, 1601, .inl (fun _ => 0))), (h7, .inl (k2, 1601, .inl (fun _ => 0))), (h8, .inr (2, [.int 0, .int 0, .int 0, .int 0, .int 0, .ref h9, .ref r12, .ref r13, .ref r14, .ref r15, .ref r16, .ref r17])), (h9, .inl (k3, 180, .inl f0)), (h10, .inr (3, [.int 0, .int 0, .ref r18, .ref r19, .ref r20, .ref r21, .ref h8, .ref h11, .ref h14])), (h11, .inl (k4, 122, .inr (.inr (.inr (.inr f1))))), (h12, .inr (4, [.int 0, .int 0, .int 0, .int 0, .int 0, .int 0, .int 0])), (h13, .inr (4, [.int 0, .int 0, .int 0, .int 0, .int 0, .int 0, .int 0])), (h14, .inl (k5, 3, .inl f2)), (h15, .inr (0, [.int 0, .int 0, .ref r24, .ref r25, .ref r26, .ref r27, .ref r28])), (h16, .inr (7, [.int 0, .int 0, .ref r29, .ref r30, .ref r31, .ref r32, .ref r33, .ref r34])), (h1, .inr (10, [.int 0, .int 0, .int 0, .int 0, .int 0, .ref r4, .ref r5, .ref r6, .ref r7, .ref r8, .ref r9, .ref r10, .ref h2])), (h2, .inr (4, [.int 0, .int 0, .int 0, .int 0, .int 0, .int 0, .int 0]))] H := hP
  have hD : va_D A [(h0, .inr (11, [.ref h5, .int 0, .ref r0, .ref h1, .ref h3, .ref h8, .ref r1, .ref h10, .ref r2, .ref h15, .ref h16, .ref r3])), (h3, .inr (5, [.int 0, .int (-1), .ref h4, .ref h1, .int 0, .int 0, .int 0, .int 0, .int 0, .ref r11])), (h4, .inr (9, [.int 0, .ref h6, .ref h7, .ref h5, .int 0])), (h5, .inl (k0, 1600, .inl (fun _ => 0))), (h6, .inl (k1, 1601, .inl (fun _ => 0))), (h7, .inl (k2, 1601, .inl (fun _ => 0))), (h8, .inr (2, [.int 0, .int 0, .int 0, .int 0, .int 0, .ref h9, .ref r12, .ref r13, .ref r14, .ref r15, .ref r16, .ref r17])), (h9, .inl (k3, 180, .inl f0)), (h10, .inr (3, [.int 0, .int 0, .ref r18, .ref r19, .ref r20, .ref r21, .ref h8, .ref h11, .ref h14])), (h11, .inl (k4, 122, .inr (.inr (.inr (.inr f1))))), (h12, .inr (4, [.int 0, .int 0, .int 0, .int 0, .int 0, .int 0, .int 0])), (h13, .inr (4, [.int 0, .int 0, .int 0, .int 0, .int 0, .int 0, .int 0])), (h14, .inl (k5, 3, .inl f2)), (h15, .inr (0, [.int 0, .int 0, .ref r24, .ref r25, .ref r26, .ref r27, .ref r28])), (h16, .inr (7, [.int 0, .int 0, .ref r29, .ref r30, .ref r31, .ref r32, .ref r33, .ref r34])), (h1, .inr (10, [.int 0, .int 0, .int 0, .int 0, .int 0, .ref r4, .ref r5, .ref r6, .ref r7, .ref r8, .ref r9, .ref r10, .ref h2])), (h2, .inr (4, [.int 0, .int 0, .int 0, .int 0, .int 0, .int 0, .int 0]))] := hD
  refine W.widen (k := 0) (n := 0) (Nat.le_of_ble_eq_true rfl) (Nat.le_of_ble_eq_true rfl) ?_
  refine lv_aload_n hx hb dX11_game_7 rfl (lv_at hl 0 rfl) ?_
  refine va_get (D := D) (ci := 11) (v := .ref h3) (C := RX11) (T := TX11) (N := 12) hx hb hts iuX11_game_X11 hown hK hP 0 rfl rfl 4 (by decide) (hts (.fieldLink RX11 32 "StraitGame" "reader" "LStraitGame$Reader;") (List.mem_of_getElem? (i := 2) rfl)) (fun _ h9 => h9) rfl dX11_game_8 ?_
  refine lv_aload_n hx hb dX11_game_11 rfl (lv_at hl 0 rfl) ?_
  refine va_get (D := D) (ci := 11) (v := .int 0) (C := RX11) (T := TX11) (N := 12) hx hb hts iuX11_game_X11 hown hK hP 0 rfl rfl 1 (by decide) (hts (.fieldLink RX11 13 "StraitGame" "tapeBytes" "I") (List.mem_of_getElem? (i := 3) rfl)) (fun _ h9 => h9) rfl dX11_game_12 ?_
  refine lv_aload_n hx hb dX11_game_15 rfl (lv_at hl 0 rfl) ?_
  refine va_get (D := D) (ci := 11) (v := .ref h1) (C := RX11) (T := TX11) (N := 12) hx hb hts iuX11_game_X11 hown hK hP 0 rfl rfl 3 (by decide) (hts (.fieldLink RX11 24 "StraitGame" "draft" "LStraitGame$Told;") (List.mem_of_getElem? (i := 1) rfl)) (fun _ h9 => h9) rfl dX11_game_16 ?_
  refine zA_i (zR_V (As := [.int 0, .ref h1]) (rest := []) ⟨hx, hb, hml, hown, hts⟩ (zX5_read_1 l D h3 h4 h5 h6 h7 h1 r11 k0 k1 k2 _) (cwV 2 hts gX11_game_X5_read rfl rfl rfl (by decide +kernel) ⟨(Nat.le_of_ble_eq_true rfl), (Nat.le_of_ble_eq_true rfl)⟩) hP hD hK hN [1, 2, 3, 4, 5] [0, 1, 2] rfl (by decide) rfl 0 5 rfl rfl rfl hl.1 rfl (Nat.le_of_ble_eq_true rfl) dX11_game_19 ⟨(Nat.le_of_ble_eq_true rfl), (Nat.le_of_ble_eq_true rfl)⟩) hP hD hK hS hA [1, 2, 3, 4, 5] [0, 6, 7, 8, 9, 10, 11, 12, 13, 14, 15, 16] rfl rfl (by decide) (by decide) (fun r_38 u H locs hw hP hD hK hS => ?_)
  have hK : va_K D vwCl [(k0, .byte), (k1, .byte), (k2, .int), (k3, .int), (k4, .object RX4), (k5, .int)] s := hK
  have hP : va_P D vwCl [(h0, .inr (11, [.ref h5, .int 0, .ref r0, .ref h1, .ref h3, .ref h8, .ref r1, .ref h10, .ref r2, .ref h15, .ref h16, .ref r3])), (h8, .inr (2, [.int 0, .int 0, .int 0, .int 0, .int 0, .ref h9, .ref r12, .ref r13, .ref r14, .ref r15, .ref r16, .ref r17])), (h9, .inl (k3, 180, .inl f0)), (h10, .inr (3, [.int 0, .int 0, .ref r18, .ref r19, .ref r20, .ref r21, .ref h8, .ref h11, .ref h14])), (h11, .inl (k4, 122, .inr (.inr (.inr (.inr f1))))), (h12, .inr (4, [.int 0, .int 0, .int 0, .int 0, .int 0, .int 0, .int 0])), (h13, .inr (4, [.int 0, .int 0, .int 0, .int 0, .int 0, .int 0, .int 0])), (h14, .inl (k5, 3, .inl f2)), (h15, .inr (0, [.int 0, .int 0, .ref r24, .ref r25, .ref r26, .ref r27, .ref r28])), (h16, .inr (7, [.int 0, .int 0, .ref r29, .ref r30, .ref r31, .ref r32, .ref r33, .ref r34])), (h1, .inr (10, [.int 0, .int 0, .int 0, .int 0, .int 0, .ref r4, .ref r5, .ref r6, .ref r7, .ref r8, .ref r9, .ref r10, .ref h2])), (h2, .inr (4, [.int 0, .int 0, .int 0, .int 0, .int 0, .int 0, .int 0])), (h3, .inr (5, [.int 0, .int (-1), .ref h4, .ref h1, .int 0, .int 0, .int 0, .int 0, .int 0, .ref r11])), (h4, .inr (9, [.int 1, .ref h6, .ref h7, .ref h5, .int 0])), (h5, .inl (k0, 1600, .inl (fun _ => 0))), (h6, .inl (k1, 1601, .inl (fun _ => 0))), (h7, .inl (k2, 1601, .inl (fun _ => 0)))] H := hP
  have hD : va_D A [(h0, .inr (11, [.ref h5, .int 0, .ref r0, .ref h1, .ref h3, .ref h8, .ref r1, .ref h10, .ref r2, .ref h15, .ref h16, .ref r3])), (h8, .inr (2, [.int 0, .int 0, .int 0, .int 0, .int 0, .ref h9, .ref r12, .ref r13, .ref r14, .ref r15, .ref r16, .ref r17])), (h9, .inl (k3, 180, .inl f0)), (h10, .inr (3, [.int 0, .int 0, .ref r18, .ref r19, .ref r20, .ref r21, .ref h8, .ref h11, .ref h14])), (h11, .inl (k4, 122, .inr (.inr (.inr (.inr f1))))), (h12, .inr (4, [.int 0, .int 0, .int 0, .int 0, .int 0, .int 0, .int 0])), (h13, .inr (4, [.int 0, .int 0, .int 0, .int 0, .int 0, .int 0, .int 0])), (h14, .inl (k5, 3, .inl f2)), (h15, .inr (0, [.int 0, .int 0, .ref r24, .ref r25, .ref r26, .ref r27, .ref r28])), (h16, .inr (7, [.int 0, .int 0, .ref r29, .ref r30, .ref r31, .ref r32, .ref r33, .ref r34])), (h1, .inr (10, [.int 0, .int 0, .int 0, .int 0, .int 0, .ref r4, .ref r5, .ref r6, .ref r7, .ref r8, .ref r9, .ref r10, .ref h2])), (h2, .inr (4, [.int 0, .int 0, .int 0, .int 0, .int 0, .int 0, .int 0])), (h3, .inr (5, [.int 0, .int (-1), .ref h4, .ref h1, .int 0, .int 0, .int 0, .int 0, .int 0, .ref r11])), (h4, .inr (9, [.int 1, .ref h6, .ref h7, .ref h5, .int 0])), (h5, .inl (k0, 1600, .inl (fun _ => 0))), (h6, .inl (k1, 1601, .inl (fun _ => 0))), (h7, .inl (k2, 1601, .inl (fun _ => 0)))] := hD
  refine W.widen (k := 0) (n := 0) (Nat.le_of_ble_eq_true rfl) (Nat.le_of_ble_eq_true rfl) ?_
  have er : r_38 = 1 := hw
  refine z_top (y := 1) er ?_
  refine lv_if_ne (tgt := 27) hx hb dX11_game_22 (by decide) (fun _ => ?_) (fun h9 => absurd h9 (by decide))
  refine lv_aload_n hx hb dX11_game_27 rfl (lv_at hl 0 rfl) ?_
  refine va_get (D := D) (ci := 11) (v := .ref r0) (C := RX11) (T := TX11) (N := 12) hx hb hts iuX11_game_X11 hown hK hP 0 rfl rfl 2 (by decide) (hts (.fieldLink RX11 20 "StraitGame" "told" "LStraitGame$Told;") (List.mem_of_getElem? (i := 4) rfl)) (fun _ h9 => h9) rfl dX11_game_28 ?_
  refine lv_astore_n (lv' := [(1, .ref r0), (0, .ref h0)]) hx hb dX11_game_31 rfl hl (by decide) rfl (fun ls hl => ?_)
  refine lv_aload_n hx hb dX11_game_32 rfl (lv_at hl 1 rfl) ?_
  refine lv_aload_n hx hb dX11_game_33 rfl (lv_at hl 1 rfl) ?_
  refine va_get (D := D) (ci := 11) (v := .ref h1) (C := RX11) (T := TX11) (N := 12) hx hb hts iuX11_game_X11 hown hK hP 0 rfl rfl 3 (by decide) (hts (.fieldLink RX11 24 "StraitGame" "draft" "LStraitGame$Told;") (List.mem_of_getElem? (i := 1) rfl)) (fun _ h9 => h9) rfl dX11_game_34 ?_
  refine va_put (D := D) (ci := 11) (v := .ref h1) (ty := (tyX11 2)) (C := RX11) (T := TX11) (N := 12) hx hb hts iuX11_game_X11 tyX11 tyX11_ok nmX11 hown hK hP hD hS 0 rfl rfl 2 (by decide) (hts (.fieldLink RX11 20 "StraitGame" "told" "LStraitGame$Told;") (List.mem_of_getElem? (i := 4) rfl)) (fun _ h9 => h9) rfl (by decide +kernel) rfl rfl (Nat.le_of_ble_eq_true rfl) dX11_game_37 (fun H locs hP hD hS => ?_)
  have hP : va_P D vwCl [(h0, .inr (11, [.ref h5, .int 0, .ref h1, .ref h1, .ref h3, .ref h8, .ref r1, .ref h10, .ref r2, .ref h15, .ref h16, .ref r3])), (h8, .inr (2, [.int 0, .int 0, .int 0, .int 0, .int 0, .ref h9, .ref r12, .ref r13, .ref r14, .ref r15, .ref r16, .ref r17])), (h9, .inl (k3, 180, .inl f0)), (h10, .inr (3, [.int 0, .int 0, .ref r18, .ref r19, .ref r20, .ref r21, .ref h8, .ref h11, .ref h14])), (h11, .inl (k4, 122, .inr (.inr (.inr (.inr f1))))), (h12, .inr (4, [.int 0, .int 0, .int 0, .int 0, .int 0, .int 0, .int 0])), (h13, .inr (4, [.int 0, .int 0, .int 0, .int 0, .int 0, .int 0, .int 0])), (h14, .inl (k5, 3, .inl f2)), (h15, .inr (0, [.int 0, .int 0, .ref r24, .ref r25, .ref r26, .ref r27, .ref r28])), (h16, .inr (7, [.int 0, .int 0, .ref r29, .ref r30, .ref r31, .ref r32, .ref r33, .ref r34])), (h1, .inr (10, [.int 0, .int 0, .int 0, .int 0, .int 0, .ref r4, .ref r5, .ref r6, .ref r7, .ref r8, .ref r9, .ref r10, .ref h2])), (h2, .inr (4, [.int 0, .int 0, .int 0, .int 0, .int 0, .int 0, .int 0])), (h3, .inr (5, [.int 0, .int (-1), .ref h4, .ref h1, .int 0, .int 0, .int 0, .int 0, .int 0, .ref r11])), (h4, .inr (9, [.int 1, .ref h6, .ref h7, .ref h5, .int 0])), (h5, .inl (k0, 1600, .inl (fun _ => 0))), (h6, .inl (k1, 1601, .inl (fun _ => 0))), (h7, .inl (k2, 1601, .inl (fun _ => 0)))] H := hP
  have hD : va_D A [(h0, .inr (11, [.ref h5, .int 0, .ref h1, .ref h1, .ref h3, .ref h8, .ref r1, .ref h10, .ref r2, .ref h15, .ref h16, .ref r3])), (h8, .inr (2, [.int 0, .int 0, .int 0, .int 0, .int 0, .ref h9, .ref r12, .ref r13, .ref r14, .ref r15, .ref r16, .ref r17])), (h9, .inl (k3, 180, .inl f0)), (h10, .inr (3, [.int 0, .int 0, .ref r18, .ref r19, .ref r20, .ref r21, .ref h8, .ref h11, .ref h14])), (h11, .inl (k4, 122, .inr (.inr (.inr (.inr f1))))), (h12, .inr (4, [.int 0, .int 0, .int 0, .int 0, .int 0, .int 0, .int 0])), (h13, .inr (4, [.int 0, .int 0, .int 0, .int 0, .int 0, .int 0, .int 0])), (h14, .inl (k5, 3, .inl f2)), (h15, .inr (0, [.int 0, .int 0, .ref r24, .ref r25, .ref r26, .ref r27, .ref r28])), (h16, .inr (7, [.int 0, .int 0, .ref r29, .ref r30, .ref r31, .ref r32, .ref r33, .ref r34])), (h1, .inr (10, [.int 0, .int 0, .int 0, .int 0, .int 0, .ref r4, .ref r5, .ref r6, .ref r7, .ref r8, .ref r9, .ref r10, .ref h2])), (h2, .inr (4, [.int 0, .int 0, .int 0, .int 0, .int 0, .int 0, .int 0])), (h3, .inr (5, [.int 0, .int (-1), .ref h4, .ref h1, .int 0, .int 0, .int 0, .int 0, .int 0, .ref r11])), (h4, .inr (9, [.int 1, .ref h6, .ref h7, .ref h5, .int 0])), (h5, .inl (k0, 1600, .inl (fun _ => 0))), (h6, .inl (k1, 1601, .inl (fun _ => 0))), (h7, .inl (k2, 1601, .inl (fun _ => 0)))] := hD
  refine lv_aload_n hx hb dX11_game_40 rfl (lv_at hl 1 rfl) ?_
  refine lv_aload_n hx hb dX11_game_41 rfl (lv_at hl 0 rfl) ?_
  refine va_put (D := D) (ci := 11) (v := .ref r0) (ty := (tyX11 3)) (C := RX11) (T := TX11) (N := 12) hx hb hts iuX11_game_X11 tyX11 tyX11_ok nmX11 hown hK hP hD hS 0 rfl rfl 3 (by decide) (hts (.fieldLink RX11 24 "StraitGame" "draft" "LStraitGame$Told;") (List.mem_of_getElem? (i := 1) rfl)) (fun _ h9 => h9) rfl (by decide +kernel) rfl rfl (Nat.le_of_ble_eq_true rfl) dX11_game_42 (fun H locs hP hD hS => ?_)
  have hP : va_P D vwCl [(h0, .inr (11, [.ref h5, .int 0, .ref h1, .ref r0, .ref h3, .ref h8, .ref r1, .ref h10, .ref r2, .ref h15, .ref h16, .ref r3])), (h8, .inr (2, [.int 0, .int 0, .int 0, .int 0, .int 0, .ref h9, .ref r12, .ref r13, .ref r14, .ref r15, .ref r16, .ref r17])), (h9, .inl (k3, 180, .inl f0)), (h10, .inr (3, [.int 0, .int 0, .ref r18, .ref r19, .ref r20, .ref r21, .ref h8, .ref h11, .ref h14])), (h11, .inl (k4, 122, .inr (.inr (.inr (.inr f1))))), (h12, .inr (4, [.int 0, .int 0, .int 0, .int 0, .int 0, .int 0, .int 0])), (h13, .inr (4, [.int 0, .int 0, .int 0, .int 0, .int 0, .int 0, .int 0])), (h14, .inl (k5, 3, .inl f2)), (h15, .inr (0, [.int 0, .int 0, .ref r24, .ref r25, .ref r26, .ref r27, .ref r28])), (h16, .inr (7, [.int 0, .int 0, .ref r29, .ref r30, .ref r31, .ref r32, .ref r33, .ref r34])), (h1, .inr (10, [.int 0, .int 0, .int 0, .int 0, .int 0, .ref r4, .ref r5, .ref r6, .ref r7, .ref r8, .ref r9, .ref r10, .ref h2])), (h2, .inr (4, [.int 0, .int 0, .int 0, .int 0, .int 0, .int 0, .int 0])), (h3, .inr (5, [.int 0, .int (-1), .ref h4, .ref h1, .int 0, .int 0, .int 0, .int 0, .int 0, .ref r11])), (h4, .inr (9, [.int 1, .ref h6, .ref h7, .ref h5, .int 0])), (h5, .inl (k0, 1600, .inl (fun _ => 0))), (h6, .inl (k1, 1601, .inl (fun _ => 0))), (h7, .inl (k2, 1601, .inl (fun _ => 0)))] H := hP
  have hD : va_D A [(h0, .inr (11, [.ref h5, .int 0, .ref h1, .ref r0, .ref h3, .ref h8, .ref r1, .ref h10, .ref r2, .ref h15, .ref h16, .ref r3])), (h8, .inr (2, [.int 0, .int 0, .int 0, .int 0, .int 0, .ref h9, .ref r12, .ref r13, .ref r14, .ref r15, .ref r16, .ref r17])), (h9, .inl (k3, 180, .inl f0)), (h10, .inr (3, [.int 0, .int 0, .ref r18, .ref r19, .ref r20, .ref r21, .ref h8, .ref h11, .ref h14])), (h11, .inl (k4, 122, .inr (.inr (.inr (.inr f1))))), (h12, .inr (4, [.int 0, .int 0, .int 0, .int 0, .int 0, .int 0, .int 0])), (h13, .inr (4, [.int 0, .int 0, .int 0, .int 0, .int 0, .int 0, .int 0])), (h14, .inl (k5, 3, .inl f2)), (h15, .inr (0, [.int 0, .int 0, .ref r24, .ref r25, .ref r26, .ref r27, .ref r28])), (h16, .inr (7, [.int 0, .int 0, .ref r29, .ref r30, .ref r31, .ref r32, .ref r33, .ref r34])), (h1, .inr (10, [.int 0, .int 0, .int 0, .int 0, .int 0, .ref r4, .ref r5, .ref r6, .ref r7, .ref r8, .ref r9, .ref r10, .ref h2])), (h2, .inr (4, [.int 0, .int 0, .int 0, .int 0, .int 0, .int 0, .int 0])), (h3, .inr (5, [.int 0, .int (-1), .ref h4, .ref h1, .int 0, .int 0, .int 0, .int 0, .int 0, .ref r11])), (h4, .inr (9, [.int 1, .ref h6, .ref h7, .ref h5, .int 0])), (h5, .inl (k0, 1600, .inl (fun _ => 0))), (h6, .inl (k1, 1601, .inl (fun _ => 0))), (h7, .inl (k2, 1601, .inl (fun _ => 0)))] := hD
  refine lv_aload_n hx hb dX11_game_45 rfl (lv_at hl 1 rfl) ?_
  refine lv_iconst (v := 0) hx hb dX11_game_46 (by decide) ?_
  refine va_put (D := D) (ci := 11) (v := .int 0) (ty := .int) (C := RX11) (T := TX11) (N := 12) hx hb hts iuX11_game_X11 tyX11 tyX11_ok nmX11 hown hK hP hD hS 0 rfl rfl 1 (by decide) (hts (.fieldLink RX11 13 "StraitGame" "tapeBytes" "I") (List.mem_of_getElem? (i := 3) rfl)) (fun _ h9 => h9) rfl (by decide +kernel) rfl rfl (Nat.le_of_ble_eq_true rfl) dX11_game_47 (fun H locs hP hD hS => ?_)
  have hP : va_P D vwCl [(h0, .inr (11, [.ref h5, .int 0, .ref h1, .ref r0, .ref h3, .ref h8, .ref r1, .ref h10, .ref r2, .ref h15, .ref h16, .ref r3])), (h8, .inr (2, [.int 0, .int 0, .int 0, .int 0, .int 0, .ref h9, .ref r12, .ref r13, .ref r14, .ref r15, .ref r16, .ref r17])), (h9, .inl (k3, 180, .inl f0)), (h10, .inr (3, [.int 0, .int 0, .ref r18, .ref r19, .ref r20, .ref r21, .ref h8, .ref h11, .ref h14])), (h11, .inl (k4, 122, .inr (.inr (.inr (.inr f1))))), (h12, .inr (4, [.int 0, .int 0, .int 0, .int 0, .int 0, .int 0, .int 0])), (h13, .inr (4, [.int 0, .int 0, .int 0, .int 0, .int 0, .int 0, .int 0])), (h14, .inl (k5, 3, .inl f2)), (h15, .inr (0, [.int 0, .int 0, .ref r24, .ref r25, .ref r26, .ref r27, .ref r28])), (h16, .inr (7, [.int 0, .int 0, .ref r29, .ref r30, .ref r31, .ref r32, .ref r33, .ref r34])), (h1, .inr (10, [.int 0, .int 0, .int 0, .int 0, .int 0, .ref r4, .ref r5, .ref r6, .ref r7, .ref r8, .ref r9, .ref r10, .ref h2])), (h2, .inr (4, [.int 0, .int 0, .int 0, .int 0, .int 0, .int 0, .int 0])), (h3, .inr (5, [.int 0, .int (-1), .ref h4, .ref h1, .int 0, .int 0, .int 0, .int 0, .int 0, .ref r11])), (h4, .inr (9, [.int 1, .ref h6, .ref h7, .ref h5, .int 0])), (h5, .inl (k0, 1600, .inl (fun _ => 0))), (h6, .inl (k1, 1601, .inl (fun _ => 0))), (h7, .inl (k2, 1601, .inl (fun _ => 0)))] H := hP
  have hD : va_D A [(h0, .inr (11, [.ref h5, .int 0, .ref h1, .ref r0, .ref h3, .ref h8, .ref r1, .ref h10, .ref r2, .ref h15, .ref h16, .ref r3])), (h8, .inr (2, [.int 0, .int 0, .int 0, .int 0, .int 0, .ref h9, .ref r12, .ref r13, .ref r14, .ref r15, .ref r16, .ref r17])), (h9, .inl (k3, 180, .inl f0)), (h10, .inr (3, [.int 0, .int 0, .ref r18, .ref r19, .ref r20, .ref r21, .ref h8, .ref h11, .ref h14])), (h11, .inl (k4, 122, .inr (.inr (.inr (.inr f1))))), (h12, .inr (4, [.int 0, .int 0, .int 0, .int 0, .int 0, .int 0, .int 0])), (h13, .inr (4, [.int 0, .int 0, .int 0, .int 0, .int 0, .int 0, .int 0])), (h14, .inl (k5, 3, .inl f2)), (h15, .inr (0, [.int 0, .int 0, .ref r24, .ref r25, .ref r26, .ref r27, .ref r28])), (h16, .inr (7, [.int 0, .int 0, .ref r29, .ref r30, .ref r31, .ref r32, .ref r33, .ref r34])), (h1, .inr (10, [.int 0, .int 0, .int 0, .int 0, .int 0, .ref r4, .ref r5, .ref r6, .ref r7, .ref r8, .ref r9, .ref r10, .ref h2])), (h2, .inr (4, [.int 0, .int 0, .int 0, .int 0, .int 0, .int 0, .int 0])), (h3, .inr (5, [.int 0, .int (-1), .ref h4, .ref h1, .int 0, .int 0, .int 0, .int 0, .int 0, .ref r11])), (h4, .inr (9, [.int 1, .ref h6, .ref h7, .ref h5, .int 0])), (h5, .inl (k0, 1600, .inl (fun _ => 0))), (h6, .inl (k1, 1601, .inl (fun _ => 0))), (h7, .inl (k2, 1601, .inl (fun _ => 0)))] := hD
  refine lv_aload_n hx hb dX11_game_50 rfl (lv_at hl 1 rfl) ?_
  refine zA_v (zR_V (As := []) (rest := []) ⟨hx, hb, hml, hown, hts⟩ (zX11_begin_2 l D h0 h8 h1 h2 h9 h10 h11 h12 h13 h14 h15 h16 h5 r0 h3 r1 r2 r3 r12 r13 r14 r15 r16 r17 r4 r5 r6 r7 r8 r9 r10 r18 r19 r20 r21 r22 r23 r24 r25 r26 r27 r28 r29 r30 r31 r32 r33 r34 k3 k4 k5 f0 f1 f2 _ (hf_f1_0) (hf_f1_1) (hf_f1_2) (hf_f1_3) (hf_f2_0) (hf_f2_1) (hf_f2_2)) (cwV 0 hts gX11_game_X11_begin rfl rfl rfl (by decide +kernel) ⟨(Nat.le_of_ble_eq_true rfl), (Nat.le_of_ble_eq_true rfl)⟩) hP hD hK hN [0, 1, 10, 11, 2, 3, 4, 5, 6, 7, 8, 9] [3, 4, 5] rfl (by decide) rfl 0 11 rfl rfl rfl hl.1 rfl (Nat.le_of_ble_eq_true rfl) dX11_game_51 ⟨(Nat.le_of_ble_eq_true rfl), (Nat.le_of_ble_eq_true rfl)⟩) hP hD hK hS hA [0, 1, 10, 11, 2, 3, 4, 5, 6, 7, 8, 9] [12, 13, 14, 15, 16] rfl rfl (by decide) (by decide) (fun u H locs hw hP hD hK hS => ?_)
  obtain ⟨ff_94, ff_95⟩ := u
  have hK : va_K D vwCl [(k0, .byte), (k1, .byte), (k2, .int), (k3, .int), (k4, .object RX4), (k5, .int)] s := hK
  have hP : va_P D vwCl [(h3, .inr (5, [.int 0, .int (-1), .ref h4, .ref h1, .int 0, .int 0, .int 0, .int 0, .int 0, .ref r11])), (h4, .inr (9, [.int 1, .ref h6, .ref h7, .ref h5, .int 0])), (h5, .inl (k0, 1600, .inl (fun _ => 0))), (h6, .inl (k1, 1601, .inl (fun _ => 0))), (h7, .inl (k2, 1601, .inl (fun _ => 0))), (h0, .inr (11, [.ref h5, .int 0, .ref h1, .ref r0, .ref h3, .ref h8, .ref r1, .ref h10, .ref r2, .ref h15, .ref h16, .ref r3])), (h8, .inr (2, [.int 0, .int 0, .int 0, .int 0, .int 0, .ref h9, .ref r12, .ref r13, .ref r14, .ref r15, .ref r16, .ref r17])), (h1, .inr (10, [.int 0, .int 0, .int 0, .int 0, .int 0, .ref r4, .ref r5, .ref r6, .ref r7, .ref r8, .ref r9, .ref r10, .ref h2])), (h2, .inr (4, [.int 0, .int 0, .int 0, .int 0, .int 0, .int 0, .int 0])), (h9, .inl (k3, 180, .inl ff_94)), (h10, .inr (3, [.int 0, .int 0, .ref r18, .ref r19, .ref r20, .ref r21, .ref h8, .ref h11, .ref h14])), (h11, .inl (k4, 122, .inr (.inr (.inr (.inr f1))))), (h12, .inr (4, [.int 0, .int 0, .int 0, .int 0, .int 0, .int 0, .int 0])), (h13, .inr (4, [.int 0, .int 0, .int 0, .int 0, .int 0, .int 0, .int 0])), (h14, .inl (k5, 3, .inl ff_95)), (h15, .inr (0, [.int 0, .int 0, .ref r24, .ref r25, .ref r26, .ref r27, .ref r28])), (h16, .inr (7, [.int 0, .int 0, .ref r29, .ref r30, .ref r31, .ref r32, .ref r33, .ref r34]))] H := hP
  have hD : va_D A [(h3, .inr (5, [.int 0, .int (-1), .ref h4, .ref h1, .int 0, .int 0, .int 0, .int 0, .int 0, .ref r11])), (h4, .inr (9, [.int 1, .ref h6, .ref h7, .ref h5, .int 0])), (h5, .inl (k0, 1600, .inl (fun _ => 0))), (h6, .inl (k1, 1601, .inl (fun _ => 0))), (h7, .inl (k2, 1601, .inl (fun _ => 0))), (h0, .inr (11, [.ref h5, .int 0, .ref h1, .ref r0, .ref h3, .ref h8, .ref r1, .ref h10, .ref r2, .ref h15, .ref h16, .ref r3])), (h8, .inr (2, [.int 0, .int 0, .int 0, .int 0, .int 0, .ref h9, .ref r12, .ref r13, .ref r14, .ref r15, .ref r16, .ref r17])), (h1, .inr (10, [.int 0, .int 0, .int 0, .int 0, .int 0, .ref r4, .ref r5, .ref r6, .ref r7, .ref r8, .ref r9, .ref r10, .ref h2])), (h2, .inr (4, [.int 0, .int 0, .int 0, .int 0, .int 0, .int 0, .int 0])), (h9, .inl (k3, 180, .inl ff_94)), (h10, .inr (3, [.int 0, .int 0, .ref r18, .ref r19, .ref r20, .ref r21, .ref h8, .ref h11, .ref h14])), (h11, .inl (k4, 122, .inr (.inr (.inr (.inr f1))))), (h12, .inr (4, [.int 0, .int 0, .int 0, .int 0, .int 0, .int 0, .int 0])), (h13, .inr (4, [.int 0, .int 0, .int 0, .int 0, .int 0, .int 0, .int 0])), (h14, .inl (k5, 3, .inl ff_95)), (h15, .inr (0, [.int 0, .int 0, .ref r24, .ref r25, .ref r26, .ref r27, .ref r28])), (h16, .inr (7, [.int 0, .int 0, .ref r29, .ref r30, .ref r31, .ref r32, .ref r33, .ref r34]))] := hD
  refine W.widen (k := 0) (n := 0) (Nat.le_of_ble_eq_true rfl) (Nat.le_of_ble_eq_true rfl) ?_
  have hf_104 : ff_95 0 = (-1) := hw.1
  have hf_105 : ff_95 1 = (-1) := hw.2.1
  have hf_106 : ff_95 2 = (-1) := hw.2.2
  refine lv_aload_n hx hb dX11_game_54 rfl (lv_at hl 1 rfl) ?_
  refine va_get (D := D) (ci := 11) (v := .ref h1) (C := RX11) (T := TX11) (N := 12) hx hb hts iuX11_game_X11 hown hK hP 5 rfl rfl 2 (by decide) (hts (.fieldLink RX11 20 "StraitGame" "told" "LStraitGame$Told;") (List.mem_of_getElem? (i := 4) rfl)) (fun _ h9 => h9) rfl dX11_game_55 ?_
  refine va_get (D := D) (ci := 10) (v := .int 0) (C := RX10) (T := TX10) (N := 13) hx hb hts iuX11_game_X10 hown hK hP 7 rfl rfl 3 (by decide) (hts (.fieldLink RX11 105 "StraitGame$Told" "men" "I") (List.mem_of_getElem? (i := 5) rfl)) (fun _ h9 => h9) rfl dX11_game_58 ?_
  exact zret_i hx hb hr hlocks hP hD hK hS () (rfl) [] [] (by decide) rfl rfl (Nat.le_of_ble_eq_true rfl) (Nat.le_of_ble_eq_true rfl) dX11_game_61
theorem aX11_game (l : Launch) (D : va_G) (h0 h1 h2 h3 h4 h5 h6 h7 h8 h9 h10 h11 h12 h13 h14 h15 h16 r0 r1 r2 r3 r4 r5 r6 r7 r8 r9 r10 r11 r12 r13 r14 r15 r16 r17 r18 r19 r20 r21 r22 r23 r24 r25 r26 r27 r28 r29 r30 r31 r32 r33 r34 : Nat) (k0 k1 k2 k3 k4 k5 : ClassId) (f0 : Nat → Int32) (f1 : Nat → Option Nat) (f2 : Nat → Int32) (sz : Nat) (hf_f1_0 : f1 0 = some h12) (hf_f1_1 : f1 1 = some h13) (hf_f1_2 : f1 2 = some r22) (hf_f1_3 : f1 3 = some r23) (hf_f2_0 : f2 0 = (-1)) (hf_f2_1 : f2 1 = (-1)) (hf_f2_2 : f2 2 = (-1)) : Met l yX11_game wsX11_game ({ frames := 4, cells := 0, slots := 0, locals := 90 }) (zPre D [.ref h0] [(h0, .inr (11, [.ref h5, .int 0, .ref r0, .ref h1, .ref h3, .ref h8, .ref r1, .ref h10, .ref r2, .ref h15, .ref h16, .ref r3])), (h1, .inr (10, [.int 0, .int 0, .int 0, .int 0, .int 0, .ref r4, .ref r5, .ref r6, .ref r7, .ref r8, .ref r9, .ref r10, .ref h2])), (h2, .inr (4, [.int 0, .int 0, .int 0, .int 0, .int 0, .int 0, .int 0])), (h3, .inr (5, [.int 0, .int (-1), .ref h4, .ref h1, .int 0, .int 0, .int 0, .int 0, .int 0, .ref r11])), (h4, .inr (9, [.int 0, .ref h6, .ref h7, .ref h5, .int 0])), (h5, .inl (k0, 1600, .inl (fun _ => 0))), (h6, .inl (k1, 1601, .inl (fun _ => 0))), (h7, .inl (k2, 1601, .inl (fun _ => 0))), (h8, .inr (2, [.int 0, .int 0, .int 0, .int 0, .int 0, .ref h9, .ref r12, .ref r13, .ref r14, .ref r15, .ref r16, .ref r17])), (h9, .inl (k3, 180, .inl f0)), (h10, .inr (3, [.int 0, .int 0, .ref r18, .ref r19, .ref r20, .ref r21, .ref h8, .ref h11, .ref h14])), (h11, .inl (k4, 122, .inr (.inr (.inr (.inr f1))))), (h12, .inr (4, [.int 0, .int 0, .int 0, .int 0, .int 0, .int 0, .int 0])), (h13, .inr (4, [.int 0, .int 0, .int 0, .int 0, .int 0, .int 0, .int 0])), (h14, .inl (k5, 3, .inl f2)), (h15, .inr (0, [.int 0, .int 0, .ref r24, .ref r25, .ref r26, .ref r27, .ref r28])), (h16, .inr (7, [.int 0, .int 0, .ref r29, .ref r30, .ref r31, .ref r32, .ref r33, .ref r34]))] [(k0, .byte), (k1, .byte), (k2, .int), (k3, .int), (k4, .object RX4), (k5, .int)] sz) ((fun A => va_Qi (fun (r : Int32) (u : Unit) => r = 0) (zB D A (fun (u : Unit) => match u with | _ => []) (fun (u : Unit) => match u with | _ => [])) A) (va_A [(h0, .inr (11, [.ref h5, .int 0, .ref r0, .ref h1, .ref h3, .ref h8, .ref r1, .ref h10, .ref r2, .ref h15, .ref h16, .ref r3])), (h1, .inr (10, [.int 0, .int 0, .int 0, .int 0, .int 0, .ref r4, .ref r5, .ref r6, .ref r7, .ref r8, .ref r9, .ref r10, .ref h2])), (h2, .inr (4, [.int 0, .int 0, .int 0, .int 0, .int 0, .int 0, .int 0])), (h3, .inr (5, [.int 0, .int (-1), .ref h4, .ref h1, .int 0, .int 0, .int 0, .int 0, .int 0, .ref r11])), (h4, .inr (9, [.int 0, .ref h6, .ref h7, .ref h5, .int 0])), (h5, .inl (k0, 1600, .inl (fun _ => 0))), (h6, .inl (k1, 1601, .inl (fun _ => 0))), (h7, .inl (k2, 1601, .inl (fun _ => 0))), (h8, .inr (2, [.int 0, .int 0, .int 0, .int 0, .int 0, .ref h9, .ref r12, .ref r13, .ref r14, .ref r15, .ref r16, .ref r17])), (h9, .inl (k3, 180, .inl f0)), (h10, .inr (3, [.int 0, .int 0, .ref r18, .ref r19, .ref r20, .ref r21, .ref h8, .ref h11, .ref h14])), (h11, .inl (k4, 122, .inr (.inr (.inr (.inr f1))))), (h12, .inr (4, [.int 0, .int 0, .int 0, .int 0, .int 0, .int 0, .int 0])), (h13, .inr (4, [.int 0, .int 0, .int 0, .int 0, .int 0, .int 0, .int 0])), (h14, .inl (k5, 3, .inl f2)), (h15, .inr (0, [.int 0, .int 0, .ref r24, .ref r25, .ref r26, .ref r27, .ref r28])), (h16, .inr (7, [.int 0, .int 0, .ref r29, .ref r30, .ref r31, .ref r32, .ref r33, .ref r34]))] sz)) 0 0 (va_A [(h0, .inr (11, [.ref h5, .int 0, .ref r0, .ref h1, .ref h3, .ref h8, .ref r1, .ref h10, .ref r2, .ref h15, .ref h16, .ref r3])), (h1, .inr (10, [.int 0, .int 0, .int 0, .int 0, .int 0, .ref r4, .ref r5, .ref r6, .ref r7, .ref r8, .ref r9, .ref r10, .ref h2])), (h2, .inr (4, [.int 0, .int 0, .int 0, .int 0, .int 0, .int 0, .int 0])), (h3, .inr (5, [.int 0, .int (-1), .ref h4, .ref h1, .int 0, .int 0, .int 0, .int 0, .int 0, .ref r11])), (h4, .inr (9, [.int 0, .ref h6, .ref h7, .ref h5, .int 0])), (h5, .inl (k0, 1600, .inl (fun _ => 0))), (h6, .inl (k1, 1601, .inl (fun _ => 0))), (h7, .inl (k2, 1601, .inl (fun _ => 0))), (h8, .inr (2, [.int 0, .int 0, .int 0, .int 0, .int 0, .ref h9, .ref r12, .ref r13, .ref r14, .ref r15, .ref r16, .ref r17])), (h9, .inl (k3, 180, .inl f0)), (h10, .inr (3, [.int 0, .int 0, .ref r18, .ref r19, .ref r20, .ref r21, .ref h8, .ref h11, .ref h14])), (h11, .inl (k4, 122, .inr (.inr (.inr (.inr f1))))), (h12, .inr (4, [.int 0, .int 0, .int 0, .int 0, .int 0, .int 0, .int 0])), (h13, .inr (4, [.int 0, .int 0, .int 0, .int 0, .int 0, .int 0, .int 0])), (h14, .inl (k5, 3, .inl f2)), (h15, .inr (0, [.int 0, .int 0, .ref r24, .ref r25, .ref r26, .ref r27, .ref r28])), (h16, .inr (7, [.int 0, .int 0, .ref r29, .ref r30, .ref r31, .ref r32, .ref r33, .ref r34]))] sz) := by
  exact aX11_game_c1 l D h0 h1 h2 h3 h4 h5 h6 h7 h8 h9 h10 h11 h12 h13 h14 h15 h16 r0 r1 r2 r3 r4 r5 r6 r7 r8 r9 r10 r11 r12 r13 r14 r15 r16 r17 r18 r19 r20 r21 r22 r23 r24 r25 r26 r27 r28 r29 r30 r31 r32 r33 r34 k0 k1 k2 k3 k4 k5 f0 f1 f2  _ hf_f1_0 hf_f1_1 hf_f1_2 hf_f1_3 hf_f2_0 hf_f2_1 hf_f2_2 
set_option maxHeartbeats 4000000 in
set_option maxRecDepth 100000 in
theorem aX11_fault_c1 (l : Launch) (D : va_G) (h0 h1 r0 r1 r2 r3 r4 r5 r6 r7 r8 r9 r10 r11 : Nat) (x0 : Int32) (sz : Nat) (hx0 : -2147483648 ≤ x0.toInt ∧ x0.toInt ≤ -1) : Met l yX11_fault wsX11_fault ({ frames := 0, cells := 0, slots := 0, locals := 0 }) (zPre D [.ref h0, .int x0] [(h0, .inr (11, [.ref r0, .int 0, .ref r1, .ref r2, .ref h1, .ref r3, .ref r4, .ref r5, .ref r6, .ref r7, .ref r8, .ref r9])), (h1, .inr (5, [.int 0, .int (-1), .ref r10, .ref r2, .int 0, .int 0, .int 0, .int 0, .int 0, .ref r11]))] [] sz) ((fun A => va_Qi (fun (r : Int32) (u : Unit) => r = (an_fault x0)) (zB D A (fun (u : Unit) => match u with | _ => []) (fun (u : Unit) => match u with | _ => [])) A) (va_A [(h0, .inr (11, [.ref r0, .int 0, .ref r1, .ref r2, .ref h1, .ref r3, .ref r4, .ref r5, .ref r6, .ref r7, .ref r8, .ref r9])), (h1, .inr (5, [.int 0, .int (-1), .ref r10, .ref r2, .int 0, .int 0, .int 0, .int 0, .int 0, .ref r11]))] sz)) 0 0 (va_A [(h0, .inr (11, [.ref r0, .int 0, .ref r1, .ref r2, .ref h1, .ref r3, .ref r4, .ref r5, .ref r6, .ref r7, .ref r8, .ref r9])), (h1, .inr (5, [.int 0, .int (-1), .ref r10, .ref r2, .int 0, .int 0, .int 0, .int 0, .int 0, .ref r11]))] sz) := by
  refine zOfW (QF := fun A => va_Qi (fun (r : Int32) (u : Unit) => r = (an_fault x0)) (zB D A (fun (u : Unit) => match u with | _ => []) (fun (u : Unit) => match u with | _ => [])) A) (cc := cX11_fault) (maxL := 2) (ret := (some .int)) (by decide) rfl (Nat.le_of_ble_eq_true rfl) ?_
  intro p e s m below meth c A ls hx hb hr hml hts hown hlocks hin hA hS hP hD hK hN hl
  have hl : lv_has ls 2 [(0, .ref h0), (1, .int x0)] := hl
  refine lv_iload_n hx hb dX11_fault_0 rfl (lv_at hl 1 rfl) ?_
  refine lv_if_ne (tgt := 12) hx hb dX11_fault_1 (by decide) (fun _ => ?_) (fun h9 => absurd h9 (z_cmp (show ¬ ((x0 : Int32) = 0) from by simp only [fa_lt, fa_le, fa_eq, zk_0]; have := hx0; omega)))
  refine lv_iload_n hx hb dX11_fault_12 rfl (lv_at hl 1 rfl) ?_
  refine lv_iconst (v := 1) hx hb dX11_fault_13 (by decide) ?_
  refine lv_icmp_ne (tgt := 27) hx hb dX11_fault_14 (by decide) (fun _ => ?_) (fun h9 => absurd h9 (z_cmp (show ¬ ((x0 : Int32) = 1) from by simp only [fa_lt, fa_le, fa_eq, zk_1]; have := hx0; omega)))
  refine lv_iconst (v := (-1)) hx hb dX11_fault_27 (by decide) ?_
  exact zret_i hx hb hr hlocks hP hD hK hS () ((if_neg (by have := hx0; omega)).symm) [] [] (by decide) rfl rfl (Nat.le_of_ble_eq_true rfl) (Nat.le_of_ble_eq_true rfl) dX11_fault_28
set_option maxHeartbeats 4000000 in
set_option maxRecDepth 100000 in
theorem aX11_fault_c2 (l : Launch) (D : va_G) (h0 h1 r0 r1 r2 r3 r4 r5 r6 r7 r8 r9 r10 r11 : Nat) (sz : Nat) : Met l yX11_fault wsX11_fault ({ frames := 0, cells := 0, slots := 0, locals := 0 }) (zPre D [.ref h0, .int 0] [(h0, .inr (11, [.ref r0, .int 0, .ref r1, .ref r2, .ref h1, .ref r3, .ref r4, .ref r5, .ref r6, .ref r7, .ref r8, .ref r9])), (h1, .inr (5, [.int 0, .int (-1), .ref r10, .ref r2, .int 0, .int 0, .int 0, .int 0, .int 0, .ref r11]))] [] sz) ((fun A => va_Qi (fun (r : Int32) (u : Unit) => r = (an_fault 0)) (zB D A (fun (u : Unit) => match u with | _ => []) (fun (u : Unit) => match u with | _ => [])) A) (va_A [(h0, .inr (11, [.ref r0, .int 0, .ref r1, .ref r2, .ref h1, .ref r3, .ref r4, .ref r5, .ref r6, .ref r7, .ref r8, .ref r9])), (h1, .inr (5, [.int 0, .int (-1), .ref r10, .ref r2, .int 0, .int 0, .int 0, .int 0, .int 0, .ref r11]))] sz)) 0 0 (va_A [(h0, .inr (11, [.ref r0, .int 0, .ref r1, .ref r2, .ref h1, .ref r3, .ref r4, .ref r5, .ref r6, .ref r7, .ref r8, .ref r9])), (h1, .inr (5, [.int 0, .int (-1), .ref r10, .ref r2, .int 0, .int 0, .int 0, .int 0, .int 0, .ref r11]))] sz) := by
  refine zOfW (QF := fun A => va_Qi (fun (r : Int32) (u : Unit) => r = (an_fault 0)) (zB D A (fun (u : Unit) => match u with | _ => []) (fun (u : Unit) => match u with | _ => [])) A) (cc := cX11_fault) (maxL := 2) (ret := (some .int)) (by decide) rfl (Nat.le_of_ble_eq_true rfl) ?_
  intro p e s m below meth c A ls hx hb hr hml hts hown hlocks hin hA hS hP hD hK hN hl
  have hl : lv_has ls 2 [(0, .ref h0), (1, .int 0)] := hl
  refine lv_iload_n hx hb dX11_fault_0 rfl (lv_at hl 1 rfl) ?_
  refine lv_if_ne (tgt := 12) hx hb dX11_fault_1 (by decide) (fun h9 => absurd (by decide) h9) (fun _ => ?_)
  refine lv_aload_n hx hb dX11_fault_4 rfl (lv_at hl 0 rfl) ?_
  refine va_get (D := D) (ci := 11) (v := .ref h1) (C := RX11) (T := TX11) (N := 12) hx hb hts iuX11_fault_X11 hown hK hP 0 rfl rfl 4 (by decide) (hts (.fieldLink RX11 32 "StraitGame" "reader" "LStraitGame$Reader;") (List.mem_of_getElem? (i := 1) rfl)) (fun _ h9 => h9) rfl dX11_fault_5 ?_
  refine va_get (D := D) (ci := 5) (v := .int 0) (C := RX5) (T := TX5) (N := 10) hx hb hts iuX11_fault_X5 hown hK hP 1 rfl rfl 0 (by decide) (hts (.fieldLink RX11 125 "StraitGame$Reader" "fault" "I") (List.mem_of_getElem? (i := 2) rfl)) (fun _ h9 => h9) rfl dX11_fault_8 ?_
  exact zret_i hx hb hr hlocks hP hD hK hS () (by decide) [] [] (by decide) rfl rfl (Nat.le_of_ble_eq_true rfl) (Nat.le_of_ble_eq_true rfl) dX11_fault_11
set_option maxHeartbeats 4000000 in
set_option maxRecDepth 100000 in
theorem aX11_fault_c3 (l : Launch) (D : va_G) (h0 h1 r0 r1 r2 r3 r4 r5 r6 r7 r8 r9 r10 r11 : Nat) (sz : Nat) : Met l yX11_fault wsX11_fault ({ frames := 0, cells := 0, slots := 0, locals := 0 }) (zPre D [.ref h0, .int 1] [(h0, .inr (11, [.ref r0, .int 0, .ref r1, .ref r2, .ref h1, .ref r3, .ref r4, .ref r5, .ref r6, .ref r7, .ref r8, .ref r9])), (h1, .inr (5, [.int 0, .int (-1), .ref r10, .ref r2, .int 0, .int 0, .int 0, .int 0, .int 0, .ref r11]))] [] sz) ((fun A => va_Qi (fun (r : Int32) (u : Unit) => r = (an_fault 1)) (zB D A (fun (u : Unit) => match u with | _ => []) (fun (u : Unit) => match u with | _ => [])) A) (va_A [(h0, .inr (11, [.ref r0, .int 0, .ref r1, .ref r2, .ref h1, .ref r3, .ref r4, .ref r5, .ref r6, .ref r7, .ref r8, .ref r9])), (h1, .inr (5, [.int 0, .int (-1), .ref r10, .ref r2, .int 0, .int 0, .int 0, .int 0, .int 0, .ref r11]))] sz)) 0 0 (va_A [(h0, .inr (11, [.ref r0, .int 0, .ref r1, .ref r2, .ref h1, .ref r3, .ref r4, .ref r5, .ref r6, .ref r7, .ref r8, .ref r9])), (h1, .inr (5, [.int 0, .int (-1), .ref r10, .ref r2, .int 0, .int 0, .int 0, .int 0, .int 0, .ref r11]))] sz) := by
  refine zOfW (QF := fun A => va_Qi (fun (r : Int32) (u : Unit) => r = (an_fault 1)) (zB D A (fun (u : Unit) => match u with | _ => []) (fun (u : Unit) => match u with | _ => [])) A) (cc := cX11_fault) (maxL := 2) (ret := (some .int)) (by decide) rfl (Nat.le_of_ble_eq_true rfl) ?_
  intro p e s m below meth c A ls hx hb hr hml hts hown hlocks hin hA hS hP hD hK hN hl
  have hl : lv_has ls 2 [(0, .ref h0), (1, .int 1)] := hl
  refine lv_iload_n hx hb dX11_fault_0 rfl (lv_at hl 1 rfl) ?_
  refine lv_if_ne (tgt := 12) hx hb dX11_fault_1 (by decide) (fun _ => ?_) (fun h9 => absurd h9 (by decide))
  refine lv_iload_n hx hb dX11_fault_12 rfl (lv_at hl 1 rfl) ?_
  refine lv_iconst (v := 1) hx hb dX11_fault_13 (by decide) ?_
  refine lv_icmp_ne (tgt := 27) hx hb dX11_fault_14 (by decide) (fun h9 => absurd (by decide) h9) (fun _ => ?_)
  refine lv_aload_n hx hb dX11_fault_17 rfl (lv_at hl 0 rfl) ?_
  refine va_get (D := D) (ci := 11) (v := .ref h1) (C := RX11) (T := TX11) (N := 12) hx hb hts iuX11_fault_X11 hown hK hP 0 rfl rfl 4 (by decide) (hts (.fieldLink RX11 32 "StraitGame" "reader" "LStraitGame$Reader;") (List.mem_of_getElem? (i := 1) rfl)) (fun _ h9 => h9) rfl dX11_fault_18 ?_
  refine va_get (D := D) (ci := 5) (v := .int (-1)) (C := RX5) (T := TX5) (N := 10) hx hb hts iuX11_fault_X5 hown hK hP 1 rfl rfl 1 (by decide) (hts (.fieldLink RX11 128 "StraitGame$Reader" "faultPlace" "I") (List.mem_of_getElem? (i := 3) rfl)) (fun _ h9 => h9) rfl dX11_fault_21 ?_
  refine lv_goto (tgt := 28) hx hb dX11_fault_24 (by decide) ?_
  exact zret_i hx hb hr hlocks hP hD hK hS () (by decide) [] [] (by decide) rfl rfl (Nat.le_of_ble_eq_true rfl) (Nat.le_of_ble_eq_true rfl) dX11_fault_28
set_option maxHeartbeats 4000000 in
set_option maxRecDepth 100000 in
theorem aX11_fault_c4 (l : Launch) (D : va_G) (h0 h1 r0 r1 r2 r3 r4 r5 r6 r7 r8 r9 r10 r11 : Nat) (x0 : Int32) (sz : Nat) (hx0 : 2 ≤ x0.toInt ∧ x0.toInt ≤ 2147483647) : Met l yX11_fault wsX11_fault ({ frames := 0, cells := 0, slots := 0, locals := 0 }) (zPre D [.ref h0, .int x0] [(h0, .inr (11, [.ref r0, .int 0, .ref r1, .ref r2, .ref h1, .ref r3, .ref r4, .ref r5, .ref r6, .ref r7, .ref r8, .ref r9])), (h1, .inr (5, [.int 0, .int (-1), .ref r10, .ref r2, .int 0, .int 0, .int 0, .int 0, .int 0, .ref r11]))] [] sz) ((fun A => va_Qi (fun (r : Int32) (u : Unit) => r = (an_fault x0)) (zB D A (fun (u : Unit) => match u with | _ => []) (fun (u : Unit) => match u with | _ => [])) A) (va_A [(h0, .inr (11, [.ref r0, .int 0, .ref r1, .ref r2, .ref h1, .ref r3, .ref r4, .ref r5, .ref r6, .ref r7, .ref r8, .ref r9])), (h1, .inr (5, [.int 0, .int (-1), .ref r10, .ref r2, .int 0, .int 0, .int 0, .int 0, .int 0, .ref r11]))] sz)) 0 0 (va_A [(h0, .inr (11, [.ref r0, .int 0, .ref r1, .ref r2, .ref h1, .ref r3, .ref r4, .ref r5, .ref r6, .ref r7, .ref r8, .ref r9])), (h1, .inr (5, [.int 0, .int (-1), .ref r10, .ref r2, .int 0, .int 0, .int 0, .int 0, .int 0, .ref r11]))] sz) := by
  refine zOfW (QF := fun A => va_Qi (fun (r : Int32) (u : Unit) => r = (an_fault x0)) (zB D A (fun (u : Unit) => match u with | _ => []) (fun (u : Unit) => match u with | _ => [])) A) (cc := cX11_fault) (maxL := 2) (ret := (some .int)) (by decide) rfl (Nat.le_of_ble_eq_true rfl) ?_
  intro p e s m below meth c A ls hx hb hr hml hts hown hlocks hin hA hS hP hD hK hN hl
  have hl : lv_has ls 2 [(0, .ref h0), (1, .int x0)] := hl
  refine lv_iload_n hx hb dX11_fault_0 rfl (lv_at hl 1 rfl) ?_
  refine lv_if_ne (tgt := 12) hx hb dX11_fault_1 (by decide) (fun _ => ?_) (fun h9 => absurd h9 (z_cmp (show ¬ ((x0 : Int32) = 0) from by simp only [fa_lt, fa_le, fa_eq, zk_0]; have := hx0; omega)))
  refine lv_iload_n hx hb dX11_fault_12 rfl (lv_at hl 1 rfl) ?_
  refine lv_iconst (v := 1) hx hb dX11_fault_13 (by decide) ?_
  refine lv_icmp_ne (tgt := 27) hx hb dX11_fault_14 (by decide) (fun _ => ?_) (fun h9 => absurd h9 (z_cmp (show ¬ ((x0 : Int32) = 1) from by simp only [fa_lt, fa_le, fa_eq, zk_1]; have := hx0; omega)))
  refine lv_iconst (v := (-1)) hx hb dX11_fault_27 (by decide) ?_
  exact zret_i hx hb hr hlocks hP hD hK hS () ((if_neg (by have := hx0; omega)).symm) [] [] (by decide) rfl rfl (Nat.le_of_ble_eq_true rfl) (Nat.le_of_ble_eq_true rfl) dX11_fault_28
theorem aX11_fault (l : Launch) (D : va_G) (h0 h1 r0 r1 r2 r3 r4 r5 r6 r7 r8 r9 r10 r11 : Nat) (x0 : Int32) (sz : Nat) : Met l yX11_fault wsX11_fault ({ frames := 0, cells := 0, slots := 0, locals := 0 }) (zPre D [.ref h0, .int x0] [(h0, .inr (11, [.ref r0, .int 0, .ref r1, .ref r2, .ref h1, .ref r3, .ref r4, .ref r5, .ref r6, .ref r7, .ref r8, .ref r9])), (h1, .inr (5, [.int 0, .int (-1), .ref r10, .ref r2, .int 0, .int 0, .int 0, .int 0, .int 0, .ref r11]))] [] sz) ((fun A => va_Qi (fun (r : Int32) (u : Unit) => r = (an_fault x0)) (zB D A (fun (u : Unit) => match u with | _ => []) (fun (u : Unit) => match u with | _ => [])) A) (va_A [(h0, .inr (11, [.ref r0, .int 0, .ref r1, .ref r2, .ref h1, .ref r3, .ref r4, .ref r5, .ref r6, .ref r7, .ref r8, .ref r9])), (h1, .inr (5, [.int 0, .int (-1), .ref r10, .ref r2, .int 0, .int 0, .int 0, .int 0, .int 0, .ref r11]))] sz)) 0 0 (va_A [(h0, .inr (11, [.ref r0, .int 0, .ref r1, .ref r2, .ref h1, .ref r3, .ref r4, .ref r5, .ref r6, .ref r7, .ref r8, .ref r9])), (h1, .inr (5, [.int 0, .int (-1), .ref r10, .ref r2, .int 0, .int 0, .int 0, .int 0, .int 0, .ref r11]))] sz) := by
  rcases (show (-2147483648 ≤ x0.toInt ∧ x0.toInt ≤ -1) ∨ x0 = 0 ∨ x0 = 1 ∨ (2 ≤ x0.toInt ∧ x0.toInt ≤ 2147483647) from by simp only [fa_eq, zk_0, zk_1]; have := z_rng x0; omega) with b0 | rfl | rfl | b0
  ·
    exact aX11_fault_c1 l D h0 h1 r0 r1 r2 r3 r4 r5 r6 r7 r8 r9 r10 r11 x0 _  b0
  ·
    exact aX11_fault_c2 l D h0 h1 r0 r1 r2 r3 r4 r5 r6 r7 r8 r9 r10 r11  _  
  ·
    exact aX11_fault_c3 l D h0 h1 r0 r1 r2 r3 r4 r5 r6 r7 r8 r9 r10 r11  _  
  ·
    exact aX11_fault_c4 l D h0 h1 r0 r1 r2 r3 r4 r5 r6 r7 r8 r9 r10 r11 x0 _  b0
set_option maxHeartbeats 4000000 in
set_option maxRecDepth 100000 in
theorem zX11_isKeeper_1 (l : Launch) (D : va_G) (sz : Nat) : Met l yX11_isKeeper wsX11_isKeeper ({ frames := 0, cells := 0, slots := 0, locals := 0 }) (zPre D [.int 0] [] [] sz) ((fun A => va_Qi (fun (r : Int32) (u : Unit) => r = 1) (zB D A (fun (u : Unit) => match u with | _ => []) (fun (u : Unit) => match u with | _ => [])) A) (va_A [] sz)) 0 0 (va_A [] sz) := by
  refine zOfW (QF := fun A => va_Qi (fun (r : Int32) (u : Unit) => r = 1) (zB D A (fun (u : Unit) => match u with | _ => []) (fun (u : Unit) => match u with | _ => [])) A) (cc := cX11_isKeeper) (maxL := 1) (ret := (some .boolean)) (by decide) rfl (Nat.le_of_ble_eq_true rfl) ?_
  intro p e s m below meth c A ls hx hb hr hml hts hown hlocks hin hA hS hP hD hK hN hl
  have hl : lv_has ls 1 [(0, .int 0)] := hl
  refine lv_iload_n hx hb dX11_isKeeper_0 rfl (lv_at hl 0 rfl) ?_
  refine lv_if_eq (tgt := 9) hx hb dX11_isKeeper_1 (by decide) (fun _ => ?_) (fun h9 => absurd (by decide) h9)
  refine lv_iconst (v := 1) hx hb dX11_isKeeper_9 (by decide) ?_
  refine lv_goto (tgt := 14) hx hb dX11_isKeeper_10 (by decide) ?_
  exact zret_z hx hb hr (by decide) hlocks hP hD hK hS () rfl [] [] (by decide) rfl rfl (Nat.le_of_ble_eq_true rfl) (Nat.le_of_ble_eq_true rfl) dX11_isKeeper_14
set_option maxHeartbeats 4000000 in
set_option maxRecDepth 100000 in
theorem zX11_isKeeper_2 (l : Launch) (D : va_G) (sz : Nat) : Met l yX11_isKeeper wsX11_isKeeper ({ frames := 0, cells := 0, slots := 0, locals := 0 }) (zPre D [.int 1] [] [] sz) ((fun A => va_Qi (fun (r : Int32) (u : Unit) => r = 1) (zB D A (fun (u : Unit) => match u with | _ => []) (fun (u : Unit) => match u with | _ => [])) A) (va_A [] sz)) 0 0 (va_A [] sz) := by
  refine zOfW (QF := fun A => va_Qi (fun (r : Int32) (u : Unit) => r = 1) (zB D A (fun (u : Unit) => match u with | _ => []) (fun (u : Unit) => match u with | _ => [])) A) (cc := cX11_isKeeper) (maxL := 1) (ret := (some .boolean)) (by decide) rfl (Nat.le_of_ble_eq_true rfl) ?_
  intro p e s m below meth c A ls hx hb hr hml hts hown hlocks hin hA hS hP hD hK hN hl
  have hl : lv_has ls 1 [(0, .int 1)] := hl
  refine lv_iload_n hx hb dX11_isKeeper_0 rfl (lv_at hl 0 rfl) ?_
  refine lv_if_eq (tgt := 9) hx hb dX11_isKeeper_1 (by decide) (fun h9 => absurd h9 (by decide)) (fun _ => ?_)
  refine lv_iload_n hx hb dX11_isKeeper_4 rfl (lv_at hl 0 rfl) ?_
  refine lv_iconst (v := 1) hx hb dX11_isKeeper_5 (by decide) ?_
  refine lv_icmp_ne (tgt := 13) hx hb dX11_isKeeper_6 (by decide) (fun h9 => absurd (by decide) h9) (fun _ => ?_)
  refine lv_iconst (v := 1) hx hb dX11_isKeeper_9 (by decide) ?_
  refine lv_goto (tgt := 14) hx hb dX11_isKeeper_10 (by decide) ?_
  exact zret_z hx hb hr (by decide) hlocks hP hD hK hS () rfl [] [] (by decide) rfl rfl (Nat.le_of_ble_eq_true rfl) (Nat.le_of_ble_eq_true rfl) dX11_isKeeper_14
set_option maxHeartbeats 4000000 in
set_option maxRecDepth 100000 in
theorem zX11_isKeeper_3 (l : Launch) (D : va_G) (x0 : Int32) (sz : Nat) (hx0 : -2147483648 ≤ x0.toInt ∧ x0.toInt ≤ -1) : Met l yX11_isKeeper wsX11_isKeeper ({ frames := 0, cells := 0, slots := 0, locals := 0 }) (zPre D [.int x0] [] [] sz) ((fun A => va_Qi (fun (r : Int32) (u : Unit) => r = 0) (zB D A (fun (u : Unit) => match u with | _ => []) (fun (u : Unit) => match u with | _ => [])) A) (va_A [] sz)) 0 0 (va_A [] sz) := by
  refine zOfW (QF := fun A => va_Qi (fun (r : Int32) (u : Unit) => r = 0) (zB D A (fun (u : Unit) => match u with | _ => []) (fun (u : Unit) => match u with | _ => [])) A) (cc := cX11_isKeeper) (maxL := 1) (ret := (some .boolean)) (by decide) rfl (Nat.le_of_ble_eq_true rfl) ?_
  intro p e s m below meth c A ls hx hb hr hml hts hown hlocks hin hA hS hP hD hK hN hl
  have hl : lv_has ls 1 [(0, .int x0)] := hl
  refine lv_iload_n hx hb dX11_isKeeper_0 rfl (lv_at hl 0 rfl) ?_
  refine lv_if_eq (tgt := 9) hx hb dX11_isKeeper_1 (by decide) (fun h9 => absurd h9 (z_cmp (show ¬ ((x0 : Int32) = 0) from by simp only [fa_lt, fa_le, fa_eq, zk_0]; have := hx0; omega))) (fun _ => ?_)
  refine lv_iload_n hx hb dX11_isKeeper_4 rfl (lv_at hl 0 rfl) ?_
  refine lv_iconst (v := 1) hx hb dX11_isKeeper_5 (by decide) ?_
  refine lv_icmp_ne (tgt := 13) hx hb dX11_isKeeper_6 (by decide) (fun _ => ?_) (fun h9 => absurd h9 (z_cmp (show ¬ ((x0 : Int32) = 1) from by simp only [fa_lt, fa_le, fa_eq, zk_1]; have := hx0; omega)))
  refine lv_iconst (v := 0) hx hb dX11_isKeeper_13 (by decide) ?_
  exact zret_z hx hb hr (by decide) hlocks hP hD hK hS () rfl [] [] (by decide) rfl rfl (Nat.le_of_ble_eq_true rfl) (Nat.le_of_ble_eq_true rfl) dX11_isKeeper_14
set_option maxHeartbeats 4000000 in
set_option maxRecDepth 100000 in
theorem zX11_isKeeper_4 (l : Launch) (D : va_G) (x0 : Int32) (sz : Nat) (hx0 : 2 ≤ x0.toInt ∧ x0.toInt ≤ 2147483647) : Met l yX11_isKeeper wsX11_isKeeper ({ frames := 0, cells := 0, slots := 0, locals := 0 }) (zPre D [.int x0] [] [] sz) ((fun A => va_Qi (fun (r : Int32) (u : Unit) => r = 0) (zB D A (fun (u : Unit) => match u with | _ => []) (fun (u : Unit) => match u with | _ => [])) A) (va_A [] sz)) 0 0 (va_A [] sz) := by
  refine zOfW (QF := fun A => va_Qi (fun (r : Int32) (u : Unit) => r = 0) (zB D A (fun (u : Unit) => match u with | _ => []) (fun (u : Unit) => match u with | _ => [])) A) (cc := cX11_isKeeper) (maxL := 1) (ret := (some .boolean)) (by decide) rfl (Nat.le_of_ble_eq_true rfl) ?_
  intro p e s m below meth c A ls hx hb hr hml hts hown hlocks hin hA hS hP hD hK hN hl
  have hl : lv_has ls 1 [(0, .int x0)] := hl
  refine lv_iload_n hx hb dX11_isKeeper_0 rfl (lv_at hl 0 rfl) ?_
  refine lv_if_eq (tgt := 9) hx hb dX11_isKeeper_1 (by decide) (fun h9 => absurd h9 (z_cmp (show ¬ ((x0 : Int32) = 0) from by simp only [fa_lt, fa_le, fa_eq, zk_0]; have := hx0; omega))) (fun _ => ?_)
  refine lv_iload_n hx hb dX11_isKeeper_4 rfl (lv_at hl 0 rfl) ?_
  refine lv_iconst (v := 1) hx hb dX11_isKeeper_5 (by decide) ?_
  refine lv_icmp_ne (tgt := 13) hx hb dX11_isKeeper_6 (by decide) (fun _ => ?_) (fun h9 => absurd h9 (z_cmp (show ¬ ((x0 : Int32) = 1) from by simp only [fa_lt, fa_le, fa_eq, zk_1]; have := hx0; omega)))
  refine lv_iconst (v := 0) hx hb dX11_isKeeper_13 (by decide) ?_
  exact zret_z hx hb hr (by decide) hlocks hP hD hK hS () rfl [] [] (by decide) rfl rfl (Nat.le_of_ble_eq_true rfl) (Nat.le_of_ble_eq_true rfl) dX11_isKeeper_14
set_option maxHeartbeats 4000000 in
set_option maxRecDepth 100000 in
theorem aX11_at_c1 (l : Launch) (D : va_G) (h0 h1 r0 r1 r2 r3 r4 r5 r6 r7 r8 r9 r10 r11 r12 r13 r14 r15 r16 : Nat) (x1 : Int32) (sz : Nat) (hx1 : -2147483648 ≤ x1.toInt ∧ x1.toInt ≤ 2147483647) : Met l yX11_at wsX11_at ({ frames := 1, cells := 0, slots := 0, locals := 20 }) (zPre D [.ref h0, .int 0, .int x1] [(h0, .inr (11, [.ref r0, .int 0, .ref r1, .ref r2, .ref r3, .ref h1, .ref r4, .ref r5, .ref r6, .ref r7, .ref r8, .ref r9])), (h1, .inr (2, [.int 0, .int 0, .int 0, .int 0, .int 0, .ref r10, .ref r11, .ref r12, .ref r13, .ref r14, .ref r15, .ref r16]))] [] sz) ((fun A => va_Qi (fun (r : Int32) (u : Unit) => r = (-1)) (zB D A (fun (u : Unit) => match u with | _ => []) (fun (u : Unit) => match u with | _ => [])) A) (va_A [(h0, .inr (11, [.ref r0, .int 0, .ref r1, .ref r2, .ref r3, .ref h1, .ref r4, .ref r5, .ref r6, .ref r7, .ref r8, .ref r9])), (h1, .inr (2, [.int 0, .int 0, .int 0, .int 0, .int 0, .ref r10, .ref r11, .ref r12, .ref r13, .ref r14, .ref r15, .ref r16]))] sz)) 0 0 (va_A [(h0, .inr (11, [.ref r0, .int 0, .ref r1, .ref r2, .ref r3, .ref h1, .ref r4, .ref r5, .ref r6, .ref r7, .ref r8, .ref r9])), (h1, .inr (2, [.int 0, .int 0, .int 0, .int 0, .int 0, .ref r10, .ref r11, .ref r12, .ref r13, .ref r14, .ref r15, .ref r16]))] sz) := by
  refine zOfW (QF := fun A => va_Qi (fun (r : Int32) (u : Unit) => r = (-1)) (zB D A (fun (u : Unit) => match u with | _ => []) (fun (u : Unit) => match u with | _ => [])) A) (cc := cX11_at) (maxL := 3) (ret := (some .int)) (by decide) rfl (Nat.le_of_ble_eq_true rfl) ?_
  intro p e s m below meth c A ls hx hb hr hml hts hown hlocks hin hA hS hP hD hK hN hl
  have hl : lv_has ls 3 [(0, .ref h0), (1, .int 0), (2, .int x1)] := hl
  refine lv_iload_n hx hb dX11_at_0 rfl (lv_at hl 1 rfl) ?_
  refine zA_i (zR_S (As := [.int 0]) (rest := []) ⟨hx, hb, hml, hown, hts⟩ (zX11_isKeeper_1 l D _) (va_cwS 1 hts gX11_at_X11_isKeeper rfl rfl rfl (by decide +kernel) ⟨(Nat.le_of_ble_eq_true rfl), (Nat.le_of_ble_eq_true rfl)⟩) hP hD hK hN [] [] rfl (by decide) rfl rfl hl.1 rfl (Nat.le_of_ble_eq_true rfl) dX11_at_1 ⟨(Nat.le_of_ble_eq_true rfl), (Nat.le_of_ble_eq_true rfl)⟩) hP hD hK hS hA [] [0, 1] rfl rfl (by decide) (by decide) (fun r_48 u H locs hw hP hD hK hS => ?_)
  have hK : va_K D vwCl [] s := hK
  have hP : va_P D vwCl [(h0, .inr (11, [.ref r0, .int 0, .ref r1, .ref r2, .ref r3, .ref h1, .ref r4, .ref r5, .ref r6, .ref r7, .ref r8, .ref r9])), (h1, .inr (2, [.int 0, .int 0, .int 0, .int 0, .int 0, .ref r10, .ref r11, .ref r12, .ref r13, .ref r14, .ref r15, .ref r16]))] H := hP
  have hD : va_D A [(h0, .inr (11, [.ref r0, .int 0, .ref r1, .ref r2, .ref r3, .ref h1, .ref r4, .ref r5, .ref r6, .ref r7, .ref r8, .ref r9])), (h1, .inr (2, [.int 0, .int 0, .int 0, .int 0, .int 0, .ref r10, .ref r11, .ref r12, .ref r13, .ref r14, .ref r15, .ref r16]))] := hD
  refine W.widen (k := 0) (n := 0) (Nat.le_of_ble_eq_true rfl) (Nat.le_of_ble_eq_true rfl) ?_
  have er : r_48 = 1 := hw
  refine z_top (y := 1) er ?_
  refine lv_if_eq (tgt := 22) hx hb dX11_at_4 (by decide) (fun h9 => absurd h9 (by decide)) (fun _ => ?_)
  refine lv_iload_n hx hb dX11_at_7 rfl (lv_at hl 2 rfl) ?_
  refine lv_if_lt (tgt := 22) hx hb dX11_at_8 (by decide) (fun c_6 => ?_) (fun c_6 => ?_)
  ·
    have b_11 : -2147483648 ≤ (x1).toInt ∧ (x1).toInt ≤ -1 := by have h8 := c_6; have h7 := hx1; simp only [fa_lt, fa_le, fa_eq, zk_0] at h8; omega
    refine lv_iconst (v := (-1)) hx hb dX11_at_22 (by decide) ?_
    exact zret_i hx hb hr hlocks hP hD hK hS () (rfl) [] [] (by decide) rfl rfl (Nat.le_of_ble_eq_true rfl) (Nat.le_of_ble_eq_true rfl) dX11_at_23
  ·
    have b_12 : 0 ≤ (x1).toInt ∧ (x1).toInt ≤ 2147483647 := by have h8 := c_6; have h7 := hx1; simp only [fa_lt, fa_le, fa_eq, zk_0] at h8; omega
    refine lv_iload_n hx hb dX11_at_11 rfl (lv_at hl 2 rfl) ?_
    refine lv_aload_n hx hb dX11_at_12 rfl (lv_at hl 0 rfl) ?_
    refine va_get (D := D) (ci := 11) (v := .ref h1) (C := RX11) (T := TX11) (N := 12) hx hb hts iuX11_at_X11 hown hK hP 0 rfl rfl 5 (by decide) (hts (.fieldLink RX11 39 "StraitGame" "laws" "LStraitGame$Laws;") (List.mem_of_getElem? (i := 1) rfl)) (fun _ h9 => h9) rfl dX11_at_13 ?_
    refine va_get (D := D) (ci := 2) (v := .int 0) (C := RX2) (T := TX2) (N := 12) hx hb hts iuX11_at_X2 hown hK hP 1 rfl rfl 0 (by decide) (hts (.fieldLink RX11 135 "StraitGame$Laws" "squares" "I") (List.mem_of_getElem? (i := 2) rfl)) (fun _ h9 => h9) rfl dX11_at_16 ?_
    refine lv_icmp_lt (tgt := 24) hx hb dX11_at_19 (by decide) (fun h9 => absurd h9 (z_cmp (show ¬ ((x1 : Int32) < 0) from by simp only [fa_lt, fa_le, fa_eq, zk_0]; have := b_12; omega))) (fun _ => ?_)
    refine lv_iconst (v := (-1)) hx hb dX11_at_22 (by decide) ?_
    exact zret_i hx hb hr hlocks hP hD hK hS () (rfl) [] [] (by decide) rfl rfl (Nat.le_of_ble_eq_true rfl) (Nat.le_of_ble_eq_true rfl) dX11_at_23
set_option maxHeartbeats 4000000 in
set_option maxRecDepth 100000 in
theorem aX11_at_c2 (l : Launch) (D : va_G) (h0 h1 r0 r1 r2 r3 r4 r5 r6 r7 r8 r9 r10 r11 r12 r13 r14 r15 r16 : Nat) (x1 : Int32) (sz : Nat) (hx1 : -2147483648 ≤ x1.toInt ∧ x1.toInt ≤ 2147483647) : Met l yX11_at wsX11_at ({ frames := 1, cells := 0, slots := 0, locals := 20 }) (zPre D [.ref h0, .int 1, .int x1] [(h0, .inr (11, [.ref r0, .int 0, .ref r1, .ref r2, .ref r3, .ref h1, .ref r4, .ref r5, .ref r6, .ref r7, .ref r8, .ref r9])), (h1, .inr (2, [.int 0, .int 0, .int 0, .int 0, .int 0, .ref r10, .ref r11, .ref r12, .ref r13, .ref r14, .ref r15, .ref r16]))] [] sz) ((fun A => va_Qi (fun (r : Int32) (u : Unit) => r = (-1)) (zB D A (fun (u : Unit) => match u with | _ => []) (fun (u : Unit) => match u with | _ => [])) A) (va_A [(h0, .inr (11, [.ref r0, .int 0, .ref r1, .ref r2, .ref r3, .ref h1, .ref r4, .ref r5, .ref r6, .ref r7, .ref r8, .ref r9])), (h1, .inr (2, [.int 0, .int 0, .int 0, .int 0, .int 0, .ref r10, .ref r11, .ref r12, .ref r13, .ref r14, .ref r15, .ref r16]))] sz)) 0 0 (va_A [(h0, .inr (11, [.ref r0, .int 0, .ref r1, .ref r2, .ref r3, .ref h1, .ref r4, .ref r5, .ref r6, .ref r7, .ref r8, .ref r9])), (h1, .inr (2, [.int 0, .int 0, .int 0, .int 0, .int 0, .ref r10, .ref r11, .ref r12, .ref r13, .ref r14, .ref r15, .ref r16]))] sz) := by
  refine zOfW (QF := fun A => va_Qi (fun (r : Int32) (u : Unit) => r = (-1)) (zB D A (fun (u : Unit) => match u with | _ => []) (fun (u : Unit) => match u with | _ => [])) A) (cc := cX11_at) (maxL := 3) (ret := (some .int)) (by decide) rfl (Nat.le_of_ble_eq_true rfl) ?_
  intro p e s m below meth c A ls hx hb hr hml hts hown hlocks hin hA hS hP hD hK hN hl
  have hl : lv_has ls 3 [(0, .ref h0), (1, .int 1), (2, .int x1)] := hl
  refine lv_iload_n hx hb dX11_at_0 rfl (lv_at hl 1 rfl) ?_
  refine zA_i (zR_S (As := [.int 1]) (rest := []) ⟨hx, hb, hml, hown, hts⟩ (zX11_isKeeper_2 l D _) (va_cwS 1 hts gX11_at_X11_isKeeper rfl rfl rfl (by decide +kernel) ⟨(Nat.le_of_ble_eq_true rfl), (Nat.le_of_ble_eq_true rfl)⟩) hP hD hK hN [] [] rfl (by decide) rfl rfl hl.1 rfl (Nat.le_of_ble_eq_true rfl) dX11_at_1 ⟨(Nat.le_of_ble_eq_true rfl), (Nat.le_of_ble_eq_true rfl)⟩) hP hD hK hS hA [] [0, 1] rfl rfl (by decide) (by decide) (fun r_50 u H locs hw hP hD hK hS => ?_)
  have hK : va_K D vwCl [] s := hK
  have hP : va_P D vwCl [(h0, .inr (11, [.ref r0, .int 0, .ref r1, .ref r2, .ref r3, .ref h1, .ref r4, .ref r5, .ref r6, .ref r7, .ref r8, .ref r9])), (h1, .inr (2, [.int 0, .int 0, .int 0, .int 0, .int 0, .ref r10, .ref r11, .ref r12, .ref r13, .ref r14, .ref r15, .ref r16]))] H := hP
  have hD : va_D A [(h0, .inr (11, [.ref r0, .int 0, .ref r1, .ref r2, .ref r3, .ref h1, .ref r4, .ref r5, .ref r6, .ref r7, .ref r8, .ref r9])), (h1, .inr (2, [.int 0, .int 0, .int 0, .int 0, .int 0, .ref r10, .ref r11, .ref r12, .ref r13, .ref r14, .ref r15, .ref r16]))] := hD
  refine W.widen (k := 0) (n := 0) (Nat.le_of_ble_eq_true rfl) (Nat.le_of_ble_eq_true rfl) ?_
  have er : r_50 = 1 := hw
  refine z_top (y := 1) er ?_
  refine lv_if_eq (tgt := 22) hx hb dX11_at_4 (by decide) (fun h9 => absurd h9 (by decide)) (fun _ => ?_)
  refine lv_iload_n hx hb dX11_at_7 rfl (lv_at hl 2 rfl) ?_
  refine lv_if_lt (tgt := 22) hx hb dX11_at_8 (by decide) (fun c_8 => ?_) (fun c_8 => ?_)
  ·
    have b_15 : -2147483648 ≤ (x1).toInt ∧ (x1).toInt ≤ -1 := by have h8 := c_8; have h7 := hx1; simp only [fa_lt, fa_le, fa_eq, zk_0] at h8; omega
    refine lv_iconst (v := (-1)) hx hb dX11_at_22 (by decide) ?_
    exact zret_i hx hb hr hlocks hP hD hK hS () (rfl) [] [] (by decide) rfl rfl (Nat.le_of_ble_eq_true rfl) (Nat.le_of_ble_eq_true rfl) dX11_at_23
  ·
    have b_16 : 0 ≤ (x1).toInt ∧ (x1).toInt ≤ 2147483647 := by have h8 := c_8; have h7 := hx1; simp only [fa_lt, fa_le, fa_eq, zk_0] at h8; omega
    refine lv_iload_n hx hb dX11_at_11 rfl (lv_at hl 2 rfl) ?_
    refine lv_aload_n hx hb dX11_at_12 rfl (lv_at hl 0 rfl) ?_
    refine va_get (D := D) (ci := 11) (v := .ref h1) (C := RX11) (T := TX11) (N := 12) hx hb hts iuX11_at_X11 hown hK hP 0 rfl rfl 5 (by decide) (hts (.fieldLink RX11 39 "StraitGame" "laws" "LStraitGame$Laws;") (List.mem_of_getElem? (i := 1) rfl)) (fun _ h9 => h9) rfl dX11_at_13 ?_
    refine va_get (D := D) (ci := 2) (v := .int 0) (C := RX2) (T := TX2) (N := 12) hx hb hts iuX11_at_X2 hown hK hP 1 rfl rfl 0 (by decide) (hts (.fieldLink RX11 135 "StraitGame$Laws" "squares" "I") (List.mem_of_getElem? (i := 2) rfl)) (fun _ h9 => h9) rfl dX11_at_16 ?_
    refine lv_icmp_lt (tgt := 24) hx hb dX11_at_19 (by decide) (fun h9 => absurd h9 (z_cmp (show ¬ ((x1 : Int32) < 0) from by simp only [fa_lt, fa_le, fa_eq, zk_0]; have := b_16; omega))) (fun _ => ?_)
    refine lv_iconst (v := (-1)) hx hb dX11_at_22 (by decide) ?_
    exact zret_i hx hb hr hlocks hP hD hK hS () (rfl) [] [] (by decide) rfl rfl (Nat.le_of_ble_eq_true rfl) (Nat.le_of_ble_eq_true rfl) dX11_at_23
set_option maxHeartbeats 4000000 in
set_option maxRecDepth 100000 in
theorem aX11_at_c3 (l : Launch) (D : va_G) (h0 h1 r0 r1 r2 r3 r4 r5 r6 r7 r8 r9 r10 r11 r12 r13 r14 r15 r16 : Nat) (x0 : Int32) (x1 : Int32) (sz : Nat) (hx0 : -2147483648 ≤ x0.toInt ∧ x0.toInt ≤ -1) (hx1 : -2147483648 ≤ x1.toInt ∧ x1.toInt ≤ 2147483647) : Met l yX11_at wsX11_at ({ frames := 1, cells := 0, slots := 0, locals := 20 }) (zPre D [.ref h0, .int x0, .int x1] [(h0, .inr (11, [.ref r0, .int 0, .ref r1, .ref r2, .ref r3, .ref h1, .ref r4, .ref r5, .ref r6, .ref r7, .ref r8, .ref r9])), (h1, .inr (2, [.int 0, .int 0, .int 0, .int 0, .int 0, .ref r10, .ref r11, .ref r12, .ref r13, .ref r14, .ref r15, .ref r16]))] [] sz) ((fun A => va_Qi (fun (r : Int32) (u : Unit) => r = (-1)) (zB D A (fun (u : Unit) => match u with | _ => []) (fun (u : Unit) => match u with | _ => [])) A) (va_A [(h0, .inr (11, [.ref r0, .int 0, .ref r1, .ref r2, .ref r3, .ref h1, .ref r4, .ref r5, .ref r6, .ref r7, .ref r8, .ref r9])), (h1, .inr (2, [.int 0, .int 0, .int 0, .int 0, .int 0, .ref r10, .ref r11, .ref r12, .ref r13, .ref r14, .ref r15, .ref r16]))] sz)) 0 0 (va_A [(h0, .inr (11, [.ref r0, .int 0, .ref r1, .ref r2, .ref r3, .ref h1, .ref r4, .ref r5, .ref r6, .ref r7, .ref r8, .ref r9])), (h1, .inr (2, [.int 0, .int 0, .int 0, .int 0, .int 0, .ref r10, .ref r11, .ref r12, .ref r13, .ref r14, .ref r15, .ref r16]))] sz) := by
  refine zOfW (QF := fun A => va_Qi (fun (r : Int32) (u : Unit) => r = (-1)) (zB D A (fun (u : Unit) => match u with | _ => []) (fun (u : Unit) => match u with | _ => [])) A) (cc := cX11_at) (maxL := 3) (ret := (some .int)) (by decide) rfl (Nat.le_of_ble_eq_true rfl) ?_
  intro p e s m below meth c A ls hx hb hr hml hts hown hlocks hin hA hS hP hD hK hN hl
  have hl : lv_has ls 3 [(0, .ref h0), (1, .int x0), (2, .int x1)] := hl
  refine lv_iload_n hx hb dX11_at_0 rfl (lv_at hl 1 rfl) ?_
  refine zA_i (zR_S (As := [.int x0]) (rest := []) ⟨hx, hb, hml, hown, hts⟩ (zX11_isKeeper_3 l D x0 _ hx0) (va_cwS 1 hts gX11_at_X11_isKeeper rfl rfl rfl (by decide +kernel) ⟨(Nat.le_of_ble_eq_true rfl), (Nat.le_of_ble_eq_true rfl)⟩) hP hD hK hN [] [] rfl (by decide) rfl rfl hl.1 rfl (Nat.le_of_ble_eq_true rfl) dX11_at_1 ⟨(Nat.le_of_ble_eq_true rfl), (Nat.le_of_ble_eq_true rfl)⟩) hP hD hK hS hA [] [0, 1] rfl rfl (by decide) (by decide) (fun r_52 u H locs hw hP hD hK hS => ?_)
  have hK : va_K D vwCl [] s := hK
  have hP : va_P D vwCl [(h0, .inr (11, [.ref r0, .int 0, .ref r1, .ref r2, .ref r3, .ref h1, .ref r4, .ref r5, .ref r6, .ref r7, .ref r8, .ref r9])), (h1, .inr (2, [.int 0, .int 0, .int 0, .int 0, .int 0, .ref r10, .ref r11, .ref r12, .ref r13, .ref r14, .ref r15, .ref r16]))] H := hP
  have hD : va_D A [(h0, .inr (11, [.ref r0, .int 0, .ref r1, .ref r2, .ref r3, .ref h1, .ref r4, .ref r5, .ref r6, .ref r7, .ref r8, .ref r9])), (h1, .inr (2, [.int 0, .int 0, .int 0, .int 0, .int 0, .ref r10, .ref r11, .ref r12, .ref r13, .ref r14, .ref r15, .ref r16]))] := hD
  refine W.widen (k := 0) (n := 0) (Nat.le_of_ble_eq_true rfl) (Nat.le_of_ble_eq_true rfl) ?_
  have er : r_52 = 0 := hw
  refine z_top (y := 0) er ?_
  refine lv_if_eq (tgt := 22) hx hb dX11_at_4 (by decide) (fun _ => ?_) (fun h9 => absurd (by decide) h9)
  refine lv_iconst (v := (-1)) hx hb dX11_at_22 (by decide) ?_
  exact zret_i hx hb hr hlocks hP hD hK hS () (rfl) [] [] (by decide) rfl rfl (Nat.le_of_ble_eq_true rfl) (Nat.le_of_ble_eq_true rfl) dX11_at_23
set_option maxHeartbeats 4000000 in
set_option maxRecDepth 100000 in
theorem aX11_at_c4 (l : Launch) (D : va_G) (h0 h1 r0 r1 r2 r3 r4 r5 r6 r7 r8 r9 r10 r11 r12 r13 r14 r15 r16 : Nat) (x0 : Int32) (x1 : Int32) (sz : Nat) (hx0 : 2 ≤ x0.toInt ∧ x0.toInt ≤ 2147483647) (hx1 : -2147483648 ≤ x1.toInt ∧ x1.toInt ≤ 2147483647) : Met l yX11_at wsX11_at ({ frames := 1, cells := 0, slots := 0, locals := 20 }) (zPre D [.ref h0, .int x0, .int x1] [(h0, .inr (11, [.ref r0, .int 0, .ref r1, .ref r2, .ref r3, .ref h1, .ref r4, .ref r5, .ref r6, .ref r7, .ref r8, .ref r9])), (h1, .inr (2, [.int 0, .int 0, .int 0, .int 0, .int 0, .ref r10, .ref r11, .ref r12, .ref r13, .ref r14, .ref r15, .ref r16]))] [] sz) ((fun A => va_Qi (fun (r : Int32) (u : Unit) => r = (-1)) (zB D A (fun (u : Unit) => match u with | _ => []) (fun (u : Unit) => match u with | _ => [])) A) (va_A [(h0, .inr (11, [.ref r0, .int 0, .ref r1, .ref r2, .ref r3, .ref h1, .ref r4, .ref r5, .ref r6, .ref r7, .ref r8, .ref r9])), (h1, .inr (2, [.int 0, .int 0, .int 0, .int 0, .int 0, .ref r10, .ref r11, .ref r12, .ref r13, .ref r14, .ref r15, .ref r16]))] sz)) 0 0 (va_A [(h0, .inr (11, [.ref r0, .int 0, .ref r1, .ref r2, .ref r3, .ref h1, .ref r4, .ref r5, .ref r6, .ref r7, .ref r8, .ref r9])), (h1, .inr (2, [.int 0, .int 0, .int 0, .int 0, .int 0, .ref r10, .ref r11, .ref r12, .ref r13, .ref r14, .ref r15, .ref r16]))] sz) := by
  refine zOfW (QF := fun A => va_Qi (fun (r : Int32) (u : Unit) => r = (-1)) (zB D A (fun (u : Unit) => match u with | _ => []) (fun (u : Unit) => match u with | _ => [])) A) (cc := cX11_at) (maxL := 3) (ret := (some .int)) (by decide) rfl (Nat.le_of_ble_eq_true rfl) ?_
  intro p e s m below meth c A ls hx hb hr hml hts hown hlocks hin hA hS hP hD hK hN hl
  have hl : lv_has ls 3 [(0, .ref h0), (1, .int x0), (2, .int x1)] := hl
  refine lv_iload_n hx hb dX11_at_0 rfl (lv_at hl 1 rfl) ?_
  refine zA_i (zR_S (As := [.int x0]) (rest := []) ⟨hx, hb, hml, hown, hts⟩ (zX11_isKeeper_4 l D x0 _ hx0) (va_cwS 1 hts gX11_at_X11_isKeeper rfl rfl rfl (by decide +kernel) ⟨(Nat.le_of_ble_eq_true rfl), (Nat.le_of_ble_eq_true rfl)⟩) hP hD hK hN [] [] rfl (by decide) rfl rfl hl.1 rfl (Nat.le_of_ble_eq_true rfl) dX11_at_1 ⟨(Nat.le_of_ble_eq_true rfl), (Nat.le_of_ble_eq_true rfl)⟩) hP hD hK hS hA [] [0, 1] rfl rfl (by decide) (by decide) (fun r_54 u H locs hw hP hD hK hS => ?_)
  have hK : va_K D vwCl [] s := hK
  have hP : va_P D vwCl [(h0, .inr (11, [.ref r0, .int 0, .ref r1, .ref r2, .ref r3, .ref h1, .ref r4, .ref r5, .ref r6, .ref r7, .ref r8, .ref r9])), (h1, .inr (2, [.int 0, .int 0, .int 0, .int 0, .int 0, .ref r10, .ref r11, .ref r12, .ref r13, .ref r14, .ref r15, .ref r16]))] H := hP
  have hD : va_D A [(h0, .inr (11, [.ref r0, .int 0, .ref r1, .ref r2, .ref r3, .ref h1, .ref r4, .ref r5, .ref r6, .ref r7, .ref r8, .ref r9])), (h1, .inr (2, [.int 0, .int 0, .int 0, .int 0, .int 0, .ref r10, .ref r11, .ref r12, .ref r13, .ref r14, .ref r15, .ref r16]))] := hD
  refine W.widen (k := 0) (n := 0) (Nat.le_of_ble_eq_true rfl) (Nat.le_of_ble_eq_true rfl) ?_
  have er : r_54 = 0 := hw
  refine z_top (y := 0) er ?_
  refine lv_if_eq (tgt := 22) hx hb dX11_at_4 (by decide) (fun _ => ?_) (fun h9 => absurd (by decide) h9)
  refine lv_iconst (v := (-1)) hx hb dX11_at_22 (by decide) ?_
  exact zret_i hx hb hr hlocks hP hD hK hS () (rfl) [] [] (by decide) rfl rfl (Nat.le_of_ble_eq_true rfl) (Nat.le_of_ble_eq_true rfl) dX11_at_23
theorem aX11_at (l : Launch) (D : va_G) (h0 h1 r0 r1 r2 r3 r4 r5 r6 r7 r8 r9 r10 r11 r12 r13 r14 r15 r16 : Nat) (x0 : Int32) (x1 : Int32) (sz : Nat) : Met l yX11_at wsX11_at ({ frames := 1, cells := 0, slots := 0, locals := 20 }) (zPre D [.ref h0, .int x0, .int x1] [(h0, .inr (11, [.ref r0, .int 0, .ref r1, .ref r2, .ref r3, .ref h1, .ref r4, .ref r5, .ref r6, .ref r7, .ref r8, .ref r9])), (h1, .inr (2, [.int 0, .int 0, .int 0, .int 0, .int 0, .ref r10, .ref r11, .ref r12, .ref r13, .ref r14, .ref r15, .ref r16]))] [] sz) ((fun A => va_Qi (fun (r : Int32) (u : Unit) => r = (-1)) (zB D A (fun (u : Unit) => match u with | _ => []) (fun (u : Unit) => match u with | _ => [])) A) (va_A [(h0, .inr (11, [.ref r0, .int 0, .ref r1, .ref r2, .ref r3, .ref h1, .ref r4, .ref r5, .ref r6, .ref r7, .ref r8, .ref r9])), (h1, .inr (2, [.int 0, .int 0, .int 0, .int 0, .int 0, .ref r10, .ref r11, .ref r12, .ref r13, .ref r14, .ref r15, .ref r16]))] sz)) 0 0 (va_A [(h0, .inr (11, [.ref r0, .int 0, .ref r1, .ref r2, .ref r3, .ref h1, .ref r4, .ref r5, .ref r6, .ref r7, .ref r8, .ref r9])), (h1, .inr (2, [.int 0, .int 0, .int 0, .int 0, .int 0, .ref r10, .ref r11, .ref r12, .ref r13, .ref r14, .ref r15, .ref r16]))] sz) := by
  rcases (show x0 = 0 ∨ x0 = 1 ∨ (-2147483648 ≤ x0.toInt ∧ x0.toInt ≤ -1) ∨ (2 ≤ x0.toInt ∧ x0.toInt ≤ 2147483647) from by simp only [fa_eq, zk_0, zk_1]; have := z_rng x0; omega) with rfl | rfl | b0 | b0
  ·
    have b1 := z_rng x1
    exact aX11_at_c1 l D h0 h1 r0 r1 r2 r3 r4 r5 r6 r7 r8 r9 r10 r11 r12 r13 r14 r15 r16 x1 _  b1
  ·
    have b1 := z_rng x1
    exact aX11_at_c2 l D h0 h1 r0 r1 r2 r3 r4 r5 r6 r7 r8 r9 r10 r11 r12 r13 r14 r15 r16 x1 _  b1
  ·
    have b1 := z_rng x1
    exact aX11_at_c3 l D h0 h1 r0 r1 r2 r3 r4 r5 r6 r7 r8 r9 r10 r11 r12 r13 r14 r15 r16 x0 x1 _  b0 b1
  ·
    have b1 := z_rng x1
    exact aX11_at_c4 l D h0 h1 r0 r1 r2 r3 r4 r5 r6 r7 r8 r9 r10 r11 r12 r13 r14 r15 r16 x0 x1 _  b0 b1
set_option maxHeartbeats 4000000 in
set_option maxRecDepth 100000 in
theorem zX3_boardNow_1 (l : Launch) (D : va_G) (h0 h1 r0 r1 r2 r3 r4 r5 r6 r7 r8 r9 : Nat) (k0 : ClassId) (f0 : Nat → Option Nat) (sz : Nat) (hf_f0_0 : f0 0 = some r6) (hf_f0_1 : f0 1 = some r7) (hf_f0_2 : f0 2 = some r8) (hf_f0_3 : f0 3 = some r9) : Met l yX3_boardNow wsX3_boardNow ({ frames := 0, cells := 0, slots := 0, locals := 0 }) (zPre D [.ref h0, .int 0] [(h0, .inr (3, [.int 0, .int 0, .ref r0, .ref r1, .ref r2, .ref r3, .ref r4, .ref h1, .ref r5])), (h1, .inl (k0, 122, .inr (.inr (.inr (.inr f0)))))] [(k0, .object RX4)] sz) ((fun A => va_Qr (fun (u : Unit) => match u with | _ => True) (zBr D A (fun (u : Unit) => match u with | _ => [(h0, .inr (3, [.int 0, .int 0, .ref r0, .ref r1, .ref r2, .ref r3, .ref r4, .ref h1, .ref r5])), (h1, .inl (k0, 122, .inr (.inr (.inr (.inr f0)))))]) (fun (u : Unit) => match u with | _ => []) (fun (u : Unit) => match u with | _ => r6)) A) (va_A [(h0, .inr (3, [.int 0, .int 0, .ref r0, .ref r1, .ref r2, .ref r3, .ref r4, .ref h1, .ref r5])), (h1, .inl (k0, 122, .inr (.inr (.inr (.inr f0)))))] sz)) 0 0 (va_A [(h0, .inr (3, [.int 0, .int 0, .ref r0, .ref r1, .ref r2, .ref r3, .ref r4, .ref h1, .ref r5])), (h1, .inl (k0, 122, .inr (.inr (.inr (.inr f0)))))] sz) := by
  refine zOfW (QF := fun A => va_Qr (fun (u : Unit) => match u with | _ => True) (zBr D A (fun (u : Unit) => match u with | _ => [(h0, .inr (3, [.int 0, .int 0, .ref r0, .ref r1, .ref r2, .ref r3, .ref r4, .ref h1, .ref r5])), (h1, .inl (k0, 122, .inr (.inr (.inr (.inr f0)))))]) (fun (u : Unit) => match u with | _ => []) (fun (u : Unit) => match u with | _ => r6)) A) (cc := cX3_boardNow) (maxL := 2) (ret := (some (.object "StraitGame$Position"))) (by decide) rfl (Nat.le_of_ble_eq_true rfl) ?_
  intro p e s m below meth c A ls hx hb hr hml hts hown hlocks hin hA hS hP hD hK hN hl
  have hl : lv_has ls 2 [(0, .ref h0), (1, .int 0)] := hl
  refine lv_aload_n hx hb dX3_boardNow_0 rfl (lv_at hl 0 rfl) ?_
  refine va_get (D := D) (ci := 3) (v := .ref h1) (C := RX3) (T := TX3) (N := 9) hx hb hts iuX3_boardNow_X3 hown hK hP 0 rfl rfl 7 (by decide) (hts (.fieldLink RX3 34 "StraitGame$Nights" "boards" "[LStraitGame$Position;") (List.mem_of_getElem? (i := 1) rfl)) (fun _ h9 => h9) rfl dX3_boardNow_1 ?_
  refine lv_iconst (v := 2) hx hb dX3_boardNow_4 (by decide) ?_
  refine lv_aload_n hx hb dX3_boardNow_5 rfl (lv_at hl 0 rfl) ?_
  refine va_get (D := D) (ci := 3) (v := .int 0) (C := RX3) (T := TX3) (N := 9) hx hb hts iuX3_boardNow_X3 hown hK hP 0 rfl rfl 0 (by decide) (hts (.fieldLink RX3 9 "StraitGame$Nights" "count" "I") (List.mem_of_getElem? (i := 2) rfl)) (fun _ h9 => h9) rfl dX3_boardNow_6 ?_
  refine lv_imul hx hb dX3_boardNow_9 ?_
  refine z_top (y := 0) (by decide) ?_
  refine lv_iload_n hx hb dX3_boardNow_10 rfl (lv_at hl 1 rfl) ?_
  refine lv_iadd hx hb dX3_boardNow_11 ?_
  refine z_top (y := 0) (by decide) ?_
  refine va_aldq hx hb hK hP 1 0 rfl rfl (z_in (by decide)) dX3_boardNow_12 ?_
  refine z_topv (y := .ref r6) (congrArg va_rf ((congrArg f0 (show Int32.toNatClampNeg 0 = 0 from by decide)).trans hf_f0_0)) ?_
  exact zret_r hx hb hr hlocks hP hD hK hS () trivial rfl [0, 1] [] (by decide) rfl rfl (Nat.le_of_ble_eq_true rfl) (Nat.le_of_ble_eq_true rfl) dX3_boardNow_13
set_option maxHeartbeats 4000000 in
set_option maxRecDepth 100000 in
theorem zX3_boardNow_2 (l : Launch) (D : va_G) (h0 h1 r0 r1 r2 r3 r4 r5 r6 r7 r8 r9 : Nat) (k0 : ClassId) (f0 : Nat → Option Nat) (sz : Nat) (hf_f0_0 : f0 0 = some r6) (hf_f0_1 : f0 1 = some r7) (hf_f0_2 : f0 2 = some r8) (hf_f0_3 : f0 3 = some r9) : Met l yX3_boardNow wsX3_boardNow ({ frames := 0, cells := 0, slots := 0, locals := 0 }) (zPre D [.ref h0, .int 1] [(h0, .inr (3, [.int 0, .int 0, .ref r0, .ref r1, .ref r2, .ref r3, .ref r4, .ref h1, .ref r5])), (h1, .inl (k0, 122, .inr (.inr (.inr (.inr f0)))))] [(k0, .object RX4)] sz) ((fun A => va_Qr (fun (u : Unit) => match u with | _ => True) (zBr D A (fun (u : Unit) => match u with | _ => [(h0, .inr (3, [.int 0, .int 0, .ref r0, .ref r1, .ref r2, .ref r3, .ref r4, .ref h1, .ref r5])), (h1, .inl (k0, 122, .inr (.inr (.inr (.inr f0)))))]) (fun (u : Unit) => match u with | _ => []) (fun (u : Unit) => match u with | _ => r7)) A) (va_A [(h0, .inr (3, [.int 0, .int 0, .ref r0, .ref r1, .ref r2, .ref r3, .ref r4, .ref h1, .ref r5])), (h1, .inl (k0, 122, .inr (.inr (.inr (.inr f0)))))] sz)) 0 0 (va_A [(h0, .inr (3, [.int 0, .int 0, .ref r0, .ref r1, .ref r2, .ref r3, .ref r4, .ref h1, .ref r5])), (h1, .inl (k0, 122, .inr (.inr (.inr (.inr f0)))))] sz) := by
  refine zOfW (QF := fun A => va_Qr (fun (u : Unit) => match u with | _ => True) (zBr D A (fun (u : Unit) => match u with | _ => [(h0, .inr (3, [.int 0, .int 0, .ref r0, .ref r1, .ref r2, .ref r3, .ref r4, .ref h1, .ref r5])), (h1, .inl (k0, 122, .inr (.inr (.inr (.inr f0)))))]) (fun (u : Unit) => match u with | _ => []) (fun (u : Unit) => match u with | _ => r7)) A) (cc := cX3_boardNow) (maxL := 2) (ret := (some (.object "StraitGame$Position"))) (by decide) rfl (Nat.le_of_ble_eq_true rfl) ?_
  intro p e s m below meth c A ls hx hb hr hml hts hown hlocks hin hA hS hP hD hK hN hl
  have hl : lv_has ls 2 [(0, .ref h0), (1, .int 1)] := hl
  refine lv_aload_n hx hb dX3_boardNow_0 rfl (lv_at hl 0 rfl) ?_
  refine va_get (D := D) (ci := 3) (v := .ref h1) (C := RX3) (T := TX3) (N := 9) hx hb hts iuX3_boardNow_X3 hown hK hP 0 rfl rfl 7 (by decide) (hts (.fieldLink RX3 34 "StraitGame$Nights" "boards" "[LStraitGame$Position;") (List.mem_of_getElem? (i := 1) rfl)) (fun _ h9 => h9) rfl dX3_boardNow_1 ?_
  refine lv_iconst (v := 2) hx hb dX3_boardNow_4 (by decide) ?_
  refine lv_aload_n hx hb dX3_boardNow_5 rfl (lv_at hl 0 rfl) ?_
  refine va_get (D := D) (ci := 3) (v := .int 0) (C := RX3) (T := TX3) (N := 9) hx hb hts iuX3_boardNow_X3 hown hK hP 0 rfl rfl 0 (by decide) (hts (.fieldLink RX3 9 "StraitGame$Nights" "count" "I") (List.mem_of_getElem? (i := 2) rfl)) (fun _ h9 => h9) rfl dX3_boardNow_6 ?_
  refine lv_imul hx hb dX3_boardNow_9 ?_
  refine z_top (y := 0) (by decide) ?_
  refine lv_iload_n hx hb dX3_boardNow_10 rfl (lv_at hl 1 rfl) ?_
  refine lv_iadd hx hb dX3_boardNow_11 ?_
  refine z_top (y := 1) (by decide) ?_
  refine va_aldq hx hb hK hP 1 0 rfl rfl (z_in (by decide)) dX3_boardNow_12 ?_
  refine z_topv (y := .ref r7) (congrArg va_rf ((congrArg f0 (show Int32.toNatClampNeg 1 = 1 from by decide)).trans hf_f0_1)) ?_
  exact zret_r hx hb hr hlocks hP hD hK hS () trivial rfl [0, 1] [] (by decide) rfl rfl (Nat.le_of_ble_eq_true rfl) (Nat.le_of_ble_eq_true rfl) dX3_boardNow_13
set_option maxHeartbeats 4000000 in
set_option maxRecDepth 100000 in
theorem aX11_turn_c1 (l : Launch) (D : va_G) (h0 h1 h2 h3 h4 r0 r1 r2 r3 r4 r5 r6 r7 r8 r9 r10 r11 r12 r13 r14 r15 r16 : Nat) (k0 : ClassId) (f0 : Nat → Option Nat) (sz : Nat) (hf_f0_0 : f0 0 = some h3) (hf_f0_1 : f0 1 = some h4) (hf_f0_2 : f0 2 = some r15) (hf_f0_3 : f0 3 = some r16) : Met l yX11_turn wsX11_turn ({ frames := 1, cells := 0, slots := 0, locals := 21 }) (zPre D [.ref h0, .int 0] [(h0, .inr (11, [.ref r0, .int 0, .ref r1, .ref r2, .ref r3, .ref r4, .ref r5, .ref h1, .ref r6, .ref r7, .ref r8, .ref r9])), (h1, .inr (3, [.int 0, .int 0, .ref r10, .ref r11, .ref r12, .ref r13, .ref r4, .ref h2, .ref r14])), (h2, .inl (k0, 122, .inr (.inr (.inr (.inr f0))))), (h3, .inr (4, [.int 0, .int 0, .int 0, .int 0, .int 0, .int 0, .int 0])), (h4, .inr (4, [.int 0, .int 0, .int 0, .int 0, .int 0, .int 0, .int 0]))] [(k0, .object RX4)] sz) ((fun A => va_Qi (fun (r : Int32) (u : Unit) => r = (an_turn 0)) (zB D A (fun (u : Unit) => match u with | _ => []) (fun (u : Unit) => match u with | _ => [])) A) (va_A [(h0, .inr (11, [.ref r0, .int 0, .ref r1, .ref r2, .ref r3, .ref r4, .ref r5, .ref h1, .ref r6, .ref r7, .ref r8, .ref r9])), (h1, .inr (3, [.int 0, .int 0, .ref r10, .ref r11, .ref r12, .ref r13, .ref r4, .ref h2, .ref r14])), (h2, .inl (k0, 122, .inr (.inr (.inr (.inr f0))))), (h3, .inr (4, [.int 0, .int 0, .int 0, .int 0, .int 0, .int 0, .int 0])), (h4, .inr (4, [.int 0, .int 0, .int 0, .int 0, .int 0, .int 0, .int 0]))] sz)) 0 0 (va_A [(h0, .inr (11, [.ref r0, .int 0, .ref r1, .ref r2, .ref r3, .ref r4, .ref r5, .ref h1, .ref r6, .ref r7, .ref r8, .ref r9])), (h1, .inr (3, [.int 0, .int 0, .ref r10, .ref r11, .ref r12, .ref r13, .ref r4, .ref h2, .ref r14])), (h2, .inl (k0, 122, .inr (.inr (.inr (.inr f0))))), (h3, .inr (4, [.int 0, .int 0, .int 0, .int 0, .int 0, .int 0, .int 0])), (h4, .inr (4, [.int 0, .int 0, .int 0, .int 0, .int 0, .int 0, .int 0]))] sz) := by
  refine zOfW (QF := fun A => va_Qi (fun (r : Int32) (u : Unit) => r = (an_turn 0)) (zB D A (fun (u : Unit) => match u with | _ => []) (fun (u : Unit) => match u with | _ => [])) A) (cc := cX11_turn) (maxL := 2) (ret := (some .int)) (by decide) rfl (Nat.le_of_ble_eq_true rfl) ?_
  intro p e s m below meth c A ls hx hb hr hml hts hown hlocks hin hA hS hP hD hK hN hl
  have hl : lv_has ls 2 [(0, .ref h0), (1, .int 0)] := hl
  refine lv_iload_n hx hb dX11_turn_0 rfl (lv_at hl 1 rfl) ?_
  refine zA_i (zR_S (As := [.int 0]) (rest := []) ⟨hx, hb, hml, hown, hts⟩ (zX11_isKeeper_1 l D _) (va_cwS 1 hts gX11_turn_X11_isKeeper rfl rfl rfl (by decide +kernel) ⟨(Nat.le_of_ble_eq_true rfl), (Nat.le_of_ble_eq_true rfl)⟩) hP hD hK hN [] [] rfl (by decide) rfl rfl hl.1 rfl (Nat.le_of_ble_eq_true rfl) dX11_turn_1 ⟨(Nat.le_of_ble_eq_true rfl), (Nat.le_of_ble_eq_true rfl)⟩) hP hD hK hS hA [] [0, 1, 2, 3, 4] rfl rfl (by decide) (by decide) (fun r_64 u H locs hw hP hD hK hS => ?_)
  have hK : va_K D vwCl [(k0, .object RX4)] s := hK
  have hP : va_P D vwCl [(h0, .inr (11, [.ref r0, .int 0, .ref r1, .ref r2, .ref r3, .ref r4, .ref r5, .ref h1, .ref r6, .ref r7, .ref r8, .ref r9])), (h1, .inr (3, [.int 0, .int 0, .ref r10, .ref r11, .ref r12, .ref r13, .ref r4, .ref h2, .ref r14])), (h2, .inl (k0, 122, .inr (.inr (.inr (.inr f0))))), (h3, .inr (4, [.int 0, .int 0, .int 0, .int 0, .int 0, .int 0, .int 0])), (h4, .inr (4, [.int 0, .int 0, .int 0, .int 0, .int 0, .int 0, .int 0]))] H := hP
  have hD : va_D A [(h0, .inr (11, [.ref r0, .int 0, .ref r1, .ref r2, .ref r3, .ref r4, .ref r5, .ref h1, .ref r6, .ref r7, .ref r8, .ref r9])), (h1, .inr (3, [.int 0, .int 0, .ref r10, .ref r11, .ref r12, .ref r13, .ref r4, .ref h2, .ref r14])), (h2, .inl (k0, 122, .inr (.inr (.inr (.inr f0))))), (h3, .inr (4, [.int 0, .int 0, .int 0, .int 0, .int 0, .int 0, .int 0])), (h4, .inr (4, [.int 0, .int 0, .int 0, .int 0, .int 0, .int 0, .int 0]))] := hD
  refine W.widen (k := 0) (n := 0) (Nat.le_of_ble_eq_true rfl) (Nat.le_of_ble_eq_true rfl) ?_
  have er : r_64 = 1 := hw
  refine z_top (y := 1) er ?_
  refine lv_if_eq (tgt := 21) hx hb dX11_turn_4 (by decide) (fun h9 => absurd h9 (by decide)) (fun _ => ?_)
  refine lv_aload_n hx hb dX11_turn_7 rfl (lv_at hl 0 rfl) ?_
  refine va_get (D := D) (ci := 11) (v := .ref h1) (C := RX11) (T := TX11) (N := 12) hx hb hts iuX11_turn_X11 hown hK hP 0 rfl rfl 7 (by decide) (hts (.fieldLink RX11 55 "StraitGame" "nights" "LStraitGame$Nights;") (List.mem_of_getElem? (i := 1) rfl)) (fun _ h9 => h9) rfl dX11_turn_8 ?_
  refine lv_iload_n hx hb dX11_turn_11 rfl (lv_at hl 1 rfl) ?_
  refine zA_r (zR_V (As := [.int 0]) (rest := []) ⟨hx, hb, hml, hown, hts⟩ (zX3_boardNow_1 l D h1 h2 r10 r11 r12 r13 r4 r14 h3 h4 r15 r16 k0 f0 _ (hf_f0_0) (hf_f0_1) (hf_f0_2) (hf_f0_3)) (cwV 1 hts gX11_turn_X3_boardNow rfl rfl rfl (by decide +kernel) ⟨(Nat.le_of_ble_eq_true rfl), (Nat.le_of_ble_eq_true rfl)⟩) hP hD hK hN [1, 2] [0] rfl (by decide) rfl 0 3 rfl rfl rfl hl.1 rfl (Nat.le_of_ble_eq_true rfl) dX11_turn_12 ⟨(Nat.le_of_ble_eq_true rfl), (Nat.le_of_ble_eq_true rfl)⟩) hP hD hK hS hA [1, 2] [0, 3, 4] rfl rfl (by decide) (by decide) (fun u H locs hw hP hD hK hS => ?_)
  have hK : va_K D vwCl [(k0, .object RX4)] s := hK
  have hP : va_P D vwCl [(h0, .inr (11, [.ref r0, .int 0, .ref r1, .ref r2, .ref r3, .ref r4, .ref r5, .ref h1, .ref r6, .ref r7, .ref r8, .ref r9])), (h3, .inr (4, [.int 0, .int 0, .int 0, .int 0, .int 0, .int 0, .int 0])), (h4, .inr (4, [.int 0, .int 0, .int 0, .int 0, .int 0, .int 0, .int 0])), (h1, .inr (3, [.int 0, .int 0, .ref r10, .ref r11, .ref r12, .ref r13, .ref r4, .ref h2, .ref r14])), (h2, .inl (k0, 122, .inr (.inr (.inr (.inr f0)))))] H := hP
  have hD : va_D A [(h0, .inr (11, [.ref r0, .int 0, .ref r1, .ref r2, .ref r3, .ref r4, .ref r5, .ref h1, .ref r6, .ref r7, .ref r8, .ref r9])), (h3, .inr (4, [.int 0, .int 0, .int 0, .int 0, .int 0, .int 0, .int 0])), (h4, .inr (4, [.int 0, .int 0, .int 0, .int 0, .int 0, .int 0, .int 0])), (h1, .inr (3, [.int 0, .int 0, .ref r10, .ref r11, .ref r12, .ref r13, .ref r4, .ref h2, .ref r14])), (h2, .inl (k0, 122, .inr (.inr (.inr (.inr f0)))))] := hD
  refine W.widen (k := 0) (n := 0) (Nat.le_of_ble_eq_true rfl) (Nat.le_of_ble_eq_true rfl) ?_
  refine va_get (D := D) (ci := 4) (v := .int 0) (C := RX4) (T := TX4) (N := 7) hx hb hts iuX11_turn_X4 hown hK hP 1 rfl rfl 0 (by decide) (hts (.fieldLink RX11 148 "StraitGame$Position" "toMove" "I") (List.mem_of_getElem? (i := 2) rfl)) (fun _ h9 => h9) rfl dX11_turn_15 ?_
  refine lv_goto (tgt := 22) hx hb dX11_turn_18 (by decide) ?_
  exact zret_i hx hb hr hlocks hP hD hK hS () (by decide) [] [] (by decide) rfl rfl (Nat.le_of_ble_eq_true rfl) (Nat.le_of_ble_eq_true rfl) dX11_turn_22
set_option maxHeartbeats 4000000 in
set_option maxRecDepth 100000 in
theorem aX11_turn_c2 (l : Launch) (D : va_G) (h0 h1 h2 h3 h4 r0 r1 r2 r3 r4 r5 r6 r7 r8 r9 r10 r11 r12 r13 r14 r15 r16 : Nat) (k0 : ClassId) (f0 : Nat → Option Nat) (sz : Nat) (hf_f0_0 : f0 0 = some h3) (hf_f0_1 : f0 1 = some h4) (hf_f0_2 : f0 2 = some r15) (hf_f0_3 : f0 3 = some r16) : Met l yX11_turn wsX11_turn ({ frames := 1, cells := 0, slots := 0, locals := 21 }) (zPre D [.ref h0, .int 1] [(h0, .inr (11, [.ref r0, .int 0, .ref r1, .ref r2, .ref r3, .ref r4, .ref r5, .ref h1, .ref r6, .ref r7, .ref r8, .ref r9])), (h1, .inr (3, [.int 0, .int 0, .ref r10, .ref r11, .ref r12, .ref r13, .ref r4, .ref h2, .ref r14])), (h2, .inl (k0, 122, .inr (.inr (.inr (.inr f0))))), (h3, .inr (4, [.int 0, .int 0, .int 0, .int 0, .int 0, .int 0, .int 0])), (h4, .inr (4, [.int 0, .int 0, .int 0, .int 0, .int 0, .int 0, .int 0]))] [(k0, .object RX4)] sz) ((fun A => va_Qi (fun (r : Int32) (u : Unit) => r = (an_turn 1)) (zB D A (fun (u : Unit) => match u with | _ => []) (fun (u : Unit) => match u with | _ => [])) A) (va_A [(h0, .inr (11, [.ref r0, .int 0, .ref r1, .ref r2, .ref r3, .ref r4, .ref r5, .ref h1, .ref r6, .ref r7, .ref r8, .ref r9])), (h1, .inr (3, [.int 0, .int 0, .ref r10, .ref r11, .ref r12, .ref r13, .ref r4, .ref h2, .ref r14])), (h2, .inl (k0, 122, .inr (.inr (.inr (.inr f0))))), (h3, .inr (4, [.int 0, .int 0, .int 0, .int 0, .int 0, .int 0, .int 0])), (h4, .inr (4, [.int 0, .int 0, .int 0, .int 0, .int 0, .int 0, .int 0]))] sz)) 0 0 (va_A [(h0, .inr (11, [.ref r0, .int 0, .ref r1, .ref r2, .ref r3, .ref r4, .ref r5, .ref h1, .ref r6, .ref r7, .ref r8, .ref r9])), (h1, .inr (3, [.int 0, .int 0, .ref r10, .ref r11, .ref r12, .ref r13, .ref r4, .ref h2, .ref r14])), (h2, .inl (k0, 122, .inr (.inr (.inr (.inr f0))))), (h3, .inr (4, [.int 0, .int 0, .int 0, .int 0, .int 0, .int 0, .int 0])), (h4, .inr (4, [.int 0, .int 0, .int 0, .int 0, .int 0, .int 0, .int 0]))] sz) := by
  refine zOfW (QF := fun A => va_Qi (fun (r : Int32) (u : Unit) => r = (an_turn 1)) (zB D A (fun (u : Unit) => match u with | _ => []) (fun (u : Unit) => match u with | _ => [])) A) (cc := cX11_turn) (maxL := 2) (ret := (some .int)) (by decide) rfl (Nat.le_of_ble_eq_true rfl) ?_
  intro p e s m below meth c A ls hx hb hr hml hts hown hlocks hin hA hS hP hD hK hN hl
  have hl : lv_has ls 2 [(0, .ref h0), (1, .int 1)] := hl
  refine lv_iload_n hx hb dX11_turn_0 rfl (lv_at hl 1 rfl) ?_
  refine zA_i (zR_S (As := [.int 1]) (rest := []) ⟨hx, hb, hml, hown, hts⟩ (zX11_isKeeper_2 l D _) (va_cwS 1 hts gX11_turn_X11_isKeeper rfl rfl rfl (by decide +kernel) ⟨(Nat.le_of_ble_eq_true rfl), (Nat.le_of_ble_eq_true rfl)⟩) hP hD hK hN [] [] rfl (by decide) rfl rfl hl.1 rfl (Nat.le_of_ble_eq_true rfl) dX11_turn_1 ⟨(Nat.le_of_ble_eq_true rfl), (Nat.le_of_ble_eq_true rfl)⟩) hP hD hK hS hA [] [0, 1, 2, 3, 4] rfl rfl (by decide) (by decide) (fun r_66 u H locs hw hP hD hK hS => ?_)
  have hK : va_K D vwCl [(k0, .object RX4)] s := hK
  have hP : va_P D vwCl [(h0, .inr (11, [.ref r0, .int 0, .ref r1, .ref r2, .ref r3, .ref r4, .ref r5, .ref h1, .ref r6, .ref r7, .ref r8, .ref r9])), (h1, .inr (3, [.int 0, .int 0, .ref r10, .ref r11, .ref r12, .ref r13, .ref r4, .ref h2, .ref r14])), (h2, .inl (k0, 122, .inr (.inr (.inr (.inr f0))))), (h3, .inr (4, [.int 0, .int 0, .int 0, .int 0, .int 0, .int 0, .int 0])), (h4, .inr (4, [.int 0, .int 0, .int 0, .int 0, .int 0, .int 0, .int 0]))] H := hP
  have hD : va_D A [(h0, .inr (11, [.ref r0, .int 0, .ref r1, .ref r2, .ref r3, .ref r4, .ref r5, .ref h1, .ref r6, .ref r7, .ref r8, .ref r9])), (h1, .inr (3, [.int 0, .int 0, .ref r10, .ref r11, .ref r12, .ref r13, .ref r4, .ref h2, .ref r14])), (h2, .inl (k0, 122, .inr (.inr (.inr (.inr f0))))), (h3, .inr (4, [.int 0, .int 0, .int 0, .int 0, .int 0, .int 0, .int 0])), (h4, .inr (4, [.int 0, .int 0, .int 0, .int 0, .int 0, .int 0, .int 0]))] := hD
  refine W.widen (k := 0) (n := 0) (Nat.le_of_ble_eq_true rfl) (Nat.le_of_ble_eq_true rfl) ?_
  have er : r_66 = 1 := hw
  refine z_top (y := 1) er ?_
  refine lv_if_eq (tgt := 21) hx hb dX11_turn_4 (by decide) (fun h9 => absurd h9 (by decide)) (fun _ => ?_)
  refine lv_aload_n hx hb dX11_turn_7 rfl (lv_at hl 0 rfl) ?_
  refine va_get (D := D) (ci := 11) (v := .ref h1) (C := RX11) (T := TX11) (N := 12) hx hb hts iuX11_turn_X11 hown hK hP 0 rfl rfl 7 (by decide) (hts (.fieldLink RX11 55 "StraitGame" "nights" "LStraitGame$Nights;") (List.mem_of_getElem? (i := 1) rfl)) (fun _ h9 => h9) rfl dX11_turn_8 ?_
  refine lv_iload_n hx hb dX11_turn_11 rfl (lv_at hl 1 rfl) ?_
  refine zA_r (zR_V (As := [.int 1]) (rest := []) ⟨hx, hb, hml, hown, hts⟩ (zX3_boardNow_2 l D h1 h2 r10 r11 r12 r13 r4 r14 h3 h4 r15 r16 k0 f0 _ (hf_f0_0) (hf_f0_1) (hf_f0_2) (hf_f0_3)) (cwV 1 hts gX11_turn_X3_boardNow rfl rfl rfl (by decide +kernel) ⟨(Nat.le_of_ble_eq_true rfl), (Nat.le_of_ble_eq_true rfl)⟩) hP hD hK hN [1, 2] [0] rfl (by decide) rfl 0 3 rfl rfl rfl hl.1 rfl (Nat.le_of_ble_eq_true rfl) dX11_turn_12 ⟨(Nat.le_of_ble_eq_true rfl), (Nat.le_of_ble_eq_true rfl)⟩) hP hD hK hS hA [1, 2] [0, 3, 4] rfl rfl (by decide) (by decide) (fun u H locs hw hP hD hK hS => ?_)
  have hK : va_K D vwCl [(k0, .object RX4)] s := hK
  have hP : va_P D vwCl [(h0, .inr (11, [.ref r0, .int 0, .ref r1, .ref r2, .ref r3, .ref r4, .ref r5, .ref h1, .ref r6, .ref r7, .ref r8, .ref r9])), (h3, .inr (4, [.int 0, .int 0, .int 0, .int 0, .int 0, .int 0, .int 0])), (h4, .inr (4, [.int 0, .int 0, .int 0, .int 0, .int 0, .int 0, .int 0])), (h1, .inr (3, [.int 0, .int 0, .ref r10, .ref r11, .ref r12, .ref r13, .ref r4, .ref h2, .ref r14])), (h2, .inl (k0, 122, .inr (.inr (.inr (.inr f0)))))] H := hP
  have hD : va_D A [(h0, .inr (11, [.ref r0, .int 0, .ref r1, .ref r2, .ref r3, .ref r4, .ref r5, .ref h1, .ref r6, .ref r7, .ref r8, .ref r9])), (h3, .inr (4, [.int 0, .int 0, .int 0, .int 0, .int 0, .int 0, .int 0])), (h4, .inr (4, [.int 0, .int 0, .int 0, .int 0, .int 0, .int 0, .int 0])), (h1, .inr (3, [.int 0, .int 0, .ref r10, .ref r11, .ref r12, .ref r13, .ref r4, .ref h2, .ref r14])), (h2, .inl (k0, 122, .inr (.inr (.inr (.inr f0)))))] := hD
  refine W.widen (k := 0) (n := 0) (Nat.le_of_ble_eq_true rfl) (Nat.le_of_ble_eq_true rfl) ?_
  refine va_get (D := D) (ci := 4) (v := .int 0) (C := RX4) (T := TX4) (N := 7) hx hb hts iuX11_turn_X4 hown hK hP 2 rfl rfl 0 (by decide) (hts (.fieldLink RX11 148 "StraitGame$Position" "toMove" "I") (List.mem_of_getElem? (i := 2) rfl)) (fun _ h9 => h9) rfl dX11_turn_15 ?_
  refine lv_goto (tgt := 22) hx hb dX11_turn_18 (by decide) ?_
  exact zret_i hx hb hr hlocks hP hD hK hS () (by decide) [] [] (by decide) rfl rfl (Nat.le_of_ble_eq_true rfl) (Nat.le_of_ble_eq_true rfl) dX11_turn_22
set_option maxHeartbeats 4000000 in
set_option maxRecDepth 100000 in
theorem aX11_turn_c3 (l : Launch) (D : va_G) (h0 h1 h2 h3 h4 r0 r1 r2 r3 r4 r5 r6 r7 r8 r9 r10 r11 r12 r13 r14 r15 r16 : Nat) (k0 : ClassId) (f0 : Nat → Option Nat) (x0 : Int32) (sz : Nat) (hf_f0_0 : f0 0 = some h3) (hf_f0_1 : f0 1 = some h4) (hf_f0_2 : f0 2 = some r15) (hf_f0_3 : f0 3 = some r16) (hx0 : -2147483648 ≤ x0.toInt ∧ x0.toInt ≤ -1) : Met l yX11_turn wsX11_turn ({ frames := 1, cells := 0, slots := 0, locals := 21 }) (zPre D [.ref h0, .int x0] [(h0, .inr (11, [.ref r0, .int 0, .ref r1, .ref r2, .ref r3, .ref r4, .ref r5, .ref h1, .ref r6, .ref r7, .ref r8, .ref r9])), (h1, .inr (3, [.int 0, .int 0, .ref r10, .ref r11, .ref r12, .ref r13, .ref r4, .ref h2, .ref r14])), (h2, .inl (k0, 122, .inr (.inr (.inr (.inr f0))))), (h3, .inr (4, [.int 0, .int 0, .int 0, .int 0, .int 0, .int 0, .int 0])), (h4, .inr (4, [.int 0, .int 0, .int 0, .int 0, .int 0, .int 0, .int 0]))] [(k0, .object RX4)] sz) ((fun A => va_Qi (fun (r : Int32) (u : Unit) => r = (an_turn x0)) (zB D A (fun (u : Unit) => match u with | _ => []) (fun (u : Unit) => match u with | _ => [])) A) (va_A [(h0, .inr (11, [.ref r0, .int 0, .ref r1, .ref r2, .ref r3, .ref r4, .ref r5, .ref h1, .ref r6, .ref r7, .ref r8, .ref r9])), (h1, .inr (3, [.int 0, .int 0, .ref r10, .ref r11, .ref r12, .ref r13, .ref r4, .ref h2, .ref r14])), (h2, .inl (k0, 122, .inr (.inr (.inr (.inr f0))))), (h3, .inr (4, [.int 0, .int 0, .int 0, .int 0, .int 0, .int 0, .int 0])), (h4, .inr (4, [.int 0, .int 0, .int 0, .int 0, .int 0, .int 0, .int 0]))] sz)) 0 0 (va_A [(h0, .inr (11, [.ref r0, .int 0, .ref r1, .ref r2, .ref r3, .ref r4, .ref r5, .ref h1, .ref r6, .ref r7, .ref r8, .ref r9])), (h1, .inr (3, [.int 0, .int 0, .ref r10, .ref r11, .ref r12, .ref r13, .ref r4, .ref h2, .ref r14])), (h2, .inl (k0, 122, .inr (.inr (.inr (.inr f0))))), (h3, .inr (4, [.int 0, .int 0, .int 0, .int 0, .int 0, .int 0, .int 0])), (h4, .inr (4, [.int 0, .int 0, .int 0, .int 0, .int 0, .int 0, .int 0]))] sz) := by
  refine zOfW (QF := fun A => va_Qi (fun (r : Int32) (u : Unit) => r = (an_turn x0)) (zB D A (fun (u : Unit) => match u with | _ => []) (fun (u : Unit) => match u with | _ => [])) A) (cc := cX11_turn) (maxL := 2) (ret := (some .int)) (by decide) rfl (Nat.le_of_ble_eq_true rfl) ?_
  intro p e s m below meth c A ls hx hb hr hml hts hown hlocks hin hA hS hP hD hK hN hl
  have hl : lv_has ls 2 [(0, .ref h0), (1, .int x0)] := hl
  refine lv_iload_n hx hb dX11_turn_0 rfl (lv_at hl 1 rfl) ?_
  refine zA_i (zR_S (As := [.int x0]) (rest := []) ⟨hx, hb, hml, hown, hts⟩ (zX11_isKeeper_3 l D x0 _ hx0) (va_cwS 1 hts gX11_turn_X11_isKeeper rfl rfl rfl (by decide +kernel) ⟨(Nat.le_of_ble_eq_true rfl), (Nat.le_of_ble_eq_true rfl)⟩) hP hD hK hN [] [] rfl (by decide) rfl rfl hl.1 rfl (Nat.le_of_ble_eq_true rfl) dX11_turn_1 ⟨(Nat.le_of_ble_eq_true rfl), (Nat.le_of_ble_eq_true rfl)⟩) hP hD hK hS hA [] [0, 1, 2, 3, 4] rfl rfl (by decide) (by decide) (fun r_68 u H locs hw hP hD hK hS => ?_)
  have hK : va_K D vwCl [(k0, .object RX4)] s := hK
  have hP : va_P D vwCl [(h0, .inr (11, [.ref r0, .int 0, .ref r1, .ref r2, .ref r3, .ref r4, .ref r5, .ref h1, .ref r6, .ref r7, .ref r8, .ref r9])), (h1, .inr (3, [.int 0, .int 0, .ref r10, .ref r11, .ref r12, .ref r13, .ref r4, .ref h2, .ref r14])), (h2, .inl (k0, 122, .inr (.inr (.inr (.inr f0))))), (h3, .inr (4, [.int 0, .int 0, .int 0, .int 0, .int 0, .int 0, .int 0])), (h4, .inr (4, [.int 0, .int 0, .int 0, .int 0, .int 0, .int 0, .int 0]))] H := hP
  have hD : va_D A [(h0, .inr (11, [.ref r0, .int 0, .ref r1, .ref r2, .ref r3, .ref r4, .ref r5, .ref h1, .ref r6, .ref r7, .ref r8, .ref r9])), (h1, .inr (3, [.int 0, .int 0, .ref r10, .ref r11, .ref r12, .ref r13, .ref r4, .ref h2, .ref r14])), (h2, .inl (k0, 122, .inr (.inr (.inr (.inr f0))))), (h3, .inr (4, [.int 0, .int 0, .int 0, .int 0, .int 0, .int 0, .int 0])), (h4, .inr (4, [.int 0, .int 0, .int 0, .int 0, .int 0, .int 0, .int 0]))] := hD
  refine W.widen (k := 0) (n := 0) (Nat.le_of_ble_eq_true rfl) (Nat.le_of_ble_eq_true rfl) ?_
  have er : r_68 = 0 := hw
  refine z_top (y := 0) er ?_
  refine lv_if_eq (tgt := 21) hx hb dX11_turn_4 (by decide) (fun _ => ?_) (fun h9 => absurd (by decide) h9)
  refine lv_iconst (v := (-1)) hx hb dX11_turn_21 (by decide) ?_
  exact zret_i hx hb hr hlocks hP hD hK hS () ((if_neg (by have := hx0; omega)).symm) [] [] (by decide) rfl rfl (Nat.le_of_ble_eq_true rfl) (Nat.le_of_ble_eq_true rfl) dX11_turn_22
set_option maxHeartbeats 4000000 in
set_option maxRecDepth 100000 in
theorem aX11_turn_c4 (l : Launch) (D : va_G) (h0 h1 h2 h3 h4 r0 r1 r2 r3 r4 r5 r6 r7 r8 r9 r10 r11 r12 r13 r14 r15 r16 : Nat) (k0 : ClassId) (f0 : Nat → Option Nat) (x0 : Int32) (sz : Nat) (hf_f0_0 : f0 0 = some h3) (hf_f0_1 : f0 1 = some h4) (hf_f0_2 : f0 2 = some r15) (hf_f0_3 : f0 3 = some r16) (hx0 : 2 ≤ x0.toInt ∧ x0.toInt ≤ 2147483647) : Met l yX11_turn wsX11_turn ({ frames := 1, cells := 0, slots := 0, locals := 21 }) (zPre D [.ref h0, .int x0] [(h0, .inr (11, [.ref r0, .int 0, .ref r1, .ref r2, .ref r3, .ref r4, .ref r5, .ref h1, .ref r6, .ref r7, .ref r8, .ref r9])), (h1, .inr (3, [.int 0, .int 0, .ref r10, .ref r11, .ref r12, .ref r13, .ref r4, .ref h2, .ref r14])), (h2, .inl (k0, 122, .inr (.inr (.inr (.inr f0))))), (h3, .inr (4, [.int 0, .int 0, .int 0, .int 0, .int 0, .int 0, .int 0])), (h4, .inr (4, [.int 0, .int 0, .int 0, .int 0, .int 0, .int 0, .int 0]))] [(k0, .object RX4)] sz) ((fun A => va_Qi (fun (r : Int32) (u : Unit) => r = (an_turn x0)) (zB D A (fun (u : Unit) => match u with | _ => []) (fun (u : Unit) => match u with | _ => [])) A) (va_A [(h0, .inr (11, [.ref r0, .int 0, .ref r1, .ref r2, .ref r3, .ref r4, .ref r5, .ref h1, .ref r6, .ref r7, .ref r8, .ref r9])), (h1, .inr (3, [.int 0, .int 0, .ref r10, .ref r11, .ref r12, .ref r13, .ref r4, .ref h2, .ref r14])), (h2, .inl (k0, 122, .inr (.inr (.inr (.inr f0))))), (h3, .inr (4, [.int 0, .int 0, .int 0, .int 0, .int 0, .int 0, .int 0])), (h4, .inr (4, [.int 0, .int 0, .int 0, .int 0, .int 0, .int 0, .int 0]))] sz)) 0 0 (va_A [(h0, .inr (11, [.ref r0, .int 0, .ref r1, .ref r2, .ref r3, .ref r4, .ref r5, .ref h1, .ref r6, .ref r7, .ref r8, .ref r9])), (h1, .inr (3, [.int 0, .int 0, .ref r10, .ref r11, .ref r12, .ref r13, .ref r4, .ref h2, .ref r14])), (h2, .inl (k0, 122, .inr (.inr (.inr (.inr f0))))), (h3, .inr (4, [.int 0, .int 0, .int 0, .int 0, .int 0, .int 0, .int 0])), (h4, .inr (4, [.int 0, .int 0, .int 0, .int 0, .int 0, .int 0, .int 0]))] sz) := by
  refine zOfW (QF := fun A => va_Qi (fun (r : Int32) (u : Unit) => r = (an_turn x0)) (zB D A (fun (u : Unit) => match u with | _ => []) (fun (u : Unit) => match u with | _ => [])) A) (cc := cX11_turn) (maxL := 2) (ret := (some .int)) (by decide) rfl (Nat.le_of_ble_eq_true rfl) ?_
  intro p e s m below meth c A ls hx hb hr hml hts hown hlocks hin hA hS hP hD hK hN hl
  have hl : lv_has ls 2 [(0, .ref h0), (1, .int x0)] := hl
  refine lv_iload_n hx hb dX11_turn_0 rfl (lv_at hl 1 rfl) ?_
  refine zA_i (zR_S (As := [.int x0]) (rest := []) ⟨hx, hb, hml, hown, hts⟩ (zX11_isKeeper_4 l D x0 _ hx0) (va_cwS 1 hts gX11_turn_X11_isKeeper rfl rfl rfl (by decide +kernel) ⟨(Nat.le_of_ble_eq_true rfl), (Nat.le_of_ble_eq_true rfl)⟩) hP hD hK hN [] [] rfl (by decide) rfl rfl hl.1 rfl (Nat.le_of_ble_eq_true rfl) dX11_turn_1 ⟨(Nat.le_of_ble_eq_true rfl), (Nat.le_of_ble_eq_true rfl)⟩) hP hD hK hS hA [] [0, 1, 2, 3, 4] rfl rfl (by decide) (by decide) (fun r_70 u H locs hw hP hD hK hS => ?_)
  have hK : va_K D vwCl [(k0, .object RX4)] s := hK
  have hP : va_P D vwCl [(h0, .inr (11, [.ref r0, .int 0, .ref r1, .ref r2, .ref r3, .ref r4, .ref r5, .ref h1, .ref r6, .ref r7, .ref r8, .ref r9])), (h1, .inr (3, [.int 0, .int 0, .ref r10, .ref r11, .ref r12, .ref r13, .ref r4, .ref h2, .ref r14])), (h2, .inl (k0, 122, .inr (.inr (.inr (.inr f0))))), (h3, .inr (4, [.int 0, .int 0, .int 0, .int 0, .int 0, .int 0, .int 0])), (h4, .inr (4, [.int 0, .int 0, .int 0, .int 0, .int 0, .int 0, .int 0]))] H := hP
  have hD : va_D A [(h0, .inr (11, [.ref r0, .int 0, .ref r1, .ref r2, .ref r3, .ref r4, .ref r5, .ref h1, .ref r6, .ref r7, .ref r8, .ref r9])), (h1, .inr (3, [.int 0, .int 0, .ref r10, .ref r11, .ref r12, .ref r13, .ref r4, .ref h2, .ref r14])), (h2, .inl (k0, 122, .inr (.inr (.inr (.inr f0))))), (h3, .inr (4, [.int 0, .int 0, .int 0, .int 0, .int 0, .int 0, .int 0])), (h4, .inr (4, [.int 0, .int 0, .int 0, .int 0, .int 0, .int 0, .int 0]))] := hD
  refine W.widen (k := 0) (n := 0) (Nat.le_of_ble_eq_true rfl) (Nat.le_of_ble_eq_true rfl) ?_
  have er : r_70 = 0 := hw
  refine z_top (y := 0) er ?_
  refine lv_if_eq (tgt := 21) hx hb dX11_turn_4 (by decide) (fun _ => ?_) (fun h9 => absurd (by decide) h9)
  refine lv_iconst (v := (-1)) hx hb dX11_turn_21 (by decide) ?_
  exact zret_i hx hb hr hlocks hP hD hK hS () ((if_neg (by have := hx0; omega)).symm) [] [] (by decide) rfl rfl (Nat.le_of_ble_eq_true rfl) (Nat.le_of_ble_eq_true rfl) dX11_turn_22
theorem aX11_turn (l : Launch) (D : va_G) (h0 h1 h2 h3 h4 r0 r1 r2 r3 r4 r5 r6 r7 r8 r9 r10 r11 r12 r13 r14 r15 r16 : Nat) (k0 : ClassId) (f0 : Nat → Option Nat) (x0 : Int32) (sz : Nat) (hf_f0_0 : f0 0 = some h3) (hf_f0_1 : f0 1 = some h4) (hf_f0_2 : f0 2 = some r15) (hf_f0_3 : f0 3 = some r16) : Met l yX11_turn wsX11_turn ({ frames := 1, cells := 0, slots := 0, locals := 21 }) (zPre D [.ref h0, .int x0] [(h0, .inr (11, [.ref r0, .int 0, .ref r1, .ref r2, .ref r3, .ref r4, .ref r5, .ref h1, .ref r6, .ref r7, .ref r8, .ref r9])), (h1, .inr (3, [.int 0, .int 0, .ref r10, .ref r11, .ref r12, .ref r13, .ref r4, .ref h2, .ref r14])), (h2, .inl (k0, 122, .inr (.inr (.inr (.inr f0))))), (h3, .inr (4, [.int 0, .int 0, .int 0, .int 0, .int 0, .int 0, .int 0])), (h4, .inr (4, [.int 0, .int 0, .int 0, .int 0, .int 0, .int 0, .int 0]))] [(k0, .object RX4)] sz) ((fun A => va_Qi (fun (r : Int32) (u : Unit) => r = (an_turn x0)) (zB D A (fun (u : Unit) => match u with | _ => []) (fun (u : Unit) => match u with | _ => [])) A) (va_A [(h0, .inr (11, [.ref r0, .int 0, .ref r1, .ref r2, .ref r3, .ref r4, .ref r5, .ref h1, .ref r6, .ref r7, .ref r8, .ref r9])), (h1, .inr (3, [.int 0, .int 0, .ref r10, .ref r11, .ref r12, .ref r13, .ref r4, .ref h2, .ref r14])), (h2, .inl (k0, 122, .inr (.inr (.inr (.inr f0))))), (h3, .inr (4, [.int 0, .int 0, .int 0, .int 0, .int 0, .int 0, .int 0])), (h4, .inr (4, [.int 0, .int 0, .int 0, .int 0, .int 0, .int 0, .int 0]))] sz)) 0 0 (va_A [(h0, .inr (11, [.ref r0, .int 0, .ref r1, .ref r2, .ref r3, .ref r4, .ref r5, .ref h1, .ref r6, .ref r7, .ref r8, .ref r9])), (h1, .inr (3, [.int 0, .int 0, .ref r10, .ref r11, .ref r12, .ref r13, .ref r4, .ref h2, .ref r14])), (h2, .inl (k0, 122, .inr (.inr (.inr (.inr f0))))), (h3, .inr (4, [.int 0, .int 0, .int 0, .int 0, .int 0, .int 0, .int 0])), (h4, .inr (4, [.int 0, .int 0, .int 0, .int 0, .int 0, .int 0, .int 0]))] sz) := by
  rcases (show x0 = 0 ∨ x0 = 1 ∨ (-2147483648 ≤ x0.toInt ∧ x0.toInt ≤ -1) ∨ (2 ≤ x0.toInt ∧ x0.toInt ≤ 2147483647) from by simp only [fa_eq, zk_0, zk_1]; have := z_rng x0; omega) with rfl | rfl | b0 | b0
  ·
    exact aX11_turn_c1 l D h0 h1 h2 h3 h4 r0 r1 r2 r3 r4 r5 r6 r7 r8 r9 r10 r11 r12 r13 r14 r15 r16 k0 f0  _ hf_f0_0 hf_f0_1 hf_f0_2 hf_f0_3 
  ·
    exact aX11_turn_c2 l D h0 h1 h2 h3 h4 r0 r1 r2 r3 r4 r5 r6 r7 r8 r9 r10 r11 r12 r13 r14 r15 r16 k0 f0  _ hf_f0_0 hf_f0_1 hf_f0_2 hf_f0_3 
  ·
    exact aX11_turn_c3 l D h0 h1 h2 h3 h4 r0 r1 r2 r3 r4 r5 r6 r7 r8 r9 r10 r11 r12 r13 r14 r15 r16 k0 f0 x0 _ hf_f0_0 hf_f0_1 hf_f0_2 hf_f0_3 b0
  ·
    exact aX11_turn_c4 l D h0 h1 h2 h3 h4 r0 r1 r2 r3 r4 r5 r6 r7 r8 r9 r10 r11 r12 r13 r14 r15 r16 k0 f0 x0 _ hf_f0_0 hf_f0_1 hf_f0_2 hf_f0_3 b0
set_option maxHeartbeats 4000000 in
set_option maxRecDepth 100000 in
theorem zX2_countMoves_1 (l : Launch) (D : va_G) (h0 r0 r1 r2 r3 r4 r5 r6 r7 : Nat) (sz : Nat) : Met l yX2_countMoves wsX2_countMoves ({ frames := 0, cells := 0, slots := 0, locals := 0 }) (zPre D [.ref h0, .ref r0] [(h0, .inr (2, [.int 0, .int 0, .int 0, .int 0, .int 0, .ref r1, .ref r2, .ref r3, .ref r4, .ref r5, .ref r6, .ref r7]))] [] sz) ((fun A => va_Qi (fun (r : Int32) (u : Unit) => r = 0) (zB D A (fun (u : Unit) => match u with | _ => [(h0, .inr (2, [.int 0, .int 0, .int 0, .int 0, .int 0, .ref r1, .ref r2, .ref r3, .ref r4, .ref r5, .ref r6, .ref r7]))]) (fun (u : Unit) => match u with | _ => [])) A) (va_A [(h0, .inr (2, [.int 0, .int 0, .int 0, .int 0, .int 0, .ref r1, .ref r2, .ref r3, .ref r4, .ref r5, .ref r6, .ref r7]))] sz)) 0 0 (va_A [(h0, .inr (2, [.int 0, .int 0, .int 0, .int 0, .int 0, .ref r1, .ref r2, .ref r3, .ref r4, .ref r5, .ref r6, .ref r7]))] sz) := by
  refine zOfW (QF := fun A => va_Qi (fun (r : Int32) (u : Unit) => r = 0) (zB D A (fun (u : Unit) => match u with | _ => [(h0, .inr (2, [.int 0, .int 0, .int 0, .int 0, .int 0, .ref r1, .ref r2, .ref r3, .ref r4, .ref r5, .ref r6, .ref r7]))]) (fun (u : Unit) => match u with | _ => [])) A) (cc := cX2_countMoves) (maxL := 4) (ret := (some .int)) (by decide) rfl (Nat.le_of_ble_eq_true rfl) ?_
  intro p e s m below meth c A ls hx hb hr hml hts hown hlocks hin hA hS hP hD hK hN hl
  have hl : lv_has ls 4 [(0, .ref h0), (1, .ref r0)] := hl
  refine lv_iconst (v := 0) hx hb dX2_countMoves_0 (by decide) ?_
  refine lv_istore_n (lv' := [(2, .int 0), (0, .ref h0), (1, .ref r0)]) hx hb dX2_countMoves_1 rfl hl (by decide) rfl (fun ls hl => ?_)
  refine lv_iconst (v := 0) hx hb dX2_countMoves_2 (by decide) ?_
  refine lv_istore_n (lv' := [(3, .int 0), (2, .int 0), (0, .ref h0), (1, .ref r0)]) hx hb dX2_countMoves_3 rfl hl (by decide) rfl (fun ls hl => ?_)
  refine lv_iload_n hx hb dX2_countMoves_4 rfl (lv_at hl 0 rfl) ?_
  refine lv_aload_n hx hb dX2_countMoves_5 rfl (lv_at hl 2 rfl) ?_
  refine va_get (D := D) (ci := 2) (v := .int 0) (C := RX2) (T := TX2) (N := 12) hx hb hts iuX2_countMoves_X2 hown hK hP 0 rfl rfl 0 (by decide) (hts (.fieldLink RX2 9 "StraitGame$Laws" "squares" "I") (List.mem_of_getElem? (i := 1) rfl)) (fun _ h9 => h9) rfl dX2_countMoves_6 ?_
  refine lv_icmp_ge (tgt := 39) hx hb dX2_countMoves_9 (by decide) (fun _ => ?_) (fun h9 => absurd (by decide) h9)
  refine lv_iload_n hx hb dX2_countMoves_39 rfl (lv_at hl 1 rfl) ?_
  exact zret_i hx hb hr hlocks hP hD hK hS () rfl [0] [] (by decide) rfl rfl (Nat.le_of_ble_eq_true rfl) (Nat.le_of_ble_eq_true rfl) dX2_countMoves_40
set_option maxHeartbeats 4000000 in
set_option maxRecDepth 100000 in
theorem aX11_moves_c1 (l : Launch) (D : va_G) (h0 h1 h2 h3 r0 r1 r2 r3 r4 r5 r6 r7 r8 r9 r10 r11 r12 r13 r14 r15 r16 r17 r18 r19 r20 r21 r22 r23 r24 : Nat) (k0 : ClassId) (f0 : Nat → Option Nat) (sz : Nat) (hf_f0_0 : f0 0 = some r14) (hf_f0_1 : f0 1 = some r15) (hf_f0_2 : f0 2 = some r16) (hf_f0_3 : f0 3 = some r17) : Met l yX11_moves wsX11_moves ({ frames := 1, cells := 0, slots := 0, locals := 23 }) (zPre D [.ref h0, .int 0] [(h0, .inr (11, [.ref r0, .int 0, .ref r1, .ref r2, .ref r3, .ref h3, .ref r4, .ref h1, .ref r5, .ref r6, .ref r7, .ref r8])), (h1, .inr (3, [.int 0, .int 0, .ref r9, .ref r10, .ref r11, .ref r12, .ref h3, .ref h2, .ref r13])), (h2, .inl (k0, 122, .inr (.inr (.inr (.inr f0))))), (h3, .inr (2, [.int 0, .int 0, .int 0, .int 0, .int 0, .ref r18, .ref r19, .ref r20, .ref r21, .ref r22, .ref r23, .ref r24]))] [(k0, .object RX4)] sz) ((fun A => va_Qi (fun (r : Int32) (u : Unit) => r = (an_moves 0)) (zB D A (fun (u : Unit) => match u with | _ => []) (fun (u : Unit) => match u with | _ => [])) A) (va_A [(h0, .inr (11, [.ref r0, .int 0, .ref r1, .ref r2, .ref r3, .ref h3, .ref r4, .ref h1, .ref r5, .ref r6, .ref r7, .ref r8])), (h1, .inr (3, [.int 0, .int 0, .ref r9, .ref r10, .ref r11, .ref r12, .ref h3, .ref h2, .ref r13])), (h2, .inl (k0, 122, .inr (.inr (.inr (.inr f0))))), (h3, .inr (2, [.int 0, .int 0, .int 0, .int 0, .int 0, .ref r18, .ref r19, .ref r20, .ref r21, .ref r22, .ref r23, .ref r24]))] sz)) 0 0 (va_A [(h0, .inr (11, [.ref r0, .int 0, .ref r1, .ref r2, .ref r3, .ref h3, .ref r4, .ref h1, .ref r5, .ref r6, .ref r7, .ref r8])), (h1, .inr (3, [.int 0, .int 0, .ref r9, .ref r10, .ref r11, .ref r12, .ref h3, .ref h2, .ref r13])), (h2, .inl (k0, 122, .inr (.inr (.inr (.inr f0))))), (h3, .inr (2, [.int 0, .int 0, .int 0, .int 0, .int 0, .ref r18, .ref r19, .ref r20, .ref r21, .ref r22, .ref r23, .ref r24]))] sz) := by
  refine zOfW (QF := fun A => va_Qi (fun (r : Int32) (u : Unit) => r = (an_moves 0)) (zB D A (fun (u : Unit) => match u with | _ => []) (fun (u : Unit) => match u with | _ => [])) A) (cc := cX11_moves) (maxL := 2) (ret := (some .int)) (by decide) rfl (Nat.le_of_ble_eq_true rfl) ?_
  intro p e s m below meth c A ls hx hb hr hml hts hown hlocks hin hA hS hP hD hK hN hl
  have hl : lv_has ls 2 [(0, .ref h0), (1, .int 0)] := hl
  refine lv_iload_n hx hb dX11_moves_0 rfl (lv_at hl 1 rfl) ?_
  refine zA_i (zR_S (As := [.int 0]) (rest := []) ⟨hx, hb, hml, hown, hts⟩ (zX11_isKeeper_1 l D _) (va_cwS 1 hts gX11_moves_X11_isKeeper rfl rfl rfl (by decide +kernel) ⟨(Nat.le_of_ble_eq_true rfl), (Nat.le_of_ble_eq_true rfl)⟩) hP hD hK hN [] [] rfl (by decide) rfl rfl hl.1 rfl (Nat.le_of_ble_eq_true rfl) dX11_moves_1 ⟨(Nat.le_of_ble_eq_true rfl), (Nat.le_of_ble_eq_true rfl)⟩) hP hD hK hS hA [] [0, 1, 2, 3] rfl rfl (by decide) (by decide) (fun r_85 u H locs hw hP hD hK hS => ?_)
  have hK : va_K D vwCl [(k0, .object RX4)] s := hK
  have hP : va_P D vwCl [(h0, .inr (11, [.ref r0, .int 0, .ref r1, .ref r2, .ref r3, .ref h3, .ref r4, .ref h1, .ref r5, .ref r6, .ref r7, .ref r8])), (h1, .inr (3, [.int 0, .int 0, .ref r9, .ref r10, .ref r11, .ref r12, .ref h3, .ref h2, .ref r13])), (h2, .inl (k0, 122, .inr (.inr (.inr (.inr f0))))), (h3, .inr (2, [.int 0, .int 0, .int 0, .int 0, .int 0, .ref r18, .ref r19, .ref r20, .ref r21, .ref r22, .ref r23, .ref r24]))] H := hP
  have hD : va_D A [(h0, .inr (11, [.ref r0, .int 0, .ref r1, .ref r2, .ref r3, .ref h3, .ref r4, .ref h1, .ref r5, .ref r6, .ref r7, .ref r8])), (h1, .inr (3, [.int 0, .int 0, .ref r9, .ref r10, .ref r11, .ref r12, .ref h3, .ref h2, .ref r13])), (h2, .inl (k0, 122, .inr (.inr (.inr (.inr f0))))), (h3, .inr (2, [.int 0, .int 0, .int 0, .int 0, .int 0, .ref r18, .ref r19, .ref r20, .ref r21, .ref r22, .ref r23, .ref r24]))] := hD
  refine W.widen (k := 0) (n := 0) (Nat.le_of_ble_eq_true rfl) (Nat.le_of_ble_eq_true rfl) ?_
  have er : r_85 = 1 := hw
  refine z_top (y := 1) er ?_
  refine lv_if_eq (tgt := 25) hx hb dX11_moves_4 (by decide) (fun h9 => absurd h9 (by decide)) (fun _ => ?_)
  refine lv_aload_n hx hb dX11_moves_7 rfl (lv_at hl 0 rfl) ?_
  refine va_get (D := D) (ci := 11) (v := .ref h3) (C := RX11) (T := TX11) (N := 12) hx hb hts iuX11_moves_X11 hown hK hP 0 rfl rfl 5 (by decide) (hts (.fieldLink RX11 39 "StraitGame" "laws" "LStraitGame$Laws;") (List.mem_of_getElem? (i := 1) rfl)) (fun _ h9 => h9) rfl dX11_moves_8 ?_
  refine lv_aload_n hx hb dX11_moves_11 rfl (lv_at hl 0 rfl) ?_
  refine va_get (D := D) (ci := 11) (v := .ref h1) (C := RX11) (T := TX11) (N := 12) hx hb hts iuX11_moves_X11 hown hK hP 0 rfl rfl 7 (by decide) (hts (.fieldLink RX11 55 "StraitGame" "nights" "LStraitGame$Nights;") (List.mem_of_getElem? (i := 2) rfl)) (fun _ h9 => h9) rfl dX11_moves_12 ?_
  refine lv_iload_n hx hb dX11_moves_15 rfl (lv_at hl 1 rfl) ?_
  refine zA_r (zR_V (As := [.int 0]) (rest := [.ref h3]) ⟨hx, hb, hml, hown, hts⟩ (zX3_boardNow_1 l D h1 h2 r9 r10 r11 r12 h3 r13 r14 r15 r16 r17 k0 f0 _ (hf_f0_0) (hf_f0_1) (hf_f0_2) (hf_f0_3)) (cwV 1 hts gX11_moves_X3_boardNow rfl rfl rfl (by decide +kernel) ⟨(Nat.le_of_ble_eq_true rfl), (Nat.le_of_ble_eq_true rfl)⟩) hP hD hK hN [1, 2] [0] rfl (by decide) rfl 0 3 rfl rfl rfl hl.1 rfl (Nat.le_of_ble_eq_true rfl) dX11_moves_16 ⟨(Nat.le_of_ble_eq_true rfl), (Nat.le_of_ble_eq_true rfl)⟩) hP hD hK hS hA [1, 2] [0, 3] rfl rfl (by decide) (by decide) (fun u H locs hw hP hD hK hS => ?_)
  have hK : va_K D vwCl [(k0, .object RX4)] s := hK
  have hP : va_P D vwCl [(h0, .inr (11, [.ref r0, .int 0, .ref r1, .ref r2, .ref r3, .ref h3, .ref r4, .ref h1, .ref r5, .ref r6, .ref r7, .ref r8])), (h3, .inr (2, [.int 0, .int 0, .int 0, .int 0, .int 0, .ref r18, .ref r19, .ref r20, .ref r21, .ref r22, .ref r23, .ref r24])), (h1, .inr (3, [.int 0, .int 0, .ref r9, .ref r10, .ref r11, .ref r12, .ref h3, .ref h2, .ref r13])), (h2, .inl (k0, 122, .inr (.inr (.inr (.inr f0)))))] H := hP
  have hD : va_D A [(h0, .inr (11, [.ref r0, .int 0, .ref r1, .ref r2, .ref r3, .ref h3, .ref r4, .ref h1, .ref r5, .ref r6, .ref r7, .ref r8])), (h3, .inr (2, [.int 0, .int 0, .int 0, .int 0, .int 0, .ref r18, .ref r19, .ref r20, .ref r21, .ref r22, .ref r23, .ref r24])), (h1, .inr (3, [.int 0, .int 0, .ref r9, .ref r10, .ref r11, .ref r12, .ref h3, .ref h2, .ref r13])), (h2, .inl (k0, 122, .inr (.inr (.inr (.inr f0)))))] := hD
  refine W.widen (k := 0) (n := 0) (Nat.le_of_ble_eq_true rfl) (Nat.le_of_ble_eq_true rfl) ?_
  refine zA_i (zR_V (As := [.ref r14]) (rest := []) ⟨hx, hb, hml, hown, hts⟩ (zX2_countMoves_1 l D h3 r14 r18 r19 r20 r21 r22 r23 r24 _) (cwV 1 hts gX11_moves_X2_countMoves rfl rfl rfl (by decide +kernel) ⟨(Nat.le_of_ble_eq_true rfl), (Nat.le_of_ble_eq_true rfl)⟩) hP hD hK hN [1] [] rfl (by decide) rfl 0 2 rfl rfl rfl hl.1 rfl (Nat.le_of_ble_eq_true rfl) dX11_moves_19 ⟨(Nat.le_of_ble_eq_true rfl), (Nat.le_of_ble_eq_true rfl)⟩) hP hD hK hS hA [1] [0, 2, 3] rfl rfl (by decide) (by decide) (fun r_86 u H locs hw hP hD hK hS => ?_)
  have hK : va_K D vwCl [(k0, .object RX4)] s := hK
  have hP : va_P D vwCl [(h0, .inr (11, [.ref r0, .int 0, .ref r1, .ref r2, .ref r3, .ref h3, .ref r4, .ref h1, .ref r5, .ref r6, .ref r7, .ref r8])), (h1, .inr (3, [.int 0, .int 0, .ref r9, .ref r10, .ref r11, .ref r12, .ref h3, .ref h2, .ref r13])), (h2, .inl (k0, 122, .inr (.inr (.inr (.inr f0))))), (h3, .inr (2, [.int 0, .int 0, .int 0, .int 0, .int 0, .ref r18, .ref r19, .ref r20, .ref r21, .ref r22, .ref r23, .ref r24]))] H := hP
  have hD : va_D A [(h0, .inr (11, [.ref r0, .int 0, .ref r1, .ref r2, .ref r3, .ref h3, .ref r4, .ref h1, .ref r5, .ref r6, .ref r7, .ref r8])), (h1, .inr (3, [.int 0, .int 0, .ref r9, .ref r10, .ref r11, .ref r12, .ref h3, .ref h2, .ref r13])), (h2, .inl (k0, 122, .inr (.inr (.inr (.inr f0))))), (h3, .inr (2, [.int 0, .int 0, .int 0, .int 0, .int 0, .ref r18, .ref r19, .ref r20, .ref r21, .ref r22, .ref r23, .ref r24]))] := hD
  refine W.widen (k := 0) (n := 0) (Nat.le_of_ble_eq_true rfl) (Nat.le_of_ble_eq_true rfl) ?_
  have er : r_86 = 0 := hw
  refine z_top (y := 0) er ?_
  refine lv_goto (tgt := 26) hx hb dX11_moves_22 (by decide) ?_
  exact zret_i hx hb hr hlocks hP hD hK hS () (by decide) [] [] (by decide) rfl rfl (Nat.le_of_ble_eq_true rfl) (Nat.le_of_ble_eq_true rfl) dX11_moves_26
set_option maxHeartbeats 4000000 in
set_option maxRecDepth 100000 in
theorem aX11_moves_c2 (l : Launch) (D : va_G) (h0 h1 h2 h3 r0 r1 r2 r3 r4 r5 r6 r7 r8 r9 r10 r11 r12 r13 r14 r15 r16 r17 r18 r19 r20 r21 r22 r23 r24 : Nat) (k0 : ClassId) (f0 : Nat → Option Nat) (sz : Nat) (hf_f0_0 : f0 0 = some r14) (hf_f0_1 : f0 1 = some r15) (hf_f0_2 : f0 2 = some r16) (hf_f0_3 : f0 3 = some r17) : Met l yX11_moves wsX11_moves ({ frames := 1, cells := 0, slots := 0, locals := 23 }) (zPre D [.ref h0, .int 1] [(h0, .inr (11, [.ref r0, .int 0, .ref r1, .ref r2, .ref r3, .ref h3, .ref r4, .ref h1, .ref r5, .ref r6, .ref r7, .ref r8])), (h1, .inr (3, [.int 0, .int 0, .ref r9, .ref r10, .ref r11, .ref r12, .ref h3, .ref h2, .ref r13])), (h2, .inl (k0, 122, .inr (.inr (.inr (.inr f0))))), (h3, .inr (2, [.int 0, .int 0, .int 0, .int 0, .int 0, .ref r18, .ref r19, .ref r20, .ref r21, .ref r22, .ref r23, .ref r24]))] [(k0, .object RX4)] sz) ((fun A => va_Qi (fun (r : Int32) (u : Unit) => r = (an_moves 1)) (zB D A (fun (u : Unit) => match u with | _ => []) (fun (u : Unit) => match u with | _ => [])) A) (va_A [(h0, .inr (11, [.ref r0, .int 0, .ref r1, .ref r2, .ref r3, .ref h3, .ref r4, .ref h1, .ref r5, .ref r6, .ref r7, .ref r8])), (h1, .inr (3, [.int 0, .int 0, .ref r9, .ref r10, .ref r11, .ref r12, .ref h3, .ref h2, .ref r13])), (h2, .inl (k0, 122, .inr (.inr (.inr (.inr f0))))), (h3, .inr (2, [.int 0, .int 0, .int 0, .int 0, .int 0, .ref r18, .ref r19, .ref r20, .ref r21, .ref r22, .ref r23, .ref r24]))] sz)) 0 0 (va_A [(h0, .inr (11, [.ref r0, .int 0, .ref r1, .ref r2, .ref r3, .ref h3, .ref r4, .ref h1, .ref r5, .ref r6, .ref r7, .ref r8])), (h1, .inr (3, [.int 0, .int 0, .ref r9, .ref r10, .ref r11, .ref r12, .ref h3, .ref h2, .ref r13])), (h2, .inl (k0, 122, .inr (.inr (.inr (.inr f0))))), (h3, .inr (2, [.int 0, .int 0, .int 0, .int 0, .int 0, .ref r18, .ref r19, .ref r20, .ref r21, .ref r22, .ref r23, .ref r24]))] sz) := by
  refine zOfW (QF := fun A => va_Qi (fun (r : Int32) (u : Unit) => r = (an_moves 1)) (zB D A (fun (u : Unit) => match u with | _ => []) (fun (u : Unit) => match u with | _ => [])) A) (cc := cX11_moves) (maxL := 2) (ret := (some .int)) (by decide) rfl (Nat.le_of_ble_eq_true rfl) ?_
  intro p e s m below meth c A ls hx hb hr hml hts hown hlocks hin hA hS hP hD hK hN hl
  have hl : lv_has ls 2 [(0, .ref h0), (1, .int 1)] := hl
  refine lv_iload_n hx hb dX11_moves_0 rfl (lv_at hl 1 rfl) ?_
  refine zA_i (zR_S (As := [.int 1]) (rest := []) ⟨hx, hb, hml, hown, hts⟩ (zX11_isKeeper_2 l D _) (va_cwS 1 hts gX11_moves_X11_isKeeper rfl rfl rfl (by decide +kernel) ⟨(Nat.le_of_ble_eq_true rfl), (Nat.le_of_ble_eq_true rfl)⟩) hP hD hK hN [] [] rfl (by decide) rfl rfl hl.1 rfl (Nat.le_of_ble_eq_true rfl) dX11_moves_1 ⟨(Nat.le_of_ble_eq_true rfl), (Nat.le_of_ble_eq_true rfl)⟩) hP hD hK hS hA [] [0, 1, 2, 3] rfl rfl (by decide) (by decide) (fun r_89 u H locs hw hP hD hK hS => ?_)
  have hK : va_K D vwCl [(k0, .object RX4)] s := hK
  have hP : va_P D vwCl [(h0, .inr (11, [.ref r0, .int 0, .ref r1, .ref r2, .ref r3, .ref h3, .ref r4, .ref h1, .ref r5, .ref r6, .ref r7, .ref r8])), (h1, .inr (3, [.int 0, .int 0, .ref r9, .ref r10, .ref r11, .ref r12, .ref h3, .ref h2, .ref r13])), (h2, .inl (k0, 122, .inr (.inr (.inr (.inr f0))))), (h3, .inr (2, [.int 0, .int 0, .int 0, .int 0, .int 0, .ref r18, .ref r19, .ref r20, .ref r21, .ref r22, .ref r23, .ref r24]))] H := hP
  have hD : va_D A [(h0, .inr (11, [.ref r0, .int 0, .ref r1, .ref r2, .ref r3, .ref h3, .ref r4, .ref h1, .ref r5, .ref r6, .ref r7, .ref r8])), (h1, .inr (3, [.int 0, .int 0, .ref r9, .ref r10, .ref r11, .ref r12, .ref h3, .ref h2, .ref r13])), (h2, .inl (k0, 122, .inr (.inr (.inr (.inr f0))))), (h3, .inr (2, [.int 0, .int 0, .int 0, .int 0, .int 0, .ref r18, .ref r19, .ref r20, .ref r21, .ref r22, .ref r23, .ref r24]))] := hD
  refine W.widen (k := 0) (n := 0) (Nat.le_of_ble_eq_true rfl) (Nat.le_of_ble_eq_true rfl) ?_
  have er : r_89 = 1 := hw
  refine z_top (y := 1) er ?_
  refine lv_if_eq (tgt := 25) hx hb dX11_moves_4 (by decide) (fun h9 => absurd h9 (by decide)) (fun _ => ?_)
  refine lv_aload_n hx hb dX11_moves_7 rfl (lv_at hl 0 rfl) ?_
  refine va_get (D := D) (ci := 11) (v := .ref h3) (C := RX11) (T := TX11) (N := 12) hx hb hts iuX11_moves_X11 hown hK hP 0 rfl rfl 5 (by decide) (hts (.fieldLink RX11 39 "StraitGame" "laws" "LStraitGame$Laws;") (List.mem_of_getElem? (i := 1) rfl)) (fun _ h9 => h9) rfl dX11_moves_8 ?_
  refine lv_aload_n hx hb dX11_moves_11 rfl (lv_at hl 0 rfl) ?_
  refine va_get (D := D) (ci := 11) (v := .ref h1) (C := RX11) (T := TX11) (N := 12) hx hb hts iuX11_moves_X11 hown hK hP 0 rfl rfl 7 (by decide) (hts (.fieldLink RX11 55 "StraitGame" "nights" "LStraitGame$Nights;") (List.mem_of_getElem? (i := 2) rfl)) (fun _ h9 => h9) rfl dX11_moves_12 ?_
  refine lv_iload_n hx hb dX11_moves_15 rfl (lv_at hl 1 rfl) ?_
  refine zA_r (zR_V (As := [.int 1]) (rest := [.ref h3]) ⟨hx, hb, hml, hown, hts⟩ (zX3_boardNow_2 l D h1 h2 r9 r10 r11 r12 h3 r13 r14 r15 r16 r17 k0 f0 _ (hf_f0_0) (hf_f0_1) (hf_f0_2) (hf_f0_3)) (cwV 1 hts gX11_moves_X3_boardNow rfl rfl rfl (by decide +kernel) ⟨(Nat.le_of_ble_eq_true rfl), (Nat.le_of_ble_eq_true rfl)⟩) hP hD hK hN [1, 2] [0] rfl (by decide) rfl 0 3 rfl rfl rfl hl.1 rfl (Nat.le_of_ble_eq_true rfl) dX11_moves_16 ⟨(Nat.le_of_ble_eq_true rfl), (Nat.le_of_ble_eq_true rfl)⟩) hP hD hK hS hA [1, 2] [0, 3] rfl rfl (by decide) (by decide) (fun u H locs hw hP hD hK hS => ?_)
  have hK : va_K D vwCl [(k0, .object RX4)] s := hK
  have hP : va_P D vwCl [(h0, .inr (11, [.ref r0, .int 0, .ref r1, .ref r2, .ref r3, .ref h3, .ref r4, .ref h1, .ref r5, .ref r6, .ref r7, .ref r8])), (h3, .inr (2, [.int 0, .int 0, .int 0, .int 0, .int 0, .ref r18, .ref r19, .ref r20, .ref r21, .ref r22, .ref r23, .ref r24])), (h1, .inr (3, [.int 0, .int 0, .ref r9, .ref r10, .ref r11, .ref r12, .ref h3, .ref h2, .ref r13])), (h2, .inl (k0, 122, .inr (.inr (.inr (.inr f0)))))] H := hP
  have hD : va_D A [(h0, .inr (11, [.ref r0, .int 0, .ref r1, .ref r2, .ref r3, .ref h3, .ref r4, .ref h1, .ref r5, .ref r6, .ref r7, .ref r8])), (h3, .inr (2, [.int 0, .int 0, .int 0, .int 0, .int 0, .ref r18, .ref r19, .ref r20, .ref r21, .ref r22, .ref r23, .ref r24])), (h1, .inr (3, [.int 0, .int 0, .ref r9, .ref r10, .ref r11, .ref r12, .ref h3, .ref h2, .ref r13])), (h2, .inl (k0, 122, .inr (.inr (.inr (.inr f0)))))] := hD
  refine W.widen (k := 0) (n := 0) (Nat.le_of_ble_eq_true rfl) (Nat.le_of_ble_eq_true rfl) ?_
  refine zA_i (zR_V (As := [.ref r15]) (rest := []) ⟨hx, hb, hml, hown, hts⟩ (zX2_countMoves_1 l D h3 r15 r18 r19 r20 r21 r22 r23 r24 _) (cwV 1 hts gX11_moves_X2_countMoves rfl rfl rfl (by decide +kernel) ⟨(Nat.le_of_ble_eq_true rfl), (Nat.le_of_ble_eq_true rfl)⟩) hP hD hK hN [1] [] rfl (by decide) rfl 0 2 rfl rfl rfl hl.1 rfl (Nat.le_of_ble_eq_true rfl) dX11_moves_19 ⟨(Nat.le_of_ble_eq_true rfl), (Nat.le_of_ble_eq_true rfl)⟩) hP hD hK hS hA [1] [0, 2, 3] rfl rfl (by decide) (by decide) (fun r_90 u H locs hw hP hD hK hS => ?_)
  have hK : va_K D vwCl [(k0, .object RX4)] s := hK
  have hP : va_P D vwCl [(h0, .inr (11, [.ref r0, .int 0, .ref r1, .ref r2, .ref r3, .ref h3, .ref r4, .ref h1, .ref r5, .ref r6, .ref r7, .ref r8])), (h1, .inr (3, [.int 0, .int 0, .ref r9, .ref r10, .ref r11, .ref r12, .ref h3, .ref h2, .ref r13])), (h2, .inl (k0, 122, .inr (.inr (.inr (.inr f0))))), (h3, .inr (2, [.int 0, .int 0, .int 0, .int 0, .int 0, .ref r18, .ref r19, .ref r20, .ref r21, .ref r22, .ref r23, .ref r24]))] H := hP
  have hD : va_D A [(h0, .inr (11, [.ref r0, .int 0, .ref r1, .ref r2, .ref r3, .ref h3, .ref r4, .ref h1, .ref r5, .ref r6, .ref r7, .ref r8])), (h1, .inr (3, [.int 0, .int 0, .ref r9, .ref r10, .ref r11, .ref r12, .ref h3, .ref h2, .ref r13])), (h2, .inl (k0, 122, .inr (.inr (.inr (.inr f0))))), (h3, .inr (2, [.int 0, .int 0, .int 0, .int 0, .int 0, .ref r18, .ref r19, .ref r20, .ref r21, .ref r22, .ref r23, .ref r24]))] := hD
  refine W.widen (k := 0) (n := 0) (Nat.le_of_ble_eq_true rfl) (Nat.le_of_ble_eq_true rfl) ?_
  have er : r_90 = 0 := hw
  refine z_top (y := 0) er ?_
  refine lv_goto (tgt := 26) hx hb dX11_moves_22 (by decide) ?_
  exact zret_i hx hb hr hlocks hP hD hK hS () (by decide) [] [] (by decide) rfl rfl (Nat.le_of_ble_eq_true rfl) (Nat.le_of_ble_eq_true rfl) dX11_moves_26
set_option maxHeartbeats 4000000 in
set_option maxRecDepth 100000 in
theorem aX11_moves_c3 (l : Launch) (D : va_G) (h0 h1 h2 h3 r0 r1 r2 r3 r4 r5 r6 r7 r8 r9 r10 r11 r12 r13 r14 r15 r16 r17 r18 r19 r20 r21 r22 r23 r24 : Nat) (k0 : ClassId) (f0 : Nat → Option Nat) (x0 : Int32) (sz : Nat) (hf_f0_0 : f0 0 = some r14) (hf_f0_1 : f0 1 = some r15) (hf_f0_2 : f0 2 = some r16) (hf_f0_3 : f0 3 = some r17) (hx0 : -2147483648 ≤ x0.toInt ∧ x0.toInt ≤ -1) : Met l yX11_moves wsX11_moves ({ frames := 1, cells := 0, slots := 0, locals := 23 }) (zPre D [.ref h0, .int x0] [(h0, .inr (11, [.ref r0, .int 0, .ref r1, .ref r2, .ref r3, .ref h3, .ref r4, .ref h1, .ref r5, .ref r6, .ref r7, .ref r8])), (h1, .inr (3, [.int 0, .int 0, .ref r9, .ref r10, .ref r11, .ref r12, .ref h3, .ref h2, .ref r13])), (h2, .inl (k0, 122, .inr (.inr (.inr (.inr f0))))), (h3, .inr (2, [.int 0, .int 0, .int 0, .int 0, .int 0, .ref r18, .ref r19, .ref r20, .ref r21, .ref r22, .ref r23, .ref r24]))] [(k0, .object RX4)] sz) ((fun A => va_Qi (fun (r : Int32) (u : Unit) => r = (an_moves x0)) (zB D A (fun (u : Unit) => match u with | _ => []) (fun (u : Unit) => match u with | _ => [])) A) (va_A [(h0, .inr (11, [.ref r0, .int 0, .ref r1, .ref r2, .ref r3, .ref h3, .ref r4, .ref h1, .ref r5, .ref r6, .ref r7, .ref r8])), (h1, .inr (3, [.int 0, .int 0, .ref r9, .ref r10, .ref r11, .ref r12, .ref h3, .ref h2, .ref r13])), (h2, .inl (k0, 122, .inr (.inr (.inr (.inr f0))))), (h3, .inr (2, [.int 0, .int 0, .int 0, .int 0, .int 0, .ref r18, .ref r19, .ref r20, .ref r21, .ref r22, .ref r23, .ref r24]))] sz)) 0 0 (va_A [(h0, .inr (11, [.ref r0, .int 0, .ref r1, .ref r2, .ref r3, .ref h3, .ref r4, .ref h1, .ref r5, .ref r6, .ref r7, .ref r8])), (h1, .inr (3, [.int 0, .int 0, .ref r9, .ref r10, .ref r11, .ref r12, .ref h3, .ref h2, .ref r13])), (h2, .inl (k0, 122, .inr (.inr (.inr (.inr f0))))), (h3, .inr (2, [.int 0, .int 0, .int 0, .int 0, .int 0, .ref r18, .ref r19, .ref r20, .ref r21, .ref r22, .ref r23, .ref r24]))] sz) := by
  refine zOfW (QF := fun A => va_Qi (fun (r : Int32) (u : Unit) => r = (an_moves x0)) (zB D A (fun (u : Unit) => match u with | _ => []) (fun (u : Unit) => match u with | _ => [])) A) (cc := cX11_moves) (maxL := 2) (ret := (some .int)) (by decide) rfl (Nat.le_of_ble_eq_true rfl) ?_
  intro p e s m below meth c A ls hx hb hr hml hts hown hlocks hin hA hS hP hD hK hN hl
  have hl : lv_has ls 2 [(0, .ref h0), (1, .int x0)] := hl
  refine lv_iload_n hx hb dX11_moves_0 rfl (lv_at hl 1 rfl) ?_
  refine zA_i (zR_S (As := [.int x0]) (rest := []) ⟨hx, hb, hml, hown, hts⟩ (zX11_isKeeper_3 l D x0 _ hx0) (va_cwS 1 hts gX11_moves_X11_isKeeper rfl rfl rfl (by decide +kernel) ⟨(Nat.le_of_ble_eq_true rfl), (Nat.le_of_ble_eq_true rfl)⟩) hP hD hK hN [] [] rfl (by decide) rfl rfl hl.1 rfl (Nat.le_of_ble_eq_true rfl) dX11_moves_1 ⟨(Nat.le_of_ble_eq_true rfl), (Nat.le_of_ble_eq_true rfl)⟩) hP hD hK hS hA [] [0, 1, 2, 3] rfl rfl (by decide) (by decide) (fun r_92 u H locs hw hP hD hK hS => ?_)
  have hK : va_K D vwCl [(k0, .object RX4)] s := hK
  have hP : va_P D vwCl [(h0, .inr (11, [.ref r0, .int 0, .ref r1, .ref r2, .ref r3, .ref h3, .ref r4, .ref h1, .ref r5, .ref r6, .ref r7, .ref r8])), (h1, .inr (3, [.int 0, .int 0, .ref r9, .ref r10, .ref r11, .ref r12, .ref h3, .ref h2, .ref r13])), (h2, .inl (k0, 122, .inr (.inr (.inr (.inr f0))))), (h3, .inr (2, [.int 0, .int 0, .int 0, .int 0, .int 0, .ref r18, .ref r19, .ref r20, .ref r21, .ref r22, .ref r23, .ref r24]))] H := hP
  have hD : va_D A [(h0, .inr (11, [.ref r0, .int 0, .ref r1, .ref r2, .ref r3, .ref h3, .ref r4, .ref h1, .ref r5, .ref r6, .ref r7, .ref r8])), (h1, .inr (3, [.int 0, .int 0, .ref r9, .ref r10, .ref r11, .ref r12, .ref h3, .ref h2, .ref r13])), (h2, .inl (k0, 122, .inr (.inr (.inr (.inr f0))))), (h3, .inr (2, [.int 0, .int 0, .int 0, .int 0, .int 0, .ref r18, .ref r19, .ref r20, .ref r21, .ref r22, .ref r23, .ref r24]))] := hD
  refine W.widen (k := 0) (n := 0) (Nat.le_of_ble_eq_true rfl) (Nat.le_of_ble_eq_true rfl) ?_
  have er : r_92 = 0 := hw
  refine z_top (y := 0) er ?_
  refine lv_if_eq (tgt := 25) hx hb dX11_moves_4 (by decide) (fun _ => ?_) (fun h9 => absurd (by decide) h9)
  refine lv_iconst (v := (-1)) hx hb dX11_moves_25 (by decide) ?_
  exact zret_i hx hb hr hlocks hP hD hK hS () ((if_neg (by have := hx0; omega)).symm) [] [] (by decide) rfl rfl (Nat.le_of_ble_eq_true rfl) (Nat.le_of_ble_eq_true rfl) dX11_moves_26
set_option maxHeartbeats 4000000 in
set_option maxRecDepth 100000 in
theorem aX11_moves_c4 (l : Launch) (D : va_G) (h0 h1 h2 h3 r0 r1 r2 r3 r4 r5 r6 r7 r8 r9 r10 r11 r12 r13 r14 r15 r16 r17 r18 r19 r20 r21 r22 r23 r24 : Nat) (k0 : ClassId) (f0 : Nat → Option Nat) (x0 : Int32) (sz : Nat) (hf_f0_0 : f0 0 = some r14) (hf_f0_1 : f0 1 = some r15) (hf_f0_2 : f0 2 = some r16) (hf_f0_3 : f0 3 = some r17) (hx0 : 2 ≤ x0.toInt ∧ x0.toInt ≤ 2147483647) : Met l yX11_moves wsX11_moves ({ frames := 1, cells := 0, slots := 0, locals := 23 }) (zPre D [.ref h0, .int x0] [(h0, .inr (11, [.ref r0, .int 0, .ref r1, .ref r2, .ref r3, .ref h3, .ref r4, .ref h1, .ref r5, .ref r6, .ref r7, .ref r8])), (h1, .inr (3, [.int 0, .int 0, .ref r9, .ref r10, .ref r11, .ref r12, .ref h3, .ref h2, .ref r13])), (h2, .inl (k0, 122, .inr (.inr (.inr (.inr f0))))), (h3, .inr (2, [.int 0, .int 0, .int 0, .int 0, .int 0, .ref r18, .ref r19, .ref r20, .ref r21, .ref r22, .ref r23, .ref r24]))] [(k0, .object RX4)] sz) ((fun A => va_Qi (fun (r : Int32) (u : Unit) => r = (an_moves x0)) (zB D A (fun (u : Unit) => match u with | _ => []) (fun (u : Unit) => match u with | _ => [])) A) (va_A [(h0, .inr (11, [.ref r0, .int 0, .ref r1, .ref r2, .ref r3, .ref h3, .ref r4, .ref h1, .ref r5, .ref r6, .ref r7, .ref r8])), (h1, .inr (3, [.int 0, .int 0, .ref r9, .ref r10, .ref r11, .ref r12, .ref h3, .ref h2, .ref r13])), (h2, .inl (k0, 122, .inr (.inr (.inr (.inr f0))))), (h3, .inr (2, [.int 0, .int 0, .int 0, .int 0, .int 0, .ref r18, .ref r19, .ref r20, .ref r21, .ref r22, .ref r23, .ref r24]))] sz)) 0 0 (va_A [(h0, .inr (11, [.ref r0, .int 0, .ref r1, .ref r2, .ref r3, .ref h3, .ref r4, .ref h1, .ref r5, .ref r6, .ref r7, .ref r8])), (h1, .inr (3, [.int 0, .int 0, .ref r9, .ref r10, .ref r11, .ref r12, .ref h3, .ref h2, .ref r13])), (h2, .inl (k0, 122, .inr (.inr (.inr (.inr f0))))), (h3, .inr (2, [.int 0, .int 0, .int 0, .int 0, .int 0, .ref r18, .ref r19, .ref r20, .ref r21, .ref r22, .ref r23, .ref r24]))] sz) := by
  refine zOfW (QF := fun A => va_Qi (fun (r : Int32) (u : Unit) => r = (an_moves x0)) (zB D A (fun (u : Unit) => match u with | _ => []) (fun (u : Unit) => match u with | _ => [])) A) (cc := cX11_moves) (maxL := 2) (ret := (some .int)) (by decide) rfl (Nat.le_of_ble_eq_true rfl) ?_
  intro p e s m below meth c A ls hx hb hr hml hts hown hlocks hin hA hS hP hD hK hN hl
  have hl : lv_has ls 2 [(0, .ref h0), (1, .int x0)] := hl
  refine lv_iload_n hx hb dX11_moves_0 rfl (lv_at hl 1 rfl) ?_
  refine zA_i (zR_S (As := [.int x0]) (rest := []) ⟨hx, hb, hml, hown, hts⟩ (zX11_isKeeper_4 l D x0 _ hx0) (va_cwS 1 hts gX11_moves_X11_isKeeper rfl rfl rfl (by decide +kernel) ⟨(Nat.le_of_ble_eq_true rfl), (Nat.le_of_ble_eq_true rfl)⟩) hP hD hK hN [] [] rfl (by decide) rfl rfl hl.1 rfl (Nat.le_of_ble_eq_true rfl) dX11_moves_1 ⟨(Nat.le_of_ble_eq_true rfl), (Nat.le_of_ble_eq_true rfl)⟩) hP hD hK hS hA [] [0, 1, 2, 3] rfl rfl (by decide) (by decide) (fun r_94 u H locs hw hP hD hK hS => ?_)
  have hK : va_K D vwCl [(k0, .object RX4)] s := hK
  have hP : va_P D vwCl [(h0, .inr (11, [.ref r0, .int 0, .ref r1, .ref r2, .ref r3, .ref h3, .ref r4, .ref h1, .ref r5, .ref r6, .ref r7, .ref r8])), (h1, .inr (3, [.int 0, .int 0, .ref r9, .ref r10, .ref r11, .ref r12, .ref h3, .ref h2, .ref r13])), (h2, .inl (k0, 122, .inr (.inr (.inr (.inr f0))))), (h3, .inr (2, [.int 0, .int 0, .int 0, .int 0, .int 0, .ref r18, .ref r19, .ref r20, .ref r21, .ref r22, .ref r23, .ref r24]))] H := hP
  have hD : va_D A [(h0, .inr (11, [.ref r0, .int 0, .ref r1, .ref r2, .ref r3, .ref h3, .ref r4, .ref h1, .ref r5, .ref r6, .ref r7, .ref r8])), (h1, .inr (3, [.int 0, .int 0, .ref r9, .ref r10, .ref r11, .ref r12, .ref h3, .ref h2, .ref r13])), (h2, .inl (k0, 122, .inr (.inr (.inr (.inr f0))))), (h3, .inr (2, [.int 0, .int 0, .int 0, .int 0, .int 0, .ref r18, .ref r19, .ref r20, .ref r21, .ref r22, .ref r23, .ref r24]))] := hD
  refine W.widen (k := 0) (n := 0) (Nat.le_of_ble_eq_true rfl) (Nat.le_of_ble_eq_true rfl) ?_
  have er : r_94 = 0 := hw
  refine z_top (y := 0) er ?_
  refine lv_if_eq (tgt := 25) hx hb dX11_moves_4 (by decide) (fun _ => ?_) (fun h9 => absurd (by decide) h9)
  refine lv_iconst (v := (-1)) hx hb dX11_moves_25 (by decide) ?_
  exact zret_i hx hb hr hlocks hP hD hK hS () ((if_neg (by have := hx0; omega)).symm) [] [] (by decide) rfl rfl (Nat.le_of_ble_eq_true rfl) (Nat.le_of_ble_eq_true rfl) dX11_moves_26
theorem aX11_moves (l : Launch) (D : va_G) (h0 h1 h2 h3 r0 r1 r2 r3 r4 r5 r6 r7 r8 r9 r10 r11 r12 r13 r14 r15 r16 r17 r18 r19 r20 r21 r22 r23 r24 : Nat) (k0 : ClassId) (f0 : Nat → Option Nat) (x0 : Int32) (sz : Nat) (hf_f0_0 : f0 0 = some r14) (hf_f0_1 : f0 1 = some r15) (hf_f0_2 : f0 2 = some r16) (hf_f0_3 : f0 3 = some r17) : Met l yX11_moves wsX11_moves ({ frames := 1, cells := 0, slots := 0, locals := 23 }) (zPre D [.ref h0, .int x0] [(h0, .inr (11, [.ref r0, .int 0, .ref r1, .ref r2, .ref r3, .ref h3, .ref r4, .ref h1, .ref r5, .ref r6, .ref r7, .ref r8])), (h1, .inr (3, [.int 0, .int 0, .ref r9, .ref r10, .ref r11, .ref r12, .ref h3, .ref h2, .ref r13])), (h2, .inl (k0, 122, .inr (.inr (.inr (.inr f0))))), (h3, .inr (2, [.int 0, .int 0, .int 0, .int 0, .int 0, .ref r18, .ref r19, .ref r20, .ref r21, .ref r22, .ref r23, .ref r24]))] [(k0, .object RX4)] sz) ((fun A => va_Qi (fun (r : Int32) (u : Unit) => r = (an_moves x0)) (zB D A (fun (u : Unit) => match u with | _ => []) (fun (u : Unit) => match u with | _ => [])) A) (va_A [(h0, .inr (11, [.ref r0, .int 0, .ref r1, .ref r2, .ref r3, .ref h3, .ref r4, .ref h1, .ref r5, .ref r6, .ref r7, .ref r8])), (h1, .inr (3, [.int 0, .int 0, .ref r9, .ref r10, .ref r11, .ref r12, .ref h3, .ref h2, .ref r13])), (h2, .inl (k0, 122, .inr (.inr (.inr (.inr f0))))), (h3, .inr (2, [.int 0, .int 0, .int 0, .int 0, .int 0, .ref r18, .ref r19, .ref r20, .ref r21, .ref r22, .ref r23, .ref r24]))] sz)) 0 0 (va_A [(h0, .inr (11, [.ref r0, .int 0, .ref r1, .ref r2, .ref r3, .ref h3, .ref r4, .ref h1, .ref r5, .ref r6, .ref r7, .ref r8])), (h1, .inr (3, [.int 0, .int 0, .ref r9, .ref r10, .ref r11, .ref r12, .ref h3, .ref h2, .ref r13])), (h2, .inl (k0, 122, .inr (.inr (.inr (.inr f0))))), (h3, .inr (2, [.int 0, .int 0, .int 0, .int 0, .int 0, .ref r18, .ref r19, .ref r20, .ref r21, .ref r22, .ref r23, .ref r24]))] sz) := by
  rcases (show x0 = 0 ∨ x0 = 1 ∨ (-2147483648 ≤ x0.toInt ∧ x0.toInt ≤ -1) ∨ (2 ≤ x0.toInt ∧ x0.toInt ≤ 2147483647) from by simp only [fa_eq, zk_0, zk_1]; have := z_rng x0; omega) with rfl | rfl | b0 | b0
  ·
    exact aX11_moves_c1 l D h0 h1 h2 h3 r0 r1 r2 r3 r4 r5 r6 r7 r8 r9 r10 r11 r12 r13 r14 r15 r16 r17 r18 r19 r20 r21 r22 r23 r24 k0 f0  _ hf_f0_0 hf_f0_1 hf_f0_2 hf_f0_3 
  ·
    exact aX11_moves_c2 l D h0 h1 h2 h3 r0 r1 r2 r3 r4 r5 r6 r7 r8 r9 r10 r11 r12 r13 r14 r15 r16 r17 r18 r19 r20 r21 r22 r23 r24 k0 f0  _ hf_f0_0 hf_f0_1 hf_f0_2 hf_f0_3 
  ·
    exact aX11_moves_c3 l D h0 h1 h2 h3 r0 r1 r2 r3 r4 r5 r6 r7 r8 r9 r10 r11 r12 r13 r14 r15 r16 r17 r18 r19 r20 r21 r22 r23 r24 k0 f0 x0 _ hf_f0_0 hf_f0_1 hf_f0_2 hf_f0_3 b0
  ·
    exact aX11_moves_c4 l D h0 h1 h2 h3 r0 r1 r2 r3 r4 r5 r6 r7 r8 r9 r10 r11 r12 r13 r14 r15 r16 r17 r18 r19 r20 r21 r22 r23 r24 k0 f0 x0 _ hf_f0_0 hf_f0_1 hf_f0_2 hf_f0_3 b0
set_option maxHeartbeats 4000000 in
set_option maxRecDepth 100000 in
theorem zX2_kingless_1 (l : Launch) (D : va_G) (h0 r0 r1 r2 r3 r4 r5 r6 r7 : Nat) (sz : Nat) : Met l yX2_kingless wsX2_kingless ({ frames := 0, cells := 0, slots := 0, locals := 0 }) (zPre D [.ref h0, .ref r0] [(h0, .inr (2, [.int 0, .int 0, .int 0, .int 0, .int 0, .ref r1, .ref r2, .ref r3, .ref r4, .ref r5, .ref r6, .ref r7]))] [] sz) ((fun A => va_Qi (fun (r : Int32) (u : Unit) => r = (-1)) (zB D A (fun (u : Unit) => match u with | _ => [(h0, .inr (2, [.int 0, .int 0, .int 0, .int 0, .int 0, .ref r1, .ref r2, .ref r3, .ref r4, .ref r5, .ref r6, .ref r7]))]) (fun (u : Unit) => match u with | _ => [])) A) (va_A [(h0, .inr (2, [.int 0, .int 0, .int 0, .int 0, .int 0, .ref r1, .ref r2, .ref r3, .ref r4, .ref r5, .ref r6, .ref r7]))] sz)) 0 0 (va_A [(h0, .inr (2, [.int 0, .int 0, .int 0, .int 0, .int 0, .ref r1, .ref r2, .ref r3, .ref r4, .ref r5, .ref r6, .ref r7]))] sz) := by
  refine zOfW (QF := fun A => va_Qi (fun (r : Int32) (u : Unit) => r = (-1)) (zB D A (fun (u : Unit) => match u with | _ => [(h0, .inr (2, [.int 0, .int 0, .int 0, .int 0, .int 0, .ref r1, .ref r2, .ref r3, .ref r4, .ref r5, .ref r6, .ref r7]))]) (fun (u : Unit) => match u with | _ => [])) A) (cc := cX2_kingless) (maxL := 2) (ret := (some .int)) (by decide) rfl (Nat.le_of_ble_eq_true rfl) ?_
  intro p e s m below meth c A ls hx hb hr hml hts hown hlocks hin hA hS hP hD hK hN hl
  have hl : lv_has ls 2 [(0, .ref h0), (1, .ref r0)] := hl
  refine lv_aload_n hx hb dX2_kingless_0 rfl (lv_at hl 0 rfl) ?_
  refine va_get (D := D) (ci := 2) (v := .int 0) (C := RX2) (T := TX2) (N := 12) hx hb hts iuX2_kingless_X2 hown hK hP 0 rfl rfl 3 (by decide) (hts (.fieldLink RX2 21 "StraitGame$Laws" "whiteHadKing" "Z") (List.mem_of_getElem? (i := 1) rfl)) (fun _ h9 => h9) rfl dX2_kingless_1 ?_
  refine lv_if_eq (tgt := 21) hx hb dX2_kingless_4 (by decide) (fun _ => ?_) (fun h9 => absurd (by decide) h9)
  refine lv_aload_n hx hb dX2_kingless_21 rfl (lv_at hl 0 rfl) ?_
  refine va_get (D := D) (ci := 2) (v := .int 0) (C := RX2) (T := TX2) (N := 12) hx hb hts iuX2_kingless_X2 hown hK hP 0 rfl rfl 4 (by decide) (hts (.fieldLink RX2 25 "StraitGame$Laws" "blackHadKing" "Z") (List.mem_of_getElem? (i := 4) rfl)) (fun _ h9 => h9) rfl dX2_kingless_22 ?_
  refine lv_if_eq (tgt := 44) hx hb dX2_kingless_25 (by decide) (fun _ => ?_) (fun h9 => absurd (by decide) h9)
  refine lv_iconst (v := (-1)) hx hb dX2_kingless_44 (by decide) ?_
  exact zret_i hx hb hr hlocks hP hD hK hS () rfl [0] [] (by decide) rfl rfl (Nat.le_of_ble_eq_true rfl) (Nat.le_of_ble_eq_true rfl) dX2_kingless_45
set_option maxHeartbeats 4000000 in
set_option maxRecDepth 100000 in
theorem zX2_findMove_1 (l : Launch) (D : va_G) (h0 r0 r1 r2 r3 r4 r5 r6 r7 : Nat) (x0 : Int32) (sz : Nat) (hx0 : -2147483648 ≤ x0.toInt ∧ x0.toInt ≤ 2147483647) : Met l yX2_findMove wsX2_findMove ({ frames := 1, cells := 0, slots := 0, locals := 21 }) (zPre D [.ref h0, .ref r0, .int x0] [(h0, .inr (2, [.int 0, .int 0, .int 0, .int 0, .int 0, .ref r1, .ref r2, .ref r3, .ref r4, .ref r5, .ref r6, .ref r7]))] [] sz) ((fun A => va_Qi (fun (r : Int32) (u : Unit) => r = (-1)) (zB D A (fun (u : Unit) => match u with | _ => [(h0, .inr (2, [.int 0, .int 0, .int 0, .int 0, .int 0, .ref r1, .ref r2, .ref r3, .ref r4, .ref r5, .ref r6, .ref r7]))]) (fun (u : Unit) => match u with | _ => [])) A) (va_A [(h0, .inr (2, [.int 0, .int 0, .int 0, .int 0, .int 0, .ref r1, .ref r2, .ref r3, .ref r4, .ref r5, .ref r6, .ref r7]))] sz)) 0 0 (va_A [(h0, .inr (2, [.int 0, .int 0, .int 0, .int 0, .int 0, .ref r1, .ref r2, .ref r3, .ref r4, .ref r5, .ref r6, .ref r7]))] sz) := by
  refine zOfW (QF := fun A => va_Qi (fun (r : Int32) (u : Unit) => r = (-1)) (zB D A (fun (u : Unit) => match u with | _ => [(h0, .inr (2, [.int 0, .int 0, .int 0, .int 0, .int 0, .ref r1, .ref r2, .ref r3, .ref r4, .ref r5, .ref r6, .ref r7]))]) (fun (u : Unit) => match u with | _ => [])) A) (cc := cX2_findMove) (maxL := 7) (ret := (some .int)) (by decide) rfl (Nat.le_of_ble_eq_true rfl) ?_
  intro p e s m below meth c A ls hx hb hr hml hts hown hlocks hin hA hS hP hD hK hN hl
  have hl : lv_has ls 7 [(0, .ref h0), (1, .ref r0), (2, .int x0)] := hl
  refine lv_iload_n hx hb dX2_findMove_0 rfl (lv_at hl 2 rfl) ?_
  refine lv_if_lt (tgt := 13) hx hb dX2_findMove_1 (by decide) (fun c_11 => ?_) (fun c_11 => ?_)
  ·
    have b_21 : -2147483648 ≤ (x0).toInt ∧ (x0).toInt ≤ -1 := by have h8 := c_11; have h7 := hx0; simp only [fa_lt, fa_le, fa_eq, zk_0] at h8; omega
    refine lv_iconst (v := (-1)) hx hb dX2_findMove_13 (by decide) ?_
    exact zret_i hx hb hr hlocks hP hD hK hS () rfl [0] [] (by decide) rfl rfl (Nat.le_of_ble_eq_true rfl) (Nat.le_of_ble_eq_true rfl) dX2_findMove_14
  ·
    have b_22 : 0 ≤ (x0).toInt ∧ (x0).toInt ≤ 2147483647 := by have h8 := c_11; have h7 := hx0; simp only [fa_lt, fa_le, fa_eq, zk_0] at h8; omega
    refine lv_aload_n hx hb dX2_findMove_4 rfl (lv_at hl 0 rfl) ?_
    refine lv_aload_n hx hb dX2_findMove_5 rfl (lv_at hl 1 rfl) ?_
    refine zA_i (zR_V (As := [.ref r0]) (rest := []) ⟨hx, hb, hml, hown, hts⟩ (zX2_kingless_1 l D h0 r0 r1 r2 r3 r4 r5 r6 r7 _) (cwV 1 hts gX2_findMove_X2_kingless rfl rfl rfl (by decide +kernel) ⟨(Nat.le_of_ble_eq_true rfl), (Nat.le_of_ble_eq_true rfl)⟩) hP hD hK hN [0] [] rfl (by decide) rfl 0 2 rfl rfl rfl hl.1 rfl (Nat.le_of_ble_eq_true rfl) dX2_findMove_6 ⟨(Nat.le_of_ble_eq_true rfl), (Nat.le_of_ble_eq_true rfl)⟩) hP hD hK hS hA [0] [] rfl rfl (by decide) (by decide) (fun r_99 u H locs hw hP hD hK hS => ?_)
    have hK : va_K D vwCl [] s := hK
    have hP : va_P D vwCl [(h0, .inr (2, [.int 0, .int 0, .int 0, .int 0, .int 0, .ref r1, .ref r2, .ref r3, .ref r4, .ref r5, .ref r6, .ref r7]))] H := hP
    have hD : va_D A [(h0, .inr (2, [.int 0, .int 0, .int 0, .int 0, .int 0, .ref r1, .ref r2, .ref r3, .ref r4, .ref r5, .ref r6, .ref r7]))] := hD
    refine W.widen (k := 0) (n := 0) (Nat.le_of_ble_eq_true rfl) (Nat.le_of_ble_eq_true rfl) ?_
    have er : r_99 = (-1) := hw
    refine z_top (y := (-1)) er ?_
    refine lv_iconst (v := (-1)) hx hb dX2_findMove_9 (by decide) ?_
    refine lv_icmp_eq (tgt := 15) hx hb dX2_findMove_10 (by decide) (fun _ => ?_) (fun h9 => absurd (by decide) h9)
    refine lv_iload_n hx hb dX2_findMove_15 rfl (lv_at hl 2 rfl) ?_
    refine lv_istore_n (lv' := [(3, .int x0), (0, .ref h0), (1, .ref r0), (2, .int x0)]) hx hb dX2_findMove_16 rfl hl (by decide) rfl (fun ls hl => ?_)
    refine lv_iconst (v := 0) hx hb dX2_findMove_17 (by decide) ?_
    refine lv_istore (lv' := [(4, .int 0), (3, .int x0), (0, .ref h0), (1, .ref r0), (2, .int x0)]) hx hb dX2_findMove_18 hl (by decide) rfl (fun ls hl => ?_)
    refine lv_iload hx hb dX2_findMove_20 (lv_at hl 0 rfl) ?_
    refine lv_aload_n hx hb dX2_findMove_22 rfl (lv_at hl 2 rfl) ?_
    refine va_get (D := D) (ci := 2) (v := .int 0) (C := RX2) (T := TX2) (N := 12) hx hb hts iuX2_findMove_X2 hown hK hP 0 rfl rfl 0 (by decide) (hts (.fieldLink RX2 9 "StraitGame$Laws" "squares" "I") (List.mem_of_getElem? (i := 1) rfl)) (fun _ h9 => h9) rfl dX2_findMove_23 ?_
    refine lv_icmp_ge (tgt := 75) hx hb dX2_findMove_26 (by decide) (fun _ => ?_) (fun h9 => absurd (by decide) h9)
    refine lv_iconst (v := (-1)) hx hb dX2_findMove_75 (by decide) ?_
    exact zret_i hx hb hr hlocks hP hD hK hS () rfl [0] [] (by decide) rfl rfl (Nat.le_of_ble_eq_true rfl) (Nat.le_of_ble_eq_true rfl) dX2_findMove_76
set_option maxHeartbeats 4000000 in
set_option maxRecDepth 100000 in
theorem aX11_move_c1 (l : Launch) (D : va_G) (h0 h1 h2 h3 r0 r1 r2 r3 r4 r5 r6 r7 r8 r9 r10 r11 r12 r13 r14 r15 r16 r17 r18 r19 r20 r21 r22 r23 r24 : Nat) (k0 : ClassId) (f0 : Nat → Option Nat) (x1 : Int32) (x2 : Int32) (sz : Nat) (hf_f0_0 : f0 0 = some r14) (hf_f0_1 : f0 1 = some r15) (hf_f0_2 : f0 2 = some r16) (hf_f0_3 : f0 3 = some r17) (hx1 : -2147483648 ≤ x1.toInt ∧ x1.toInt ≤ 2147483647) (hx2 : -2147483648 ≤ x2.toInt ∧ x2.toInt ≤ -1) : Met l yX11_move wsX11_move ({ frames := 2, cells := 0, slots := 0, locals := 47 }) (zPre D [.ref h0, .int 0, .int x1, .int x2] [(h0, .inr (11, [.ref r0, .int 0, .ref r1, .ref r2, .ref r3, .ref h3, .ref r4, .ref h1, .ref r5, .ref r6, .ref r7, .ref r8])), (h1, .inr (3, [.int 0, .int 0, .ref r9, .ref r10, .ref r11, .ref r12, .ref h3, .ref h2, .ref r13])), (h2, .inl (k0, 122, .inr (.inr (.inr (.inr f0))))), (h3, .inr (2, [.int 0, .int 0, .int 0, .int 0, .int 0, .ref r18, .ref r19, .ref r20, .ref r21, .ref r22, .ref r23, .ref r24]))] [(k0, .object RX4)] sz) ((fun A => va_Qi (fun (r : Int32) (u : Unit) => r = (-2)) (zB D A (fun (u : Unit) => match u with | _ => []) (fun (u : Unit) => match u with | _ => [])) A) (va_A [(h0, .inr (11, [.ref r0, .int 0, .ref r1, .ref r2, .ref r3, .ref h3, .ref r4, .ref h1, .ref r5, .ref r6, .ref r7, .ref r8])), (h1, .inr (3, [.int 0, .int 0, .ref r9, .ref r10, .ref r11, .ref r12, .ref h3, .ref h2, .ref r13])), (h2, .inl (k0, 122, .inr (.inr (.inr (.inr f0))))), (h3, .inr (2, [.int 0, .int 0, .int 0, .int 0, .int 0, .ref r18, .ref r19, .ref r20, .ref r21, .ref r22, .ref r23, .ref r24]))] sz)) 0 0 (va_A [(h0, .inr (11, [.ref r0, .int 0, .ref r1, .ref r2, .ref r3, .ref h3, .ref r4, .ref h1, .ref r5, .ref r6, .ref r7, .ref r8])), (h1, .inr (3, [.int 0, .int 0, .ref r9, .ref r10, .ref r11, .ref r12, .ref h3, .ref h2, .ref r13])), (h2, .inl (k0, 122, .inr (.inr (.inr (.inr f0))))), (h3, .inr (2, [.int 0, .int 0, .int 0, .int 0, .int 0, .ref r18, .ref r19, .ref r20, .ref r21, .ref r22, .ref r23, .ref r24]))] sz) := by
  refine zOfW (QF := fun A => va_Qi (fun (r : Int32) (u : Unit) => r = (-2)) (zB D A (fun (u : Unit) => match u with | _ => []) (fun (u : Unit) => match u with | _ => [])) A) (cc := cX11_move) (maxL := 6) (ret := (some .int)) (by decide) rfl (Nat.le_of_ble_eq_true rfl) ?_
  intro p e s m below meth c A ls hx hb hr hml hts hown hlocks hin hA hS hP hD hK hN hl
  have hl : lv_has ls 6 [(0, .ref h0), (1, .int 0), (2, .int x1), (3, .int x2)] := hl
  refine lv_iload_n hx hb dX11_move_0 rfl (lv_at hl 1 rfl) ?_
  refine zA_i (zR_S (As := [.int 0]) (rest := []) ⟨hx, hb, hml, hown, hts⟩ (zX11_isKeeper_1 l D _) (va_cwS 1 hts gX11_move_X11_isKeeper rfl rfl rfl (by decide +kernel) ⟨(Nat.le_of_ble_eq_true rfl), (Nat.le_of_ble_eq_true rfl)⟩) hP hD hK hN [] [] rfl (by decide) rfl rfl hl.1 rfl (Nat.le_of_ble_eq_true rfl) dX11_move_1 ⟨(Nat.le_of_ble_eq_true rfl), (Nat.le_of_ble_eq_true rfl)⟩) hP hD hK hS hA [] [0, 1, 2, 3] rfl rfl (by decide) (by decide) (fun r_130 u H locs hw hP hD hK hS => ?_)
  have hK : va_K D vwCl [(k0, .object RX4)] s := hK
  have hP : va_P D vwCl [(h0, .inr (11, [.ref r0, .int 0, .ref r1, .ref r2, .ref r3, .ref h3, .ref r4, .ref h1, .ref r5, .ref r6, .ref r7, .ref r8])), (h1, .inr (3, [.int 0, .int 0, .ref r9, .ref r10, .ref r11, .ref r12, .ref h3, .ref h2, .ref r13])), (h2, .inl (k0, 122, .inr (.inr (.inr (.inr f0))))), (h3, .inr (2, [.int 0, .int 0, .int 0, .int 0, .int 0, .ref r18, .ref r19, .ref r20, .ref r21, .ref r22, .ref r23, .ref r24]))] H := hP
  have hD : va_D A [(h0, .inr (11, [.ref r0, .int 0, .ref r1, .ref r2, .ref r3, .ref h3, .ref r4, .ref h1, .ref r5, .ref r6, .ref r7, .ref r8])), (h1, .inr (3, [.int 0, .int 0, .ref r9, .ref r10, .ref r11, .ref r12, .ref h3, .ref h2, .ref r13])), (h2, .inl (k0, 122, .inr (.inr (.inr (.inr f0))))), (h3, .inr (2, [.int 0, .int 0, .int 0, .int 0, .int 0, .ref r18, .ref r19, .ref r20, .ref r21, .ref r22, .ref r23, .ref r24]))] := hD
  refine W.widen (k := 0) (n := 0) (Nat.le_of_ble_eq_true rfl) (Nat.le_of_ble_eq_true rfl) ?_
  have er : r_130 = 1 := hw
  refine z_top (y := 1) er ?_
  refine lv_if_eq (tgt := 16) hx hb dX11_move_4 (by decide) (fun h9 => absurd h9 (by decide)) (fun _ => ?_)
  refine lv_iload_n hx hb dX11_move_7 rfl (lv_at hl 3 rfl) ?_
  refine lv_if_lt (tgt := 16) hx hb dX11_move_8 (by decide) (fun _ => ?_) (fun h9 => absurd (z_cmp (show (x2 : Int32) < 0 from by simp only [fa_lt, fa_le, fa_eq, zk_0]; have := hx2; omega)) h9)
  refine lv_bipush (v := (-2)) hx hb dX11_move_16 (by decide) ?_
  exact zret_i hx hb hr hlocks hP hD hK hS () (rfl) [] [] (by decide) rfl rfl (Nat.le_of_ble_eq_true rfl) (Nat.le_of_ble_eq_true rfl) dX11_move_18
set_option maxHeartbeats 4000000 in
set_option maxRecDepth 100000 in
theorem aX11_move_c2 (l : Launch) (D : va_G) (h0 h1 h2 h3 r0 r1 r2 r3 r4 r5 r6 r7 r8 r9 r10 r11 r12 r13 r14 r15 r16 r17 r18 r19 r20 r21 r22 r23 r24 : Nat) (k0 : ClassId) (f0 : Nat → Option Nat) (x1 : Int32) (x2 : Int32) (sz : Nat) (hf_f0_0 : f0 0 = some r14) (hf_f0_1 : f0 1 = some r15) (hf_f0_2 : f0 2 = some r16) (hf_f0_3 : f0 3 = some r17) (hx1 : -2147483648 ≤ x1.toInt ∧ x1.toInt ≤ 2147483647) (hx2 : 0 ≤ x2.toInt ∧ x2.toInt ≤ 2) : Met l yX11_move wsX11_move ({ frames := 2, cells := 0, slots := 0, locals := 47 }) (zPre D [.ref h0, .int 0, .int x1, .int x2] [(h0, .inr (11, [.ref r0, .int 0, .ref r1, .ref r2, .ref r3, .ref h3, .ref r4, .ref h1, .ref r5, .ref r6, .ref r7, .ref r8])), (h1, .inr (3, [.int 0, .int 0, .ref r9, .ref r10, .ref r11, .ref r12, .ref h3, .ref h2, .ref r13])), (h2, .inl (k0, 122, .inr (.inr (.inr (.inr f0))))), (h3, .inr (2, [.int 0, .int 0, .int 0, .int 0, .int 0, .ref r18, .ref r19, .ref r20, .ref r21, .ref r22, .ref r23, .ref r24]))] [(k0, .object RX4)] sz) ((fun A => va_Qi (fun (r : Int32) (u : Unit) => r = (-2)) (zB D A (fun (u : Unit) => match u with | _ => []) (fun (u : Unit) => match u with | _ => [])) A) (va_A [(h0, .inr (11, [.ref r0, .int 0, .ref r1, .ref r2, .ref r3, .ref h3, .ref r4, .ref h1, .ref r5, .ref r6, .ref r7, .ref r8])), (h1, .inr (3, [.int 0, .int 0, .ref r9, .ref r10, .ref r11, .ref r12, .ref h3, .ref h2, .ref r13])), (h2, .inl (k0, 122, .inr (.inr (.inr (.inr f0))))), (h3, .inr (2, [.int 0, .int 0, .int 0, .int 0, .int 0, .ref r18, .ref r19, .ref r20, .ref r21, .ref r22, .ref r23, .ref r24]))] sz)) 0 0 (va_A [(h0, .inr (11, [.ref r0, .int 0, .ref r1, .ref r2, .ref r3, .ref h3, .ref r4, .ref h1, .ref r5, .ref r6, .ref r7, .ref r8])), (h1, .inr (3, [.int 0, .int 0, .ref r9, .ref r10, .ref r11, .ref r12, .ref h3, .ref h2, .ref r13])), (h2, .inl (k0, 122, .inr (.inr (.inr (.inr f0))))), (h3, .inr (2, [.int 0, .int 0, .int 0, .int 0, .int 0, .ref r18, .ref r19, .ref r20, .ref r21, .ref r22, .ref r23, .ref r24]))] sz) := by
  refine zOfW (QF := fun A => va_Qi (fun (r : Int32) (u : Unit) => r = (-2)) (zB D A (fun (u : Unit) => match u with | _ => []) (fun (u : Unit) => match u with | _ => [])) A) (cc := cX11_move) (maxL := 6) (ret := (some .int)) (by decide) rfl (Nat.le_of_ble_eq_true rfl) ?_
  intro p e s m below meth c A ls hx hb hr hml hts hown hlocks hin hA hS hP hD hK hN hl
  have hl : lv_has ls 6 [(0, .ref h0), (1, .int 0), (2, .int x1), (3, .int x2)] := hl
  refine lv_iload_n hx hb dX11_move_0 rfl (lv_at hl 1 rfl) ?_
  refine zA_i (zR_S (As := [.int 0]) (rest := []) ⟨hx, hb, hml, hown, hts⟩ (zX11_isKeeper_1 l D _) (va_cwS 1 hts gX11_move_X11_isKeeper rfl rfl rfl (by decide +kernel) ⟨(Nat.le_of_ble_eq_true rfl), (Nat.le_of_ble_eq_true rfl)⟩) hP hD hK hN [] [] rfl (by decide) rfl rfl hl.1 rfl (Nat.le_of_ble_eq_true rfl) dX11_move_1 ⟨(Nat.le_of_ble_eq_true rfl), (Nat.le_of_ble_eq_true rfl)⟩) hP hD hK hS hA [] [0, 1, 2, 3] rfl rfl (by decide) (by decide) (fun r_134 u H locs hw hP hD hK hS => ?_)
  have hK : va_K D vwCl [(k0, .object RX4)] s := hK
  have hP : va_P D vwCl [(h0, .inr (11, [.ref r0, .int 0, .ref r1, .ref r2, .ref r3, .ref h3, .ref r4, .ref h1, .ref r5, .ref r6, .ref r7, .ref r8])), (h1, .inr (3, [.int 0, .int 0, .ref r9, .ref r10, .ref r11, .ref r12, .ref h3, .ref h2, .ref r13])), (h2, .inl (k0, 122, .inr (.inr (.inr (.inr f0))))), (h3, .inr (2, [.int 0, .int 0, .int 0, .int 0, .int 0, .ref r18, .ref r19, .ref r20, .ref r21, .ref r22, .ref r23, .ref r24]))] H := hP
  have hD : va_D A [(h0, .inr (11, [.ref r0, .int 0, .ref r1, .ref r2, .ref r3, .ref h3, .ref r4, .ref h1, .ref r5, .ref r6, .ref r7, .ref r8])), (h1, .inr (3, [.int 0, .int 0, .ref r9, .ref r10, .ref r11, .ref r12, .ref h3, .ref h2, .ref r13])), (h2, .inl (k0, 122, .inr (.inr (.inr (.inr f0))))), (h3, .inr (2, [.int 0, .int 0, .int 0, .int 0, .int 0, .ref r18, .ref r19, .ref r20, .ref r21, .ref r22, .ref r23, .ref r24]))] := hD
  refine W.widen (k := 0) (n := 0) (Nat.le_of_ble_eq_true rfl) (Nat.le_of_ble_eq_true rfl) ?_
  have er : r_134 = 1 := hw
  refine z_top (y := 1) er ?_
  refine lv_if_eq (tgt := 16) hx hb dX11_move_4 (by decide) (fun h9 => absurd h9 (by decide)) (fun _ => ?_)
  refine lv_iload_n hx hb dX11_move_7 rfl (lv_at hl 3 rfl) ?_
  refine lv_if_lt (tgt := 16) hx hb dX11_move_8 (by decide) (fun h9 => absurd h9 (z_cmp (show ¬ ((x2 : Int32) < 0) from by simp only [fa_lt, fa_le, fa_eq, zk_0]; have := hx2; omega))) (fun _ => ?_)
  refine lv_iload_n hx hb dX11_move_11 rfl (lv_at hl 3 rfl) ?_
  refine lv_iconst (v := 2) hx hb dX11_move_12 (by decide) ?_
  refine lv_icmp_le (tgt := 19) hx hb dX11_move_13 (by decide) (fun _ => ?_) (fun h9 => absurd (z_cmp (show (x2 : Int32) ≤ 2 from by simp only [fa_lt, fa_le, fa_eq, zk_2]; have := hx2; omega)) h9)
  refine lv_aload_n hx hb dX11_move_19 rfl (lv_at hl 0 rfl) ?_
  refine va_get (D := D) (ci := 11) (v := .ref h1) (C := RX11) (T := TX11) (N := 12) hx hb hts iuX11_move_X11 hown hK hP 0 rfl rfl 7 (by decide) (hts (.fieldLink RX11 55 "StraitGame" "nights" "LStraitGame$Nights;") (List.mem_of_getElem? (i := 1) rfl)) (fun _ h9 => h9) rfl dX11_move_20 ?_
  refine lv_iload_n hx hb dX11_move_23 rfl (lv_at hl 1 rfl) ?_
  refine zA_r (zR_V (As := [.int 0]) (rest := []) ⟨hx, hb, hml, hown, hts⟩ (zX3_boardNow_1 l D h1 h2 r9 r10 r11 r12 h3 r13 r14 r15 r16 r17 k0 f0 _ (hf_f0_0) (hf_f0_1) (hf_f0_2) (hf_f0_3)) (cwV 1 hts gX11_move_X3_boardNow rfl rfl rfl (by decide +kernel) ⟨(Nat.le_of_ble_eq_true rfl), (Nat.le_of_ble_eq_true rfl)⟩) hP hD hK hN [1, 2] [0] rfl (by decide) rfl 0 3 rfl rfl rfl hl.1 rfl (Nat.le_of_ble_eq_true rfl) dX11_move_24 ⟨(Nat.le_of_ble_eq_true rfl), (Nat.le_of_ble_eq_true rfl)⟩) hP hD hK hS hA [1, 2] [0, 3] rfl rfl (by decide) (by decide) (fun u H locs hw hP hD hK hS => ?_)
  have hK : va_K D vwCl [(k0, .object RX4)] s := hK
  have hP : va_P D vwCl [(h0, .inr (11, [.ref r0, .int 0, .ref r1, .ref r2, .ref r3, .ref h3, .ref r4, .ref h1, .ref r5, .ref r6, .ref r7, .ref r8])), (h3, .inr (2, [.int 0, .int 0, .int 0, .int 0, .int 0, .ref r18, .ref r19, .ref r20, .ref r21, .ref r22, .ref r23, .ref r24])), (h1, .inr (3, [.int 0, .int 0, .ref r9, .ref r10, .ref r11, .ref r12, .ref h3, .ref h2, .ref r13])), (h2, .inl (k0, 122, .inr (.inr (.inr (.inr f0)))))] H := hP
  have hD : va_D A [(h0, .inr (11, [.ref r0, .int 0, .ref r1, .ref r2, .ref r3, .ref h3, .ref r4, .ref h1, .ref r5, .ref r6, .ref r7, .ref r8])), (h3, .inr (2, [.int 0, .int 0, .int 0, .int 0, .int 0, .ref r18, .ref r19, .ref r20, .ref r21, .ref r22, .ref r23, .ref r24])), (h1, .inr (3, [.int 0, .int 0, .ref r9, .ref r10, .ref r11, .ref r12, .ref h3, .ref h2, .ref r13])), (h2, .inl (k0, 122, .inr (.inr (.inr (.inr f0)))))] := hD
  refine W.widen (k := 0) (n := 0) (Nat.le_of_ble_eq_true rfl) (Nat.le_of_ble_eq_true rfl) ?_
  refine lv_astore (lv' := [(4, .ref r14), (0, .ref h0), (1, .int 0), (2, .int x1), (3, .int x2)]) hx hb dX11_move_27 hl (by decide) rfl (fun ls hl => ?_)
  refine lv_aload_n hx hb dX11_move_29 rfl (lv_at hl 1 rfl) ?_
  refine va_get (D := D) (ci := 11) (v := .ref h3) (C := RX11) (T := TX11) (N := 12) hx hb hts iuX11_move_X11 hown hK hP 0 rfl rfl 5 (by decide) (hts (.fieldLink RX11 39 "StraitGame" "laws" "LStraitGame$Laws;") (List.mem_of_getElem? (i := 2) rfl)) (fun _ h9 => h9) rfl dX11_move_30 ?_
  refine lv_aload hx hb dX11_move_33 (lv_at hl 0 rfl) ?_
  refine lv_iload_n hx hb dX11_move_35 rfl (lv_at hl 3 rfl) ?_
  refine zA_i (zR_V (As := [.ref r14, .int x1]) (rest := []) ⟨hx, hb, hml, hown, hts⟩ (zX2_findMove_1 l D h3 r14 r18 r19 r20 r21 r22 r23 r24 x1 _ hx1) (cwV 2 hts gX11_move_X2_findMove rfl rfl rfl (by decide +kernel) ⟨(Nat.le_of_ble_eq_true rfl), (Nat.le_of_ble_eq_true rfl)⟩) hP hD hK hN [1] [] rfl (by decide) rfl 0 2 rfl rfl rfl hl.1 rfl (Nat.le_of_ble_eq_true rfl) dX11_move_36 ⟨(Nat.le_of_ble_eq_true rfl), (Nat.le_of_ble_eq_true rfl)⟩) hP hD hK hS hA [1] [0, 2, 3] rfl rfl (by decide) (by decide) (fun r_136 u H locs hw hP hD hK hS => ?_)
  have hK : va_K D vwCl [(k0, .object RX4)] s := hK
  have hP : va_P D vwCl [(h0, .inr (11, [.ref r0, .int 0, .ref r1, .ref r2, .ref r3, .ref h3, .ref r4, .ref h1, .ref r5, .ref r6, .ref r7, .ref r8])), (h1, .inr (3, [.int 0, .int 0, .ref r9, .ref r10, .ref r11, .ref r12, .ref h3, .ref h2, .ref r13])), (h2, .inl (k0, 122, .inr (.inr (.inr (.inr f0))))), (h3, .inr (2, [.int 0, .int 0, .int 0, .int 0, .int 0, .ref r18, .ref r19, .ref r20, .ref r21, .ref r22, .ref r23, .ref r24]))] H := hP
  have hD : va_D A [(h0, .inr (11, [.ref r0, .int 0, .ref r1, .ref r2, .ref r3, .ref h3, .ref r4, .ref h1, .ref r5, .ref r6, .ref r7, .ref r8])), (h1, .inr (3, [.int 0, .int 0, .ref r9, .ref r10, .ref r11, .ref r12, .ref h3, .ref h2, .ref r13])), (h2, .inl (k0, 122, .inr (.inr (.inr (.inr f0))))), (h3, .inr (2, [.int 0, .int 0, .int 0, .int 0, .int 0, .ref r18, .ref r19, .ref r20, .ref r21, .ref r22, .ref r23, .ref r24]))] := hD
  refine W.widen (k := 0) (n := 0) (Nat.le_of_ble_eq_true rfl) (Nat.le_of_ble_eq_true rfl) ?_
  have er : r_136 = (-1) := hw
  refine z_top (y := (-1)) er ?_
  refine lv_istore (lv' := [(5, .int (-1)), (4, .ref r14), (0, .ref h0), (1, .int 0), (2, .int x1), (3, .int x2)]) hx hb dX11_move_39 hl (by decide) rfl (fun ls hl => ?_)
  refine lv_iload hx hb dX11_move_41 (lv_at hl 0 rfl) ?_
  refine lv_iconst (v := (-1)) hx hb dX11_move_43 (by decide) ?_
  refine lv_icmp_ne (tgt := 50) hx hb dX11_move_44 (by decide) (fun h9 => absurd (by decide) h9) (fun _ => ?_)
  refine lv_bipush (v := (-2)) hx hb dX11_move_47 (by decide) ?_
  exact zret_i hx hb hr hlocks hP hD hK hS () (rfl) [] [] (by decide) rfl rfl (Nat.le_of_ble_eq_true rfl) (Nat.le_of_ble_eq_true rfl) dX11_move_49
set_option maxHeartbeats 4000000 in
set_option maxRecDepth 100000 in
theorem aX11_move_c3 (l : Launch) (D : va_G) (h0 h1 h2 h3 r0 r1 r2 r3 r4 r5 r6 r7 r8 r9 r10 r11 r12 r13 r14 r15 r16 r17 r18 r19 r20 r21 r22 r23 r24 : Nat) (k0 : ClassId) (f0 : Nat → Option Nat) (x1 : Int32) (x2 : Int32) (sz : Nat) (hf_f0_0 : f0 0 = some r14) (hf_f0_1 : f0 1 = some r15) (hf_f0_2 : f0 2 = some r16) (hf_f0_3 : f0 3 = some r17) (hx1 : -2147483648 ≤ x1.toInt ∧ x1.toInt ≤ 2147483647) (hx2 : 3 ≤ x2.toInt ∧ x2.toInt ≤ 2147483647) : Met l yX11_move wsX11_move ({ frames := 2, cells := 0, slots := 0, locals := 47 }) (zPre D [.ref h0, .int 0, .int x1, .int x2] [(h0, .inr (11, [.ref r0, .int 0, .ref r1, .ref r2, .ref r3, .ref h3, .ref r4, .ref h1, .ref r5, .ref r6, .ref r7, .ref r8])), (h1, .inr (3, [.int 0, .int 0, .ref r9, .ref r10, .ref r11, .ref r12, .ref h3, .ref h2, .ref r13])), (h2, .inl (k0, 122, .inr (.inr (.inr (.inr f0))))), (h3, .inr (2, [.int 0, .int 0, .int 0, .int 0, .int 0, .ref r18, .ref r19, .ref r20, .ref r21, .ref r22, .ref r23, .ref r24]))] [(k0, .object RX4)] sz) ((fun A => va_Qi (fun (r : Int32) (u : Unit) => r = (-2)) (zB D A (fun (u : Unit) => match u with | _ => []) (fun (u : Unit) => match u with | _ => [])) A) (va_A [(h0, .inr (11, [.ref r0, .int 0, .ref r1, .ref r2, .ref r3, .ref h3, .ref r4, .ref h1, .ref r5, .ref r6, .ref r7, .ref r8])), (h1, .inr (3, [.int 0, .int 0, .ref r9, .ref r10, .ref r11, .ref r12, .ref h3, .ref h2, .ref r13])), (h2, .inl (k0, 122, .inr (.inr (.inr (.inr f0))))), (h3, .inr (2, [.int 0, .int 0, .int 0, .int 0, .int 0, .ref r18, .ref r19, .ref r20, .ref r21, .ref r22, .ref r23, .ref r24]))] sz)) 0 0 (va_A [(h0, .inr (11, [.ref r0, .int 0, .ref r1, .ref r2, .ref r3, .ref h3, .ref r4, .ref h1, .ref r5, .ref r6, .ref r7, .ref r8])), (h1, .inr (3, [.int 0, .int 0, .ref r9, .ref r10, .ref r11, .ref r12, .ref h3, .ref h2, .ref r13])), (h2, .inl (k0, 122, .inr (.inr (.inr (.inr f0))))), (h3, .inr (2, [.int 0, .int 0, .int 0, .int 0, .int 0, .ref r18, .ref r19, .ref r20, .ref r21, .ref r22, .ref r23, .ref r24]))] sz) := by
  refine zOfW (QF := fun A => va_Qi (fun (r : Int32) (u : Unit) => r = (-2)) (zB D A (fun (u : Unit) => match u with | _ => []) (fun (u : Unit) => match u with | _ => [])) A) (cc := cX11_move) (maxL := 6) (ret := (some .int)) (by decide) rfl (Nat.le_of_ble_eq_true rfl) ?_
  intro p e s m below meth c A ls hx hb hr hml hts hown hlocks hin hA hS hP hD hK hN hl
  have hl : lv_has ls 6 [(0, .ref h0), (1, .int 0), (2, .int x1), (3, .int x2)] := hl
  refine lv_iload_n hx hb dX11_move_0 rfl (lv_at hl 1 rfl) ?_
  refine zA_i (zR_S (As := [.int 0]) (rest := []) ⟨hx, hb, hml, hown, hts⟩ (zX11_isKeeper_1 l D _) (va_cwS 1 hts gX11_move_X11_isKeeper rfl rfl rfl (by decide +kernel) ⟨(Nat.le_of_ble_eq_true rfl), (Nat.le_of_ble_eq_true rfl)⟩) hP hD hK hN [] [] rfl (by decide) rfl rfl hl.1 rfl (Nat.le_of_ble_eq_true rfl) dX11_move_1 ⟨(Nat.le_of_ble_eq_true rfl), (Nat.le_of_ble_eq_true rfl)⟩) hP hD hK hS hA [] [0, 1, 2, 3] rfl rfl (by decide) (by decide) (fun r_138 u H locs hw hP hD hK hS => ?_)
  have hK : va_K D vwCl [(k0, .object RX4)] s := hK
  have hP : va_P D vwCl [(h0, .inr (11, [.ref r0, .int 0, .ref r1, .ref r2, .ref r3, .ref h3, .ref r4, .ref h1, .ref r5, .ref r6, .ref r7, .ref r8])), (h1, .inr (3, [.int 0, .int 0, .ref r9, .ref r10, .ref r11, .ref r12, .ref h3, .ref h2, .ref r13])), (h2, .inl (k0, 122, .inr (.inr (.inr (.inr f0))))), (h3, .inr (2, [.int 0, .int 0, .int 0, .int 0, .int 0, .ref r18, .ref r19, .ref r20, .ref r21, .ref r22, .ref r23, .ref r24]))] H := hP
  have hD : va_D A [(h0, .inr (11, [.ref r0, .int 0, .ref r1, .ref r2, .ref r3, .ref h3, .ref r4, .ref h1, .ref r5, .ref r6, .ref r7, .ref r8])), (h1, .inr (3, [.int 0, .int 0, .ref r9, .ref r10, .ref r11, .ref r12, .ref h3, .ref h2, .ref r13])), (h2, .inl (k0, 122, .inr (.inr (.inr (.inr f0))))), (h3, .inr (2, [.int 0, .int 0, .int 0, .int 0, .int 0, .ref r18, .ref r19, .ref r20, .ref r21, .ref r22, .ref r23, .ref r24]))] := hD
  refine W.widen (k := 0) (n := 0) (Nat.le_of_ble_eq_true rfl) (Nat.le_of_ble_eq_true rfl) ?_
  have er : r_138 = 1 := hw
  refine z_top (y := 1) er ?_
  refine lv_if_eq (tgt := 16) hx hb dX11_move_4 (by decide) (fun h9 => absurd h9 (by decide)) (fun _ => ?_)
  refine lv_iload_n hx hb dX11_move_7 rfl (lv_at hl 3 rfl) ?_
  refine lv_if_lt (tgt := 16) hx hb dX11_move_8 (by decide) (fun h9 => absurd h9 (z_cmp (show ¬ ((x2 : Int32) < 0) from by simp only [fa_lt, fa_le, fa_eq, zk_0]; have := hx2; omega))) (fun _ => ?_)
  refine lv_iload_n hx hb dX11_move_11 rfl (lv_at hl 3 rfl) ?_
  refine lv_iconst (v := 2) hx hb dX11_move_12 (by decide) ?_
  refine lv_icmp_le (tgt := 19) hx hb dX11_move_13 (by decide) (fun h9 => absurd h9 (z_cmp (show ¬ ((x2 : Int32) ≤ 2) from by simp only [fa_lt, fa_le, fa_eq, zk_2]; have := hx2; omega))) (fun _ => ?_)
  refine lv_bipush (v := (-2)) hx hb dX11_move_16 (by decide) ?_
  exact zret_i hx hb hr hlocks hP hD hK hS () (rfl) [] [] (by decide) rfl rfl (Nat.le_of_ble_eq_true rfl) (Nat.le_of_ble_eq_true rfl) dX11_move_18
set_option maxHeartbeats 4000000 in
set_option maxRecDepth 100000 in
theorem aX11_move_c4 (l : Launch) (D : va_G) (h0 h1 h2 h3 r0 r1 r2 r3 r4 r5 r6 r7 r8 r9 r10 r11 r12 r13 r14 r15 r16 r17 r18 r19 r20 r21 r22 r23 r24 : Nat) (k0 : ClassId) (f0 : Nat → Option Nat) (x1 : Int32) (x2 : Int32) (sz : Nat) (hf_f0_0 : f0 0 = some r14) (hf_f0_1 : f0 1 = some r15) (hf_f0_2 : f0 2 = some r16) (hf_f0_3 : f0 3 = some r17) (hx1 : -2147483648 ≤ x1.toInt ∧ x1.toInt ≤ 2147483647) (hx2 : -2147483648 ≤ x2.toInt ∧ x2.toInt ≤ -1) : Met l yX11_move wsX11_move ({ frames := 2, cells := 0, slots := 0, locals := 47 }) (zPre D [.ref h0, .int 1, .int x1, .int x2] [(h0, .inr (11, [.ref r0, .int 0, .ref r1, .ref r2, .ref r3, .ref h3, .ref r4, .ref h1, .ref r5, .ref r6, .ref r7, .ref r8])), (h1, .inr (3, [.int 0, .int 0, .ref r9, .ref r10, .ref r11, .ref r12, .ref h3, .ref h2, .ref r13])), (h2, .inl (k0, 122, .inr (.inr (.inr (.inr f0))))), (h3, .inr (2, [.int 0, .int 0, .int 0, .int 0, .int 0, .ref r18, .ref r19, .ref r20, .ref r21, .ref r22, .ref r23, .ref r24]))] [(k0, .object RX4)] sz) ((fun A => va_Qi (fun (r : Int32) (u : Unit) => r = (-2)) (zB D A (fun (u : Unit) => match u with | _ => []) (fun (u : Unit) => match u with | _ => [])) A) (va_A [(h0, .inr (11, [.ref r0, .int 0, .ref r1, .ref r2, .ref r3, .ref h3, .ref r4, .ref h1, .ref r5, .ref r6, .ref r7, .ref r8])), (h1, .inr (3, [.int 0, .int 0, .ref r9, .ref r10, .ref r11, .ref r12, .ref h3, .ref h2, .ref r13])), (h2, .inl (k0, 122, .inr (.inr (.inr (.inr f0))))), (h3, .inr (2, [.int 0, .int 0, .int 0, .int 0, .int 0, .ref r18, .ref r19, .ref r20, .ref r21, .ref r22, .ref r23, .ref r24]))] sz)) 0 0 (va_A [(h0, .inr (11, [.ref r0, .int 0, .ref r1, .ref r2, .ref r3, .ref h3, .ref r4, .ref h1, .ref r5, .ref r6, .ref r7, .ref r8])), (h1, .inr (3, [.int 0, .int 0, .ref r9, .ref r10, .ref r11, .ref r12, .ref h3, .ref h2, .ref r13])), (h2, .inl (k0, 122, .inr (.inr (.inr (.inr f0))))), (h3, .inr (2, [.int 0, .int 0, .int 0, .int 0, .int 0, .ref r18, .ref r19, .ref r20, .ref r21, .ref r22, .ref r23, .ref r24]))] sz) := by
  refine zOfW (QF := fun A => va_Qi (fun (r : Int32) (u : Unit) => r = (-2)) (zB D A (fun (u : Unit) => match u with | _ => []) (fun (u : Unit) => match u with | _ => [])) A) (cc := cX11_move) (maxL := 6) (ret := (some .int)) (by decide) rfl (Nat.le_of_ble_eq_true rfl) ?_
  intro p e s m below meth c A ls hx hb hr hml hts hown hlocks hin hA hS hP hD hK hN hl
  have hl : lv_has ls 6 [(0, .ref h0), (1, .int 1), (2, .int x1), (3, .int x2)] := hl
  refine lv_iload_n hx hb dX11_move_0 rfl (lv_at hl 1 rfl) ?_
  refine zA_i (zR_S (As := [.int 1]) (rest := []) ⟨hx, hb, hml, hown, hts⟩ (zX11_isKeeper_2 l D _) (va_cwS 1 hts gX11_move_X11_isKeeper rfl rfl rfl (by decide +kernel) ⟨(Nat.le_of_ble_eq_true rfl), (Nat.le_of_ble_eq_true rfl)⟩) hP hD hK hN [] [] rfl (by decide) rfl rfl hl.1 rfl (Nat.le_of_ble_eq_true rfl) dX11_move_1 ⟨(Nat.le_of_ble_eq_true rfl), (Nat.le_of_ble_eq_true rfl)⟩) hP hD hK hS hA [] [0, 1, 2, 3] rfl rfl (by decide) (by decide) (fun r_140 u H locs hw hP hD hK hS => ?_)
  have hK : va_K D vwCl [(k0, .object RX4)] s := hK
  have hP : va_P D vwCl [(h0, .inr (11, [.ref r0, .int 0, .ref r1, .ref r2, .ref r3, .ref h3, .ref r4, .ref h1, .ref r5, .ref r6, .ref r7, .ref r8])), (h1, .inr (3, [.int 0, .int 0, .ref r9, .ref r10, .ref r11, .ref r12, .ref h3, .ref h2, .ref r13])), (h2, .inl (k0, 122, .inr (.inr (.inr (.inr f0))))), (h3, .inr (2, [.int 0, .int 0, .int 0, .int 0, .int 0, .ref r18, .ref r19, .ref r20, .ref r21, .ref r22, .ref r23, .ref r24]))] H := hP
  have hD : va_D A [(h0, .inr (11, [.ref r0, .int 0, .ref r1, .ref r2, .ref r3, .ref h3, .ref r4, .ref h1, .ref r5, .ref r6, .ref r7, .ref r8])), (h1, .inr (3, [.int 0, .int 0, .ref r9, .ref r10, .ref r11, .ref r12, .ref h3, .ref h2, .ref r13])), (h2, .inl (k0, 122, .inr (.inr (.inr (.inr f0))))), (h3, .inr (2, [.int 0, .int 0, .int 0, .int 0, .int 0, .ref r18, .ref r19, .ref r20, .ref r21, .ref r22, .ref r23, .ref r24]))] := hD
  refine W.widen (k := 0) (n := 0) (Nat.le_of_ble_eq_true rfl) (Nat.le_of_ble_eq_true rfl) ?_
  have er : r_140 = 1 := hw
  refine z_top (y := 1) er ?_
  refine lv_if_eq (tgt := 16) hx hb dX11_move_4 (by decide) (fun h9 => absurd h9 (by decide)) (fun _ => ?_)
  refine lv_iload_n hx hb dX11_move_7 rfl (lv_at hl 3 rfl) ?_
  refine lv_if_lt (tgt := 16) hx hb dX11_move_8 (by decide) (fun _ => ?_) (fun h9 => absurd (z_cmp (show (x2 : Int32) < 0 from by simp only [fa_lt, fa_le, fa_eq, zk_0]; have := hx2; omega)) h9)
  refine lv_bipush (v := (-2)) hx hb dX11_move_16 (by decide) ?_
  exact zret_i hx hb hr hlocks hP hD hK hS () (rfl) [] [] (by decide) rfl rfl (Nat.le_of_ble_eq_true rfl) (Nat.le_of_ble_eq_true rfl) dX11_move_18
set_option maxHeartbeats 4000000 in
set_option maxRecDepth 100000 in
theorem aX11_move_c5 (l : Launch) (D : va_G) (h0 h1 h2 h3 r0 r1 r2 r3 r4 r5 r6 r7 r8 r9 r10 r11 r12 r13 r14 r15 r16 r17 r18 r19 r20 r21 r22 r23 r24 : Nat) (k0 : ClassId) (f0 : Nat → Option Nat) (x1 : Int32) (x2 : Int32) (sz : Nat) (hf_f0_0 : f0 0 = some r14) (hf_f0_1 : f0 1 = some r15) (hf_f0_2 : f0 2 = some r16) (hf_f0_3 : f0 3 = some r17) (hx1 : -2147483648 ≤ x1.toInt ∧ x1.toInt ≤ 2147483647) (hx2 : 0 ≤ x2.toInt ∧ x2.toInt ≤ 2) : Met l yX11_move wsX11_move ({ frames := 2, cells := 0, slots := 0, locals := 47 }) (zPre D [.ref h0, .int 1, .int x1, .int x2] [(h0, .inr (11, [.ref r0, .int 0, .ref r1, .ref r2, .ref r3, .ref h3, .ref r4, .ref h1, .ref r5, .ref r6, .ref r7, .ref r8])), (h1, .inr (3, [.int 0, .int 0, .ref r9, .ref r10, .ref r11, .ref r12, .ref h3, .ref h2, .ref r13])), (h2, .inl (k0, 122, .inr (.inr (.inr (.inr f0))))), (h3, .inr (2, [.int 0, .int 0, .int 0, .int 0, .int 0, .ref r18, .ref r19, .ref r20, .ref r21, .ref r22, .ref r23, .ref r24]))] [(k0, .object RX4)] sz) ((fun A => va_Qi (fun (r : Int32) (u : Unit) => r = (-2)) (zB D A (fun (u : Unit) => match u with | _ => []) (fun (u : Unit) => match u with | _ => [])) A) (va_A [(h0, .inr (11, [.ref r0, .int 0, .ref r1, .ref r2, .ref r3, .ref h3, .ref r4, .ref h1, .ref r5, .ref r6, .ref r7, .ref r8])), (h1, .inr (3, [.int 0, .int 0, .ref r9, .ref r10, .ref r11, .ref r12, .ref h3, .ref h2, .ref r13])), (h2, .inl (k0, 122, .inr (.inr (.inr (.inr f0))))), (h3, .inr (2, [.int 0, .int 0, .int 0, .int 0, .int 0, .ref r18, .ref r19, .ref r20, .ref r21, .ref r22, .ref r23, .ref r24]))] sz)) 0 0 (va_A [(h0, .inr (11, [.ref r0, .int 0, .ref r1, .ref r2, .ref r3, .ref h3, .ref r4, .ref h1, .ref r5, .ref r6, .ref r7, .ref r8])), (h1, .inr (3, [.int 0, .int 0, .ref r9, .ref r10, .ref r11, .ref r12, .ref h3, .ref h2, .ref r13])), (h2, .inl (k0, 122, .inr (.inr (.inr (.inr f0))))), (h3, .inr (2, [.int 0, .int 0, .int 0, .int 0, .int 0, .ref r18, .ref r19, .ref r20, .ref r21, .ref r22, .ref r23, .ref r24]))] sz) := by
  refine zOfW (QF := fun A => va_Qi (fun (r : Int32) (u : Unit) => r = (-2)) (zB D A (fun (u : Unit) => match u with | _ => []) (fun (u : Unit) => match u with | _ => [])) A) (cc := cX11_move) (maxL := 6) (ret := (some .int)) (by decide) rfl (Nat.le_of_ble_eq_true rfl) ?_
  intro p e s m below meth c A ls hx hb hr hml hts hown hlocks hin hA hS hP hD hK hN hl
  have hl : lv_has ls 6 [(0, .ref h0), (1, .int 1), (2, .int x1), (3, .int x2)] := hl
  refine lv_iload_n hx hb dX11_move_0 rfl (lv_at hl 1 rfl) ?_
  refine zA_i (zR_S (As := [.int 1]) (rest := []) ⟨hx, hb, hml, hown, hts⟩ (zX11_isKeeper_2 l D _) (va_cwS 1 hts gX11_move_X11_isKeeper rfl rfl rfl (by decide +kernel) ⟨(Nat.le_of_ble_eq_true rfl), (Nat.le_of_ble_eq_true rfl)⟩) hP hD hK hN [] [] rfl (by decide) rfl rfl hl.1 rfl (Nat.le_of_ble_eq_true rfl) dX11_move_1 ⟨(Nat.le_of_ble_eq_true rfl), (Nat.le_of_ble_eq_true rfl)⟩) hP hD hK hS hA [] [0, 1, 2, 3] rfl rfl (by decide) (by decide) (fun r_144 u H locs hw hP hD hK hS => ?_)
  have hK : va_K D vwCl [(k0, .object RX4)] s := hK
  have hP : va_P D vwCl [(h0, .inr (11, [.ref r0, .int 0, .ref r1, .ref r2, .ref r3, .ref h3, .ref r4, .ref h1, .ref r5, .ref r6, .ref r7, .ref r8])), (h1, .inr (3, [.int 0, .int 0, .ref r9, .ref r10, .ref r11, .ref r12, .ref h3, .ref h2, .ref r13])), (h2, .inl (k0, 122, .inr (.inr (.inr (.inr f0))))), (h3, .inr (2, [.int 0, .int 0, .int 0, .int 0, .int 0, .ref r18, .ref r19, .ref r20, .ref r21, .ref r22, .ref r23, .ref r24]))] H := hP
  have hD : va_D A [(h0, .inr (11, [.ref r0, .int 0, .ref r1, .ref r2, .ref r3, .ref h3, .ref r4, .ref h1, .ref r5, .ref r6, .ref r7, .ref r8])), (h1, .inr (3, [.int 0, .int 0, .ref r9, .ref r10, .ref r11, .ref r12, .ref h3, .ref h2, .ref r13])), (h2, .inl (k0, 122, .inr (.inr (.inr (.inr f0))))), (h3, .inr (2, [.int 0, .int 0, .int 0, .int 0, .int 0, .ref r18, .ref r19, .ref r20, .ref r21, .ref r22, .ref r23, .ref r24]))] := hD
  refine W.widen (k := 0) (n := 0) (Nat.le_of_ble_eq_true rfl) (Nat.le_of_ble_eq_true rfl) ?_
  have er : r_144 = 1 := hw
  refine z_top (y := 1) er ?_
  refine lv_if_eq (tgt := 16) hx hb dX11_move_4 (by decide) (fun h9 => absurd h9 (by decide)) (fun _ => ?_)
  refine lv_iload_n hx hb dX11_move_7 rfl (lv_at hl 3 rfl) ?_
  refine lv_if_lt (tgt := 16) hx hb dX11_move_8 (by decide) (fun h9 => absurd h9 (z_cmp (show ¬ ((x2 : Int32) < 0) from by simp only [fa_lt, fa_le, fa_eq, zk_0]; have := hx2; omega))) (fun _ => ?_)
  refine lv_iload_n hx hb dX11_move_11 rfl (lv_at hl 3 rfl) ?_
  refine lv_iconst (v := 2) hx hb dX11_move_12 (by decide) ?_
  refine lv_icmp_le (tgt := 19) hx hb dX11_move_13 (by decide) (fun _ => ?_) (fun h9 => absurd (z_cmp (show (x2 : Int32) ≤ 2 from by simp only [fa_lt, fa_le, fa_eq, zk_2]; have := hx2; omega)) h9)
  refine lv_aload_n hx hb dX11_move_19 rfl (lv_at hl 0 rfl) ?_
  refine va_get (D := D) (ci := 11) (v := .ref h1) (C := RX11) (T := TX11) (N := 12) hx hb hts iuX11_move_X11 hown hK hP 0 rfl rfl 7 (by decide) (hts (.fieldLink RX11 55 "StraitGame" "nights" "LStraitGame$Nights;") (List.mem_of_getElem? (i := 1) rfl)) (fun _ h9 => h9) rfl dX11_move_20 ?_
  refine lv_iload_n hx hb dX11_move_23 rfl (lv_at hl 1 rfl) ?_
  refine zA_r (zR_V (As := [.int 1]) (rest := []) ⟨hx, hb, hml, hown, hts⟩ (zX3_boardNow_2 l D h1 h2 r9 r10 r11 r12 h3 r13 r14 r15 r16 r17 k0 f0 _ (hf_f0_0) (hf_f0_1) (hf_f0_2) (hf_f0_3)) (cwV 1 hts gX11_move_X3_boardNow rfl rfl rfl (by decide +kernel) ⟨(Nat.le_of_ble_eq_true rfl), (Nat.le_of_ble_eq_true rfl)⟩) hP hD hK hN [1, 2] [0] rfl (by decide) rfl 0 3 rfl rfl rfl hl.1 rfl (Nat.le_of_ble_eq_true rfl) dX11_move_24 ⟨(Nat.le_of_ble_eq_true rfl), (Nat.le_of_ble_eq_true rfl)⟩) hP hD hK hS hA [1, 2] [0, 3] rfl rfl (by decide) (by decide) (fun u H locs hw hP hD hK hS => ?_)
  have hK : va_K D vwCl [(k0, .object RX4)] s := hK
  have hP : va_P D vwCl [(h0, .inr (11, [.ref r0, .int 0, .ref r1, .ref r2, .ref r3, .ref h3, .ref r4, .ref h1, .ref r5, .ref r6, .ref r7, .ref r8])), (h3, .inr (2, [.int 0, .int 0, .int 0, .int 0, .int 0, .ref r18, .ref r19, .ref r20, .ref r21, .ref r22, .ref r23, .ref r24])), (h1, .inr (3, [.int 0, .int 0, .ref r9, .ref r10, .ref r11, .ref r12, .ref h3, .ref h2, .ref r13])), (h2, .inl (k0, 122, .inr (.inr (.inr (.inr f0)))))] H := hP
  have hD : va_D A [(h0, .inr (11, [.ref r0, .int 0, .ref r1, .ref r2, .ref r3, .ref h3, .ref r4, .ref h1, .ref r5, .ref r6, .ref r7, .ref r8])), (h3, .inr (2, [.int 0, .int 0, .int 0, .int 0, .int 0, .ref r18, .ref r19, .ref r20, .ref r21, .ref r22, .ref r23, .ref r24])), (h1, .inr (3, [.int 0, .int 0, .ref r9, .ref r10, .ref r11, .ref r12, .ref h3, .ref h2, .ref r13])), (h2, .inl (k0, 122, .inr (.inr (.inr (.inr f0)))))] := hD
  refine W.widen (k := 0) (n := 0) (Nat.le_of_ble_eq_true rfl) (Nat.le_of_ble_eq_true rfl) ?_
  refine lv_astore (lv' := [(4, .ref r15), (0, .ref h0), (1, .int 1), (2, .int x1), (3, .int x2)]) hx hb dX11_move_27 hl (by decide) rfl (fun ls hl => ?_)
  refine lv_aload_n hx hb dX11_move_29 rfl (lv_at hl 1 rfl) ?_
  refine va_get (D := D) (ci := 11) (v := .ref h3) (C := RX11) (T := TX11) (N := 12) hx hb hts iuX11_move_X11 hown hK hP 0 rfl rfl 5 (by decide) (hts (.fieldLink RX11 39 "StraitGame" "laws" "LStraitGame$Laws;") (List.mem_of_getElem? (i := 2) rfl)) (fun _ h9 => h9) rfl dX11_move_30 ?_
  refine lv_aload hx hb dX11_move_33 (lv_at hl 0 rfl) ?_
  refine lv_iload_n hx hb dX11_move_35 rfl (lv_at hl 3 rfl) ?_
  refine zA_i (zR_V (As := [.ref r15, .int x1]) (rest := []) ⟨hx, hb, hml, hown, hts⟩ (zX2_findMove_1 l D h3 r15 r18 r19 r20 r21 r22 r23 r24 x1 _ hx1) (cwV 2 hts gX11_move_X2_findMove rfl rfl rfl (by decide +kernel) ⟨(Nat.le_of_ble_eq_true rfl), (Nat.le_of_ble_eq_true rfl)⟩) hP hD hK hN [1] [] rfl (by decide) rfl 0 2 rfl rfl rfl hl.1 rfl (Nat.le_of_ble_eq_true rfl) dX11_move_36 ⟨(Nat.le_of_ble_eq_true rfl), (Nat.le_of_ble_eq_true rfl)⟩) hP hD hK hS hA [1] [0, 2, 3] rfl rfl (by decide) (by decide) (fun r_146 u H locs hw hP hD hK hS => ?_)
  have hK : va_K D vwCl [(k0, .object RX4)] s := hK
  have hP : va_P D vwCl [(h0, .inr (11, [.ref r0, .int 0, .ref r1, .ref r2, .ref r3, .ref h3, .ref r4, .ref h1, .ref r5, .ref r6, .ref r7, .ref r8])), (h1, .inr (3, [.int 0, .int 0, .ref r9, .ref r10, .ref r11, .ref r12, .ref h3, .ref h2, .ref r13])), (h2, .inl (k0, 122, .inr (.inr (.inr (.inr f0))))), (h3, .inr (2, [.int 0, .int 0, .int 0, .int 0, .int 0, .ref r18, .ref r19, .ref r20, .ref r21, .ref r22, .ref r23, .ref r24]))] H := hP
  have hD : va_D A [(h0, .inr (11, [.ref r0, .int 0, .ref r1, .ref r2, .ref r3, .ref h3, .ref r4, .ref h1, .ref r5, .ref r6, .ref r7, .ref r8])), (h1, .inr (3, [.int 0, .int 0, .ref r9, .ref r10, .ref r11, .ref r12, .ref h3, .ref h2, .ref r13])), (h2, .inl (k0, 122, .inr (.inr (.inr (.inr f0))))), (h3, .inr (2, [.int 0, .int 0, .int 0, .int 0, .int 0, .ref r18, .ref r19, .ref r20, .ref r21, .ref r22, .ref r23, .ref r24]))] := hD
  refine W.widen (k := 0) (n := 0) (Nat.le_of_ble_eq_true rfl) (Nat.le_of_ble_eq_true rfl) ?_
  have er : r_146 = (-1) := hw
  refine z_top (y := (-1)) er ?_
  refine lv_istore (lv' := [(5, .int (-1)), (4, .ref r15), (0, .ref h0), (1, .int 1), (2, .int x1), (3, .int x2)]) hx hb dX11_move_39 hl (by decide) rfl (fun ls hl => ?_)
  refine lv_iload hx hb dX11_move_41 (lv_at hl 0 rfl) ?_
  refine lv_iconst (v := (-1)) hx hb dX11_move_43 (by decide) ?_
  refine lv_icmp_ne (tgt := 50) hx hb dX11_move_44 (by decide) (fun h9 => absurd (by decide) h9) (fun _ => ?_)
  refine lv_bipush (v := (-2)) hx hb dX11_move_47 (by decide) ?_
  exact zret_i hx hb hr hlocks hP hD hK hS () (rfl) [] [] (by decide) rfl rfl (Nat.le_of_ble_eq_true rfl) (Nat.le_of_ble_eq_true rfl) dX11_move_49
set_option maxHeartbeats 4000000 in
set_option maxRecDepth 100000 in
theorem aX11_move_c6 (l : Launch) (D : va_G) (h0 h1 h2 h3 r0 r1 r2 r3 r4 r5 r6 r7 r8 r9 r10 r11 r12 r13 r14 r15 r16 r17 r18 r19 r20 r21 r22 r23 r24 : Nat) (k0 : ClassId) (f0 : Nat → Option Nat) (x1 : Int32) (x2 : Int32) (sz : Nat) (hf_f0_0 : f0 0 = some r14) (hf_f0_1 : f0 1 = some r15) (hf_f0_2 : f0 2 = some r16) (hf_f0_3 : f0 3 = some r17) (hx1 : -2147483648 ≤ x1.toInt ∧ x1.toInt ≤ 2147483647) (hx2 : 3 ≤ x2.toInt ∧ x2.toInt ≤ 2147483647) : Met l yX11_move wsX11_move ({ frames := 2, cells := 0, slots := 0, locals := 47 }) (zPre D [.ref h0, .int 1, .int x1, .int x2] [(h0, .inr (11, [.ref r0, .int 0, .ref r1, .ref r2, .ref r3, .ref h3, .ref r4, .ref h1, .ref r5, .ref r6, .ref r7, .ref r8])), (h1, .inr (3, [.int 0, .int 0, .ref r9, .ref r10, .ref r11, .ref r12, .ref h3, .ref h2, .ref r13])), (h2, .inl (k0, 122, .inr (.inr (.inr (.inr f0))))), (h3, .inr (2, [.int 0, .int 0, .int 0, .int 0, .int 0, .ref r18, .ref r19, .ref r20, .ref r21, .ref r22, .ref r23, .ref r24]))] [(k0, .object RX4)] sz) ((fun A => va_Qi (fun (r : Int32) (u : Unit) => r = (-2)) (zB D A (fun (u : Unit) => match u with | _ => []) (fun (u : Unit) => match u with | _ => [])) A) (va_A [(h0, .inr (11, [.ref r0, .int 0, .ref r1, .ref r2, .ref r3, .ref h3, .ref r4, .ref h1, .ref r5, .ref r6, .ref r7, .ref r8])), (h1, .inr (3, [.int 0, .int 0, .ref r9, .ref r10, .ref r11, .ref r12, .ref h3, .ref h2, .ref r13])), (h2, .inl (k0, 122, .inr (.inr (.inr (.inr f0))))), (h3, .inr (2, [.int 0, .int 0, .int 0, .int 0, .int 0, .ref r18, .ref r19, .ref r20, .ref r21, .ref r22, .ref r23, .ref r24]))] sz)) 0 0 (va_A [(h0, .inr (11, [.ref r0, .int 0, .ref r1, .ref r2, .ref r3, .ref h3, .ref r4, .ref h1, .ref r5, .ref r6, .ref r7, .ref r8])), (h1, .inr (3, [.int 0, .int 0, .ref r9, .ref r10, .ref r11, .ref r12, .ref h3, .ref h2, .ref r13])), (h2, .inl (k0, 122, .inr (.inr (.inr (.inr f0))))), (h3, .inr (2, [.int 0, .int 0, .int 0, .int 0, .int 0, .ref r18, .ref r19, .ref r20, .ref r21, .ref r22, .ref r23, .ref r24]))] sz) := by
  refine zOfW (QF := fun A => va_Qi (fun (r : Int32) (u : Unit) => r = (-2)) (zB D A (fun (u : Unit) => match u with | _ => []) (fun (u : Unit) => match u with | _ => [])) A) (cc := cX11_move) (maxL := 6) (ret := (some .int)) (by decide) rfl (Nat.le_of_ble_eq_true rfl) ?_
  intro p e s m below meth c A ls hx hb hr hml hts hown hlocks hin hA hS hP hD hK hN hl
  have hl : lv_has ls 6 [(0, .ref h0), (1, .int 1), (2, .int x1), (3, .int x2)] := hl
  refine lv_iload_n hx hb dX11_move_0 rfl (lv_at hl 1 rfl) ?_
  refine zA_i (zR_S (As := [.int 1]) (rest := []) ⟨hx, hb, hml, hown, hts⟩ (zX11_isKeeper_2 l D _) (va_cwS 1 hts gX11_move_X11_isKeeper rfl rfl rfl (by decide +kernel) ⟨(Nat.le_of_ble_eq_true rfl), (Nat.le_of_ble_eq_true rfl)⟩) hP hD hK hN [] [] rfl (by decide) rfl rfl hl.1 rfl (Nat.le_of_ble_eq_true rfl) dX11_move_1 ⟨(Nat.le_of_ble_eq_true rfl), (Nat.le_of_ble_eq_true rfl)⟩) hP hD hK hS hA [] [0, 1, 2, 3] rfl rfl (by decide) (by decide) (fun r_148 u H locs hw hP hD hK hS => ?_)
  have hK : va_K D vwCl [(k0, .object RX4)] s := hK
  have hP : va_P D vwCl [(h0, .inr (11, [.ref r0, .int 0, .ref r1, .ref r2, .ref r3, .ref h3, .ref r4, .ref h1, .ref r5, .ref r6, .ref r7, .ref r8])), (h1, .inr (3, [.int 0, .int 0, .ref r9, .ref r10, .ref r11, .ref r12, .ref h3, .ref h2, .ref r13])), (h2, .inl (k0, 122, .inr (.inr (.inr (.inr f0))))), (h3, .inr (2, [.int 0, .int 0, .int 0, .int 0, .int 0, .ref r18, .ref r19, .ref r20, .ref r21, .ref r22, .ref r23, .ref r24]))] H := hP
  have hD : va_D A [(h0, .inr (11, [.ref r0, .int 0, .ref r1, .ref r2, .ref r3, .ref h3, .ref r4, .ref h1, .ref r5, .ref r6, .ref r7, .ref r8])), (h1, .inr (3, [.int 0, .int 0, .ref r9, .ref r10, .ref r11, .ref r12, .ref h3, .ref h2, .ref r13])), (h2, .inl (k0, 122, .inr (.inr (.inr (.inr f0))))), (h3, .inr (2, [.int 0, .int 0, .int 0, .int 0, .int 0, .ref r18, .ref r19, .ref r20, .ref r21, .ref r22, .ref r23, .ref r24]))] := hD
  refine W.widen (k := 0) (n := 0) (Nat.le_of_ble_eq_true rfl) (Nat.le_of_ble_eq_true rfl) ?_
  have er : r_148 = 1 := hw
  refine z_top (y := 1) er ?_
  refine lv_if_eq (tgt := 16) hx hb dX11_move_4 (by decide) (fun h9 => absurd h9 (by decide)) (fun _ => ?_)
  refine lv_iload_n hx hb dX11_move_7 rfl (lv_at hl 3 rfl) ?_
  refine lv_if_lt (tgt := 16) hx hb dX11_move_8 (by decide) (fun h9 => absurd h9 (z_cmp (show ¬ ((x2 : Int32) < 0) from by simp only [fa_lt, fa_le, fa_eq, zk_0]; have := hx2; omega))) (fun _ => ?_)
  refine lv_iload_n hx hb dX11_move_11 rfl (lv_at hl 3 rfl) ?_
  refine lv_iconst (v := 2) hx hb dX11_move_12 (by decide) ?_
  refine lv_icmp_le (tgt := 19) hx hb dX11_move_13 (by decide) (fun h9 => absurd h9 (z_cmp (show ¬ ((x2 : Int32) ≤ 2) from by simp only [fa_lt, fa_le, fa_eq, zk_2]; have := hx2; omega))) (fun _ => ?_)
  refine lv_bipush (v := (-2)) hx hb dX11_move_16 (by decide) ?_
  exact zret_i hx hb hr hlocks hP hD hK hS () (rfl) [] [] (by decide) rfl rfl (Nat.le_of_ble_eq_true rfl) (Nat.le_of_ble_eq_true rfl) dX11_move_18
set_option maxHeartbeats 4000000 in
set_option maxRecDepth 100000 in
theorem aX11_move_c7 (l : Launch) (D : va_G) (h0 h1 h2 h3 r0 r1 r2 r3 r4 r5 r6 r7 r8 r9 r10 r11 r12 r13 r14 r15 r16 r17 r18 r19 r20 r21 r22 r23 r24 : Nat) (k0 : ClassId) (f0 : Nat → Option Nat) (x0 : Int32) (x1 : Int32) (x2 : Int32) (sz : Nat) (hf_f0_0 : f0 0 = some r14) (hf_f0_1 : f0 1 = some r15) (hf_f0_2 : f0 2 = some r16) (hf_f0_3 : f0 3 = some r17) (hx0 : -2147483648 ≤ x0.toInt ∧ x0.toInt ≤ -1) (hx1 : -2147483648 ≤ x1.toInt ∧ x1.toInt ≤ 2147483647) (hx2 : -2147483648 ≤ x2.toInt ∧ x2.toInt ≤ -1) : Met l yX11_move wsX11_move ({ frames := 2, cells := 0, slots := 0, locals := 47 }) (zPre D [.ref h0, .int x0, .int x1, .int x2] [(h0, .inr (11, [.ref r0, .int 0, .ref r1, .ref r2, .ref r3, .ref h3, .ref r4, .ref h1, .ref r5, .ref r6, .ref r7, .ref r8])), (h1, .inr (3, [.int 0, .int 0, .ref r9, .ref r10, .ref r11, .ref r12, .ref h3, .ref h2, .ref r13])), (h2, .inl (k0, 122, .inr (.inr (.inr (.inr f0))))), (h3, .inr (2, [.int 0, .int 0, .int 0, .int 0, .int 0, .ref r18, .ref r19, .ref r20, .ref r21, .ref r22, .ref r23, .ref r24]))] [(k0, .object RX4)] sz) ((fun A => va_Qi (fun (r : Int32) (u : Unit) => r = (-2)) (zB D A (fun (u : Unit) => match u with | _ => []) (fun (u : Unit) => match u with | _ => [])) A) (va_A [(h0, .inr (11, [.ref r0, .int 0, .ref r1, .ref r2, .ref r3, .ref h3, .ref r4, .ref h1, .ref r5, .ref r6, .ref r7, .ref r8])), (h1, .inr (3, [.int 0, .int 0, .ref r9, .ref r10, .ref r11, .ref r12, .ref h3, .ref h2, .ref r13])), (h2, .inl (k0, 122, .inr (.inr (.inr (.inr f0))))), (h3, .inr (2, [.int 0, .int 0, .int 0, .int 0, .int 0, .ref r18, .ref r19, .ref r20, .ref r21, .ref r22, .ref r23, .ref r24]))] sz)) 0 0 (va_A [(h0, .inr (11, [.ref r0, .int 0, .ref r1, .ref r2, .ref r3, .ref h3, .ref r4, .ref h1, .ref r5, .ref r6, .ref r7, .ref r8])), (h1, .inr (3, [.int 0, .int 0, .ref r9, .ref r10, .ref r11, .ref r12, .ref h3, .ref h2, .ref r13])), (h2, .inl (k0, 122, .inr (.inr (.inr (.inr f0))))), (h3, .inr (2, [.int 0, .int 0, .int 0, .int 0, .int 0, .ref r18, .ref r19, .ref r20, .ref r21, .ref r22, .ref r23, .ref r24]))] sz) := by
  refine zOfW (QF := fun A => va_Qi (fun (r : Int32) (u : Unit) => r = (-2)) (zB D A (fun (u : Unit) => match u with | _ => []) (fun (u : Unit) => match u with | _ => [])) A) (cc := cX11_move) (maxL := 6) (ret := (some .int)) (by decide) rfl (Nat.le_of_ble_eq_true rfl) ?_
  intro p e s m below meth c A ls hx hb hr hml hts hown hlocks hin hA hS hP hD hK hN hl
  have hl : lv_has ls 6 [(0, .ref h0), (1, .int x0), (2, .int x1), (3, .int x2)] := hl
  refine lv_iload_n hx hb dX11_move_0 rfl (lv_at hl 1 rfl) ?_
  refine zA_i (zR_S (As := [.int x0]) (rest := []) ⟨hx, hb, hml, hown, hts⟩ (zX11_isKeeper_3 l D x0 _ hx0) (va_cwS 1 hts gX11_move_X11_isKeeper rfl rfl rfl (by decide +kernel) ⟨(Nat.le_of_ble_eq_true rfl), (Nat.le_of_ble_eq_true rfl)⟩) hP hD hK hN [] [] rfl (by decide) rfl rfl hl.1 rfl (Nat.le_of_ble_eq_true rfl) dX11_move_1 ⟨(Nat.le_of_ble_eq_true rfl), (Nat.le_of_ble_eq_true rfl)⟩) hP hD hK hS hA [] [0, 1, 2, 3] rfl rfl (by decide) (by decide) (fun r_150 u H locs hw hP hD hK hS => ?_)
  have hK : va_K D vwCl [(k0, .object RX4)] s := hK
  have hP : va_P D vwCl [(h0, .inr (11, [.ref r0, .int 0, .ref r1, .ref r2, .ref r3, .ref h3, .ref r4, .ref h1, .ref r5, .ref r6, .ref r7, .ref r8])), (h1, .inr (3, [.int 0, .int 0, .ref r9, .ref r10, .ref r11, .ref r12, .ref h3, .ref h2, .ref r13])), (h2, .inl (k0, 122, .inr (.inr (.inr (.inr f0))))), (h3, .inr (2, [.int 0, .int 0, .int 0, .int 0, .int 0, .ref r18, .ref r19, .ref r20, .ref r21, .ref r22, .ref r23, .ref r24]))] H := hP
  have hD : va_D A [(h0, .inr (11, [.ref r0, .int 0, .ref r1, .ref r2, .ref r3, .ref h3, .ref r4, .ref h1, .ref r5, .ref r6, .ref r7, .ref r8])), (h1, .inr (3, [.int 0, .int 0, .ref r9, .ref r10, .ref r11, .ref r12, .ref h3, .ref h2, .ref r13])), (h2, .inl (k0, 122, .inr (.inr (.inr (.inr f0))))), (h3, .inr (2, [.int 0, .int 0, .int 0, .int 0, .int 0, .ref r18, .ref r19, .ref r20, .ref r21, .ref r22, .ref r23, .ref r24]))] := hD
  refine W.widen (k := 0) (n := 0) (Nat.le_of_ble_eq_true rfl) (Nat.le_of_ble_eq_true rfl) ?_
  have er : r_150 = 0 := hw
  refine z_top (y := 0) er ?_
  refine lv_if_eq (tgt := 16) hx hb dX11_move_4 (by decide) (fun _ => ?_) (fun h9 => absurd (by decide) h9)
  refine lv_bipush (v := (-2)) hx hb dX11_move_16 (by decide) ?_
  exact zret_i hx hb hr hlocks hP hD hK hS () (rfl) [] [] (by decide) rfl rfl (Nat.le_of_ble_eq_true rfl) (Nat.le_of_ble_eq_true rfl) dX11_move_18
set_option maxHeartbeats 4000000 in
set_option maxRecDepth 100000 in
theorem aX11_move_c8 (l : Launch) (D : va_G) (h0 h1 h2 h3 r0 r1 r2 r3 r4 r5 r6 r7 r8 r9 r10 r11 r12 r13 r14 r15 r16 r17 r18 r19 r20 r21 r22 r23 r24 : Nat) (k0 : ClassId) (f0 : Nat → Option Nat) (x0 : Int32) (x1 : Int32) (x2 : Int32) (sz : Nat) (hf_f0_0 : f0 0 = some r14) (hf_f0_1 : f0 1 = some r15) (hf_f0_2 : f0 2 = some r16) (hf_f0_3 : f0 3 = some r17) (hx0 : -2147483648 ≤ x0.toInt ∧ x0.toInt ≤ -1) (hx1 : -2147483648 ≤ x1.toInt ∧ x1.toInt ≤ 2147483647) (hx2 : 0 ≤ x2.toInt ∧ x2.toInt ≤ 2) : Met l yX11_move wsX11_move ({ frames := 2, cells := 0, slots := 0, locals := 47 }) (zPre D [.ref h0, .int x0, .int x1, .int x2] [(h0, .inr (11, [.ref r0, .int 0, .ref r1, .ref r2, .ref r3, .ref h3, .ref r4, .ref h1, .ref r5, .ref r6, .ref r7, .ref r8])), (h1, .inr (3, [.int 0, .int 0, .ref r9, .ref r10, .ref r11, .ref r12, .ref h3, .ref h2, .ref r13])), (h2, .inl (k0, 122, .inr (.inr (.inr (.inr f0))))), (h3, .inr (2, [.int 0, .int 0, .int 0, .int 0, .int 0, .ref r18, .ref r19, .ref r20, .ref r21, .ref r22, .ref r23, .ref r24]))] [(k0, .object RX4)] sz) ((fun A => va_Qi (fun (r : Int32) (u : Unit) => r = (-2)) (zB D A (fun (u : Unit) => match u with | _ => []) (fun (u : Unit) => match u with | _ => [])) A) (va_A [(h0, .inr (11, [.ref r0, .int 0, .ref r1, .ref r2, .ref r3, .ref h3, .ref r4, .ref h1, .ref r5, .ref r6, .ref r7, .ref r8])), (h1, .inr (3, [.int 0, .int 0, .ref r9, .ref r10, .ref r11, .ref r12, .ref h3, .ref h2, .ref r13])), (h2, .inl (k0, 122, .inr (.inr (.inr (.inr f0))))), (h3, .inr (2, [.int 0, .int 0, .int 0, .int 0, .int 0, .ref r18, .ref r19, .ref r20, .ref r21, .ref r22, .ref r23, .ref r24]))] sz)) 0 0 (va_A [(h0, .inr (11, [.ref r0, .int 0, .ref r1, .ref r2, .ref r3, .ref h3, .ref r4, .ref h1, .ref r5, .ref r6, .ref r7, .ref r8])), (h1, .inr (3, [.int 0, .int 0, .ref r9, .ref r10, .ref r11, .ref r12, .ref h3, .ref h2, .ref r13])), (h2, .inl (k0, 122, .inr (.inr (.inr (.inr f0))))), (h3, .inr (2, [.int 0, .int 0, .int 0, .int 0, .int 0, .ref r18, .ref r19, .ref r20, .ref r21, .ref r22, .ref r23, .ref r24]))] sz) := by
  refine zOfW (QF := fun A => va_Qi (fun (r : Int32) (u : Unit) => r = (-2)) (zB D A (fun (u : Unit) => match u with | _ => []) (fun (u : Unit) => match u with | _ => [])) A) (cc := cX11_move) (maxL := 6) (ret := (some .int)) (by decide) rfl (Nat.le_of_ble_eq_true rfl) ?_
  intro p e s m below meth c A ls hx hb hr hml hts hown hlocks hin hA hS hP hD hK hN hl
  have hl : lv_has ls 6 [(0, .ref h0), (1, .int x0), (2, .int x1), (3, .int x2)] := hl
  refine lv_iload_n hx hb dX11_move_0 rfl (lv_at hl 1 rfl) ?_
  refine zA_i (zR_S (As := [.int x0]) (rest := []) ⟨hx, hb, hml, hown, hts⟩ (zX11_isKeeper_3 l D x0 _ hx0) (va_cwS 1 hts gX11_move_X11_isKeeper rfl rfl rfl (by decide +kernel) ⟨(Nat.le_of_ble_eq_true rfl), (Nat.le_of_ble_eq_true rfl)⟩) hP hD hK hN [] [] rfl (by decide) rfl rfl hl.1 rfl (Nat.le_of_ble_eq_true rfl) dX11_move_1 ⟨(Nat.le_of_ble_eq_true rfl), (Nat.le_of_ble_eq_true rfl)⟩) hP hD hK hS hA [] [0, 1, 2, 3] rfl rfl (by decide) (by decide) (fun r_152 u H locs hw hP hD hK hS => ?_)
  have hK : va_K D vwCl [(k0, .object RX4)] s := hK
  have hP : va_P D vwCl [(h0, .inr (11, [.ref r0, .int 0, .ref r1, .ref r2, .ref r3, .ref h3, .ref r4, .ref h1, .ref r5, .ref r6, .ref r7, .ref r8])), (h1, .inr (3, [.int 0, .int 0, .ref r9, .ref r10, .ref r11, .ref r12, .ref h3, .ref h2, .ref r13])), (h2, .inl (k0, 122, .inr (.inr (.inr (.inr f0))))), (h3, .inr (2, [.int 0, .int 0, .int 0, .int 0, .int 0, .ref r18, .ref r19, .ref r20, .ref r21, .ref r22, .ref r23, .ref r24]))] H := hP
  have hD : va_D A [(h0, .inr (11, [.ref r0, .int 0, .ref r1, .ref r2, .ref r3, .ref h3, .ref r4, .ref h1, .ref r5, .ref r6, .ref r7, .ref r8])), (h1, .inr (3, [.int 0, .int 0, .ref r9, .ref r10, .ref r11, .ref r12, .ref h3, .ref h2, .ref r13])), (h2, .inl (k0, 122, .inr (.inr (.inr (.inr f0))))), (h3, .inr (2, [.int 0, .int 0, .int 0, .int 0, .int 0, .ref r18, .ref r19, .ref r20, .ref r21, .ref r22, .ref r23, .ref r24]))] := hD
  refine W.widen (k := 0) (n := 0) (Nat.le_of_ble_eq_true rfl) (Nat.le_of_ble_eq_true rfl) ?_
  have er : r_152 = 0 := hw
  refine z_top (y := 0) er ?_
  refine lv_if_eq (tgt := 16) hx hb dX11_move_4 (by decide) (fun _ => ?_) (fun h9 => absurd (by decide) h9)
  refine lv_bipush (v := (-2)) hx hb dX11_move_16 (by decide) ?_
  exact zret_i hx hb hr hlocks hP hD hK hS () (rfl) [] [] (by decide) rfl rfl (Nat.le_of_ble_eq_true rfl) (Nat.le_of_ble_eq_true rfl) dX11_move_18
set_option maxHeartbeats 4000000 in
set_option maxRecDepth 100000 in
theorem aX11_move_c9 (l : Launch) (D : va_G) (h0 h1 h2 h3 r0 r1 r2 r3 r4 r5 r6 r7 r8 r9 r10 r11 r12 r13 r14 r15 r16 r17 r18 r19 r20 r21 r22 r23 r24 : Nat) (k0 : ClassId) (f0 : Nat → Option Nat) (x0 : Int32) (x1 : Int32) (x2 : Int32) (sz : Nat) (hf_f0_0 : f0 0 = some r14) (hf_f0_1 : f0 1 = some r15) (hf_f0_2 : f0 2 = some r16) (hf_f0_3 : f0 3 = some r17) (hx0 : -2147483648 ≤ x0.toInt ∧ x0.toInt ≤ -1) (hx1 : -2147483648 ≤ x1.toInt ∧ x1.toInt ≤ 2147483647) (hx2 : 3 ≤ x2.toInt ∧ x2.toInt ≤ 2147483647) : Met l yX11_move wsX11_move ({ frames := 2, cells := 0, slots := 0, locals := 47 }) (zPre D [.ref h0, .int x0, .int x1, .int x2] [(h0, .inr (11, [.ref r0, .int 0, .ref r1, .ref r2, .ref r3, .ref h3, .ref r4, .ref h1, .ref r5, .ref r6, .ref r7, .ref r8])), (h1, .inr (3, [.int 0, .int 0, .ref r9, .ref r10, .ref r11, .ref r12, .ref h3, .ref h2, .ref r13])), (h2, .inl (k0, 122, .inr (.inr (.inr (.inr f0))))), (h3, .inr (2, [.int 0, .int 0, .int 0, .int 0, .int 0, .ref r18, .ref r19, .ref r20, .ref r21, .ref r22, .ref r23, .ref r24]))] [(k0, .object RX4)] sz) ((fun A => va_Qi (fun (r : Int32) (u : Unit) => r = (-2)) (zB D A (fun (u : Unit) => match u with | _ => []) (fun (u : Unit) => match u with | _ => [])) A) (va_A [(h0, .inr (11, [.ref r0, .int 0, .ref r1, .ref r2, .ref r3, .ref h3, .ref r4, .ref h1, .ref r5, .ref r6, .ref r7, .ref r8])), (h1, .inr (3, [.int 0, .int 0, .ref r9, .ref r10, .ref r11, .ref r12, .ref h3, .ref h2, .ref r13])), (h2, .inl (k0, 122, .inr (.inr (.inr (.inr f0))))), (h3, .inr (2, [.int 0, .int 0, .int 0, .int 0, .int 0, .ref r18, .ref r19, .ref r20, .ref r21, .ref r22, .ref r23, .ref r24]))] sz)) 0 0 (va_A [(h0, .inr (11, [.ref r0, .int 0, .ref r1, .ref r2, .ref r3, .ref h3, .ref r4, .ref h1, .ref r5, .ref r6, .ref r7, .ref r8])), (h1, .inr (3, [.int 0, .int 0, .ref r9, .ref r10, .ref r11, .ref r12, .ref h3, .ref h2, .ref r13])), (h2, .inl (k0, 122, .inr (.inr (.inr (.inr f0))))), (h3, .inr (2, [.int 0, .int 0, .int 0, .int 0, .int 0, .ref r18, .ref r19, .ref r20, .ref r21, .ref r22, .ref r23, .ref r24]))] sz) := by
  refine zOfW (QF := fun A => va_Qi (fun (r : Int32) (u : Unit) => r = (-2)) (zB D A (fun (u : Unit) => match u with | _ => []) (fun (u : Unit) => match u with | _ => [])) A) (cc := cX11_move) (maxL := 6) (ret := (some .int)) (by decide) rfl (Nat.le_of_ble_eq_true rfl) ?_
  intro p e s m below meth c A ls hx hb hr hml hts hown hlocks hin hA hS hP hD hK hN hl
  have hl : lv_has ls 6 [(0, .ref h0), (1, .int x0), (2, .int x1), (3, .int x2)] := hl
  refine lv_iload_n hx hb dX11_move_0 rfl (lv_at hl 1 rfl) ?_
  refine zA_i (zR_S (As := [.int x0]) (rest := []) ⟨hx, hb, hml, hown, hts⟩ (zX11_isKeeper_3 l D x0 _ hx0) (va_cwS 1 hts gX11_move_X11_isKeeper rfl rfl rfl (by decide +kernel) ⟨(Nat.le_of_ble_eq_true rfl), (Nat.le_of_ble_eq_true rfl)⟩) hP hD hK hN [] [] rfl (by decide) rfl rfl hl.1 rfl (Nat.le_of_ble_eq_true rfl) dX11_move_1 ⟨(Nat.le_of_ble_eq_true rfl), (Nat.le_of_ble_eq_true rfl)⟩) hP hD hK hS hA [] [0, 1, 2, 3] rfl rfl (by decide) (by decide) (fun r_154 u H locs hw hP hD hK hS => ?_)
  have hK : va_K D vwCl [(k0, .object RX4)] s := hK
  have hP : va_P D vwCl [(h0, .inr (11, [.ref r0, .int 0, .ref r1, .ref r2, .ref r3, .ref h3, .ref r4, .ref h1, .ref r5, .ref r6, .ref r7, .ref r8])), (h1, .inr (3, [.int 0, .int 0, .ref r9, .ref r10, .ref r11, .ref r12, .ref h3, .ref h2, .ref r13])), (h2, .inl (k0, 122, .inr (.inr (.inr (.inr f0))))), (h3, .inr (2, [.int 0, .int 0, .int 0, .int 0, .int 0, .ref r18, .ref r19, .ref r20, .ref r21, .ref r22, .ref r23, .ref r24]))] H := hP
  have hD : va_D A [(h0, .inr (11, [.ref r0, .int 0, .ref r1, .ref r2, .ref r3, .ref h3, .ref r4, .ref h1, .ref r5, .ref r6, .ref r7, .ref r8])), (h1, .inr (3, [.int 0, .int 0, .ref r9, .ref r10, .ref r11, .ref r12, .ref h3, .ref h2, .ref r13])), (h2, .inl (k0, 122, .inr (.inr (.inr (.inr f0))))), (h3, .inr (2, [.int 0, .int 0, .int 0, .int 0, .int 0, .ref r18, .ref r19, .ref r20, .ref r21, .ref r22, .ref r23, .ref r24]))] := hD
  refine W.widen (k := 0) (n := 0) (Nat.le_of_ble_eq_true rfl) (Nat.le_of_ble_eq_true rfl) ?_
  have er : r_154 = 0 := hw
  refine z_top (y := 0) er ?_
  refine lv_if_eq (tgt := 16) hx hb dX11_move_4 (by decide) (fun _ => ?_) (fun h9 => absurd (by decide) h9)
  refine lv_bipush (v := (-2)) hx hb dX11_move_16 (by decide) ?_
  exact zret_i hx hb hr hlocks hP hD hK hS () (rfl) [] [] (by decide) rfl rfl (Nat.le_of_ble_eq_true rfl) (Nat.le_of_ble_eq_true rfl) dX11_move_18
set_option maxHeartbeats 4000000 in
set_option maxRecDepth 100000 in
theorem aX11_move_c10 (l : Launch) (D : va_G) (h0 h1 h2 h3 r0 r1 r2 r3 r4 r5 r6 r7 r8 r9 r10 r11 r12 r13 r14 r15 r16 r17 r18 r19 r20 r21 r22 r23 r24 : Nat) (k0 : ClassId) (f0 : Nat → Option Nat) (x0 : Int32) (x1 : Int32) (x2 : Int32) (sz : Nat) (hf_f0_0 : f0 0 = some r14) (hf_f0_1 : f0 1 = some r15) (hf_f0_2 : f0 2 = some r16) (hf_f0_3 : f0 3 = some r17) (hx0 : 2 ≤ x0.toInt ∧ x0.toInt ≤ 2147483647) (hx1 : -2147483648 ≤ x1.toInt ∧ x1.toInt ≤ 2147483647) (hx2 : -2147483648 ≤ x2.toInt ∧ x2.toInt ≤ -1) : Met l yX11_move wsX11_move ({ frames := 2, cells := 0, slots := 0, locals := 47 }) (zPre D [.ref h0, .int x0, .int x1, .int x2] [(h0, .inr (11, [.ref r0, .int 0, .ref r1, .ref r2, .ref r3, .ref h3, .ref r4, .ref h1, .ref r5, .ref r6, .ref r7, .ref r8])), (h1, .inr (3, [.int 0, .int 0, .ref r9, .ref r10, .ref r11, .ref r12, .ref h3, .ref h2, .ref r13])), (h2, .inl (k0, 122, .inr (.inr (.inr (.inr f0))))), (h3, .inr (2, [.int 0, .int 0, .int 0, .int 0, .int 0, .ref r18, .ref r19, .ref r20, .ref r21, .ref r22, .ref r23, .ref r24]))] [(k0, .object RX4)] sz) ((fun A => va_Qi (fun (r : Int32) (u : Unit) => r = (-2)) (zB D A (fun (u : Unit) => match u with | _ => []) (fun (u : Unit) => match u with | _ => [])) A) (va_A [(h0, .inr (11, [.ref r0, .int 0, .ref r1, .ref r2, .ref r3, .ref h3, .ref r4, .ref h1, .ref r5, .ref r6, .ref r7, .ref r8])), (h1, .inr (3, [.int 0, .int 0, .ref r9, .ref r10, .ref r11, .ref r12, .ref h3, .ref h2, .ref r13])), (h2, .inl (k0, 122, .inr (.inr (.inr (.inr f0))))), (h3, .inr (2, [.int 0, .int 0, .int 0, .int 0, .int 0, .ref r18, .ref r19, .ref r20, .ref r21, .ref r22, .ref r23, .ref r24]))] sz)) 0 0 (va_A [(h0, .inr (11, [.ref r0, .int 0, .ref r1, .ref r2, .ref r3, .ref h3, .ref r4, .ref h1, .ref r5, .ref r6, .ref r7, .ref r8])), (h1, .inr (3, [.int 0, .int 0, .ref r9, .ref r10, .ref r11, .ref r12, .ref h3, .ref h2, .ref r13])), (h2, .inl (k0, 122, .inr (.inr (.inr (.inr f0))))), (h3, .inr (2, [.int 0, .int 0, .int 0, .int 0, .int 0, .ref r18, .ref r19, .ref r20, .ref r21, .ref r22, .ref r23, .ref r24]))] sz) := by
  refine zOfW (QF := fun A => va_Qi (fun (r : Int32) (u : Unit) => r = (-2)) (zB D A (fun (u : Unit) => match u with | _ => []) (fun (u : Unit) => match u with | _ => [])) A) (cc := cX11_move) (maxL := 6) (ret := (some .int)) (by decide) rfl (Nat.le_of_ble_eq_true rfl) ?_
  intro p e s m below meth c A ls hx hb hr hml hts hown hlocks hin hA hS hP hD hK hN hl
  have hl : lv_has ls 6 [(0, .ref h0), (1, .int x0), (2, .int x1), (3, .int x2)] := hl
  refine lv_iload_n hx hb dX11_move_0 rfl (lv_at hl 1 rfl) ?_
  refine zA_i (zR_S (As := [.int x0]) (rest := []) ⟨hx, hb, hml, hown, hts⟩ (zX11_isKeeper_4 l D x0 _ hx0) (va_cwS 1 hts gX11_move_X11_isKeeper rfl rfl rfl (by decide +kernel) ⟨(Nat.le_of_ble_eq_true rfl), (Nat.le_of_ble_eq_true rfl)⟩) hP hD hK hN [] [] rfl (by decide) rfl rfl hl.1 rfl (Nat.le_of_ble_eq_true rfl) dX11_move_1 ⟨(Nat.le_of_ble_eq_true rfl), (Nat.le_of_ble_eq_true rfl)⟩) hP hD hK hS hA [] [0, 1, 2, 3] rfl rfl (by decide) (by decide) (fun r_156 u H locs hw hP hD hK hS => ?_)
  have hK : va_K D vwCl [(k0, .object RX4)] s := hK
  have hP : va_P D vwCl [(h0, .inr (11, [.ref r0, .int 0, .ref r1, .ref r2, .ref r3, .ref h3, .ref r4, .ref h1, .ref r5, .ref r6, .ref r7, .ref r8])), (h1, .inr (3, [.int 0, .int 0, .ref r9, .ref r10, .ref r11, .ref r12, .ref h3, .ref h2, .ref r13])), (h2, .inl (k0, 122, .inr (.inr (.inr (.inr f0))))), (h3, .inr (2, [.int 0, .int 0, .int 0, .int 0, .int 0, .ref r18, .ref r19, .ref r20, .ref r21, .ref r22, .ref r23, .ref r24]))] H := hP
  have hD : va_D A [(h0, .inr (11, [.ref r0, .int 0, .ref r1, .ref r2, .ref r3, .ref h3, .ref r4, .ref h1, .ref r5, .ref r6, .ref r7, .ref r8])), (h1, .inr (3, [.int 0, .int 0, .ref r9, .ref r10, .ref r11, .ref r12, .ref h3, .ref h2, .ref r13])), (h2, .inl (k0, 122, .inr (.inr (.inr (.inr f0))))), (h3, .inr (2, [.int 0, .int 0, .int 0, .int 0, .int 0, .ref r18, .ref r19, .ref r20, .ref r21, .ref r22, .ref r23, .ref r24]))] := hD
  refine W.widen (k := 0) (n := 0) (Nat.le_of_ble_eq_true rfl) (Nat.le_of_ble_eq_true rfl) ?_
  have er : r_156 = 0 := hw
  refine z_top (y := 0) er ?_
  refine lv_if_eq (tgt := 16) hx hb dX11_move_4 (by decide) (fun _ => ?_) (fun h9 => absurd (by decide) h9)
  refine lv_bipush (v := (-2)) hx hb dX11_move_16 (by decide) ?_
  exact zret_i hx hb hr hlocks hP hD hK hS () (rfl) [] [] (by decide) rfl rfl (Nat.le_of_ble_eq_true rfl) (Nat.le_of_ble_eq_true rfl) dX11_move_18
set_option maxHeartbeats 4000000 in
set_option maxRecDepth 100000 in
theorem aX11_move_c11 (l : Launch) (D : va_G) (h0 h1 h2 h3 r0 r1 r2 r3 r4 r5 r6 r7 r8 r9 r10 r11 r12 r13 r14 r15 r16 r17 r18 r19 r20 r21 r22 r23 r24 : Nat) (k0 : ClassId) (f0 : Nat → Option Nat) (x0 : Int32) (x1 : Int32) (x2 : Int32) (sz : Nat) (hf_f0_0 : f0 0 = some r14) (hf_f0_1 : f0 1 = some r15) (hf_f0_2 : f0 2 = some r16) (hf_f0_3 : f0 3 = some r17) (hx0 : 2 ≤ x0.toInt ∧ x0.toInt ≤ 2147483647) (hx1 : -2147483648 ≤ x1.toInt ∧ x1.toInt ≤ 2147483647) (hx2 : 0 ≤ x2.toInt ∧ x2.toInt ≤ 2) : Met l yX11_move wsX11_move ({ frames := 2, cells := 0, slots := 0, locals := 47 }) (zPre D [.ref h0, .int x0, .int x1, .int x2] [(h0, .inr (11, [.ref r0, .int 0, .ref r1, .ref r2, .ref r3, .ref h3, .ref r4, .ref h1, .ref r5, .ref r6, .ref r7, .ref r8])), (h1, .inr (3, [.int 0, .int 0, .ref r9, .ref r10, .ref r11, .ref r12, .ref h3, .ref h2, .ref r13])), (h2, .inl (k0, 122, .inr (.inr (.inr (.inr f0))))), (h3, .inr (2, [.int 0, .int 0, .int 0, .int 0, .int 0, .ref r18, .ref r19, .ref r20, .ref r21, .ref r22, .ref r23, .ref r24]))] [(k0, .object RX4)] sz) ((fun A => va_Qi (fun (r : Int32) (u : Unit) => r = (-2)) (zB D A (fun (u : Unit) => match u with | _ => []) (fun (u : Unit) => match u with | _ => [])) A) (va_A [(h0, .inr (11, [.ref r0, .int 0, .ref r1, .ref r2, .ref r3, .ref h3, .ref r4, .ref h1, .ref r5, .ref r6, .ref r7, .ref r8])), (h1, .inr (3, [.int 0, .int 0, .ref r9, .ref r10, .ref r11, .ref r12, .ref h3, .ref h2, .ref r13])), (h2, .inl (k0, 122, .inr (.inr (.inr (.inr f0))))), (h3, .inr (2, [.int 0, .int 0, .int 0, .int 0, .int 0, .ref r18, .ref r19, .ref r20, .ref r21, .ref r22, .ref r23, .ref r24]))] sz)) 0 0 (va_A [(h0, .inr (11, [.ref r0, .int 0, .ref r1, .ref r2, .ref r3, .ref h3, .ref r4, .ref h1, .ref r5, .ref r6, .ref r7, .ref r8])), (h1, .inr (3, [.int 0, .int 0, .ref r9, .ref r10, .ref r11, .ref r12, .ref h3, .ref h2, .ref r13])), (h2, .inl (k0, 122, .inr (.inr (.inr (.inr f0))))), (h3, .inr (2, [.int 0, .int 0, .int 0, .int 0, .int 0, .ref r18, .ref r19, .ref r20, .ref r21, .ref r22, .ref r23, .ref r24]))] sz) := by
  refine zOfW (QF := fun A => va_Qi (fun (r : Int32) (u : Unit) => r = (-2)) (zB D A (fun (u : Unit) => match u with | _ => []) (fun (u : Unit) => match u with | _ => [])) A) (cc := cX11_move) (maxL := 6) (ret := (some .int)) (by decide) rfl (Nat.le_of_ble_eq_true rfl) ?_
  intro p e s m below meth c A ls hx hb hr hml hts hown hlocks hin hA hS hP hD hK hN hl
  have hl : lv_has ls 6 [(0, .ref h0), (1, .int x0), (2, .int x1), (3, .int x2)] := hl
  refine lv_iload_n hx hb dX11_move_0 rfl (lv_at hl 1 rfl) ?_
  refine zA_i (zR_S (As := [.int x0]) (rest := []) ⟨hx, hb, hml, hown, hts⟩ (zX11_isKeeper_4 l D x0 _ hx0) (va_cwS 1 hts gX11_move_X11_isKeeper rfl rfl rfl (by decide +kernel) ⟨(Nat.le_of_ble_eq_true rfl), (Nat.le_of_ble_eq_true rfl)⟩) hP hD hK hN [] [] rfl (by decide) rfl rfl hl.1 rfl (Nat.le_of_ble_eq_true rfl) dX11_move_1 ⟨(Nat.le_of_ble_eq_true rfl), (Nat.le_of_ble_eq_true rfl)⟩) hP hD hK hS hA [] [0, 1, 2, 3] rfl rfl (by decide) (by decide) (fun r_158 u H locs hw hP hD hK hS => ?_)
  have hK : va_K D vwCl [(k0, .object RX4)] s := hK
  have hP : va_P D vwCl [(h0, .inr (11, [.ref r0, .int 0, .ref r1, .ref r2, .ref r3, .ref h3, .ref r4, .ref h1, .ref r5, .ref r6, .ref r7, .ref r8])), (h1, .inr (3, [.int 0, .int 0, .ref r9, .ref r10, .ref r11, .ref r12, .ref h3, .ref h2, .ref r13])), (h2, .inl (k0, 122, .inr (.inr (.inr (.inr f0))))), (h3, .inr (2, [.int 0, .int 0, .int 0, .int 0, .int 0, .ref r18, .ref r19, .ref r20, .ref r21, .ref r22, .ref r23, .ref r24]))] H := hP
  have hD : va_D A [(h0, .inr (11, [.ref r0, .int 0, .ref r1, .ref r2, .ref r3, .ref h3, .ref r4, .ref h1, .ref r5, .ref r6, .ref r7, .ref r8])), (h1, .inr (3, [.int 0, .int 0, .ref r9, .ref r10, .ref r11, .ref r12, .ref h3, .ref h2, .ref r13])), (h2, .inl (k0, 122, .inr (.inr (.inr (.inr f0))))), (h3, .inr (2, [.int 0, .int 0, .int 0, .int 0, .int 0, .ref r18, .ref r19, .ref r20, .ref r21, .ref r22, .ref r23, .ref r24]))] := hD
  refine W.widen (k := 0) (n := 0) (Nat.le_of_ble_eq_true rfl) (Nat.le_of_ble_eq_true rfl) ?_
  have er : r_158 = 0 := hw
  refine z_top (y := 0) er ?_
  refine lv_if_eq (tgt := 16) hx hb dX11_move_4 (by decide) (fun _ => ?_) (fun h9 => absurd (by decide) h9)
  refine lv_bipush (v := (-2)) hx hb dX11_move_16 (by decide) ?_
  exact zret_i hx hb hr hlocks hP hD hK hS () (rfl) [] [] (by decide) rfl rfl (Nat.le_of_ble_eq_true rfl) (Nat.le_of_ble_eq_true rfl) dX11_move_18
set_option maxHeartbeats 4000000 in
set_option maxRecDepth 100000 in
theorem aX11_move_c12 (l : Launch) (D : va_G) (h0 h1 h2 h3 r0 r1 r2 r3 r4 r5 r6 r7 r8 r9 r10 r11 r12 r13 r14 r15 r16 r17 r18 r19 r20 r21 r22 r23 r24 : Nat) (k0 : ClassId) (f0 : Nat → Option Nat) (x0 : Int32) (x1 : Int32) (x2 : Int32) (sz : Nat) (hf_f0_0 : f0 0 = some r14) (hf_f0_1 : f0 1 = some r15) (hf_f0_2 : f0 2 = some r16) (hf_f0_3 : f0 3 = some r17) (hx0 : 2 ≤ x0.toInt ∧ x0.toInt ≤ 2147483647) (hx1 : -2147483648 ≤ x1.toInt ∧ x1.toInt ≤ 2147483647) (hx2 : 3 ≤ x2.toInt ∧ x2.toInt ≤ 2147483647) : Met l yX11_move wsX11_move ({ frames := 2, cells := 0, slots := 0, locals := 47 }) (zPre D [.ref h0, .int x0, .int x1, .int x2] [(h0, .inr (11, [.ref r0, .int 0, .ref r1, .ref r2, .ref r3, .ref h3, .ref r4, .ref h1, .ref r5, .ref r6, .ref r7, .ref r8])), (h1, .inr (3, [.int 0, .int 0, .ref r9, .ref r10, .ref r11, .ref r12, .ref h3, .ref h2, .ref r13])), (h2, .inl (k0, 122, .inr (.inr (.inr (.inr f0))))), (h3, .inr (2, [.int 0, .int 0, .int 0, .int 0, .int 0, .ref r18, .ref r19, .ref r20, .ref r21, .ref r22, .ref r23, .ref r24]))] [(k0, .object RX4)] sz) ((fun A => va_Qi (fun (r : Int32) (u : Unit) => r = (-2)) (zB D A (fun (u : Unit) => match u with | _ => []) (fun (u : Unit) => match u with | _ => [])) A) (va_A [(h0, .inr (11, [.ref r0, .int 0, .ref r1, .ref r2, .ref r3, .ref h3, .ref r4, .ref h1, .ref r5, .ref r6, .ref r7, .ref r8])), (h1, .inr (3, [.int 0, .int 0, .ref r9, .ref r10, .ref r11, .ref r12, .ref h3, .ref h2, .ref r13])), (h2, .inl (k0, 122, .inr (.inr (.inr (.inr f0))))), (h3, .inr (2, [.int 0, .int 0, .int 0, .int 0, .int 0, .ref r18, .ref r19, .ref r20, .ref r21, .ref r22, .ref r23, .ref r24]))] sz)) 0 0 (va_A [(h0, .inr (11, [.ref r0, .int 0, .ref r1, .ref r2, .ref r3, .ref h3, .ref r4, .ref h1, .ref r5, .ref r6, .ref r7, .ref r8])), (h1, .inr (3, [.int 0, .int 0, .ref r9, .ref r10, .ref r11, .ref r12, .ref h3, .ref h2, .ref r13])), (h2, .inl (k0, 122, .inr (.inr (.inr (.inr f0))))), (h3, .inr (2, [.int 0, .int 0, .int 0, .int 0, .int 0, .ref r18, .ref r19, .ref r20, .ref r21, .ref r22, .ref r23, .ref r24]))] sz) := by
  refine zOfW (QF := fun A => va_Qi (fun (r : Int32) (u : Unit) => r = (-2)) (zB D A (fun (u : Unit) => match u with | _ => []) (fun (u : Unit) => match u with | _ => [])) A) (cc := cX11_move) (maxL := 6) (ret := (some .int)) (by decide) rfl (Nat.le_of_ble_eq_true rfl) ?_
  intro p e s m below meth c A ls hx hb hr hml hts hown hlocks hin hA hS hP hD hK hN hl
  have hl : lv_has ls 6 [(0, .ref h0), (1, .int x0), (2, .int x1), (3, .int x2)] := hl
  refine lv_iload_n hx hb dX11_move_0 rfl (lv_at hl 1 rfl) ?_
  refine zA_i (zR_S (As := [.int x0]) (rest := []) ⟨hx, hb, hml, hown, hts⟩ (zX11_isKeeper_4 l D x0 _ hx0) (va_cwS 1 hts gX11_move_X11_isKeeper rfl rfl rfl (by decide +kernel) ⟨(Nat.le_of_ble_eq_true rfl), (Nat.le_of_ble_eq_true rfl)⟩) hP hD hK hN [] [] rfl (by decide) rfl rfl hl.1 rfl (Nat.le_of_ble_eq_true rfl) dX11_move_1 ⟨(Nat.le_of_ble_eq_true rfl), (Nat.le_of_ble_eq_true rfl)⟩) hP hD hK hS hA [] [0, 1, 2, 3] rfl rfl (by decide) (by decide) (fun r_160 u H locs hw hP hD hK hS => ?_)
  have hK : va_K D vwCl [(k0, .object RX4)] s := hK
  have hP : va_P D vwCl [(h0, .inr (11, [.ref r0, .int 0, .ref r1, .ref r2, .ref r3, .ref h3, .ref r4, .ref h1, .ref r5, .ref r6, .ref r7, .ref r8])), (h1, .inr (3, [.int 0, .int 0, .ref r9, .ref r10, .ref r11, .ref r12, .ref h3, .ref h2, .ref r13])), (h2, .inl (k0, 122, .inr (.inr (.inr (.inr f0))))), (h3, .inr (2, [.int 0, .int 0, .int 0, .int 0, .int 0, .ref r18, .ref r19, .ref r20, .ref r21, .ref r22, .ref r23, .ref r24]))] H := hP
  have hD : va_D A [(h0, .inr (11, [.ref r0, .int 0, .ref r1, .ref r2, .ref r3, .ref h3, .ref r4, .ref h1, .ref r5, .ref r6, .ref r7, .ref r8])), (h1, .inr (3, [.int 0, .int 0, .ref r9, .ref r10, .ref r11, .ref r12, .ref h3, .ref h2, .ref r13])), (h2, .inl (k0, 122, .inr (.inr (.inr (.inr f0))))), (h3, .inr (2, [.int 0, .int 0, .int 0, .int 0, .int 0, .ref r18, .ref r19, .ref r20, .ref r21, .ref r22, .ref r23, .ref r24]))] := hD
  refine W.widen (k := 0) (n := 0) (Nat.le_of_ble_eq_true rfl) (Nat.le_of_ble_eq_true rfl) ?_
  have er : r_160 = 0 := hw
  refine z_top (y := 0) er ?_
  refine lv_if_eq (tgt := 16) hx hb dX11_move_4 (by decide) (fun _ => ?_) (fun h9 => absurd (by decide) h9)
  refine lv_bipush (v := (-2)) hx hb dX11_move_16 (by decide) ?_
  exact zret_i hx hb hr hlocks hP hD hK hS () (rfl) [] [] (by decide) rfl rfl (Nat.le_of_ble_eq_true rfl) (Nat.le_of_ble_eq_true rfl) dX11_move_18
theorem aX11_move (l : Launch) (D : va_G) (h0 h1 h2 h3 r0 r1 r2 r3 r4 r5 r6 r7 r8 r9 r10 r11 r12 r13 r14 r15 r16 r17 r18 r19 r20 r21 r22 r23 r24 : Nat) (k0 : ClassId) (f0 : Nat → Option Nat) (x0 : Int32) (x1 : Int32) (x2 : Int32) (sz : Nat) (hf_f0_0 : f0 0 = some r14) (hf_f0_1 : f0 1 = some r15) (hf_f0_2 : f0 2 = some r16) (hf_f0_3 : f0 3 = some r17) : Met l yX11_move wsX11_move ({ frames := 2, cells := 0, slots := 0, locals := 47 }) (zPre D [.ref h0, .int x0, .int x1, .int x2] [(h0, .inr (11, [.ref r0, .int 0, .ref r1, .ref r2, .ref r3, .ref h3, .ref r4, .ref h1, .ref r5, .ref r6, .ref r7, .ref r8])), (h1, .inr (3, [.int 0, .int 0, .ref r9, .ref r10, .ref r11, .ref r12, .ref h3, .ref h2, .ref r13])), (h2, .inl (k0, 122, .inr (.inr (.inr (.inr f0))))), (h3, .inr (2, [.int 0, .int 0, .int 0, .int 0, .int 0, .ref r18, .ref r19, .ref r20, .ref r21, .ref r22, .ref r23, .ref r24]))] [(k0, .object RX4)] sz) ((fun A => va_Qi (fun (r : Int32) (u : Unit) => r = (-2)) (zB D A (fun (u : Unit) => match u with | _ => []) (fun (u : Unit) => match u with | _ => [])) A) (va_A [(h0, .inr (11, [.ref r0, .int 0, .ref r1, .ref r2, .ref r3, .ref h3, .ref r4, .ref h1, .ref r5, .ref r6, .ref r7, .ref r8])), (h1, .inr (3, [.int 0, .int 0, .ref r9, .ref r10, .ref r11, .ref r12, .ref h3, .ref h2, .ref r13])), (h2, .inl (k0, 122, .inr (.inr (.inr (.inr f0))))), (h3, .inr (2, [.int 0, .int 0, .int 0, .int 0, .int 0, .ref r18, .ref r19, .ref r20, .ref r21, .ref r22, .ref r23, .ref r24]))] sz)) 0 0 (va_A [(h0, .inr (11, [.ref r0, .int 0, .ref r1, .ref r2, .ref r3, .ref h3, .ref r4, .ref h1, .ref r5, .ref r6, .ref r7, .ref r8])), (h1, .inr (3, [.int 0, .int 0, .ref r9, .ref r10, .ref r11, .ref r12, .ref h3, .ref h2, .ref r13])), (h2, .inl (k0, 122, .inr (.inr (.inr (.inr f0))))), (h3, .inr (2, [.int 0, .int 0, .int 0, .int 0, .int 0, .ref r18, .ref r19, .ref r20, .ref r21, .ref r22, .ref r23, .ref r24]))] sz) := by
  rcases (show x0 = 0 ∨ x0 = 1 ∨ (-2147483648 ≤ x0.toInt ∧ x0.toInt ≤ -1) ∨ (2 ≤ x0.toInt ∧ x0.toInt ≤ 2147483647) from by simp only [fa_eq, zk_0, zk_1]; have := z_rng x0; omega) with rfl | rfl | b0 | b0
  ·
    have b1 := z_rng x1
    rcases (show (-2147483648 ≤ x2.toInt ∧ x2.toInt ≤ -1) ∨ (0 ≤ x2.toInt ∧ x2.toInt ≤ 2) ∨ (3 ≤ x2.toInt ∧ x2.toInt ≤ 2147483647) from by have := z_rng x2; omega) with b2 | b2 | b2
    ·
      exact aX11_move_c1 l D h0 h1 h2 h3 r0 r1 r2 r3 r4 r5 r6 r7 r8 r9 r10 r11 r12 r13 r14 r15 r16 r17 r18 r19 r20 r21 r22 r23 r24 k0 f0 x1 x2 _ hf_f0_0 hf_f0_1 hf_f0_2 hf_f0_3 b1 b2
    ·
      exact aX11_move_c2 l D h0 h1 h2 h3 r0 r1 r2 r3 r4 r5 r6 r7 r8 r9 r10 r11 r12 r13 r14 r15 r16 r17 r18 r19 r20 r21 r22 r23 r24 k0 f0 x1 x2 _ hf_f0_0 hf_f0_1 hf_f0_2 hf_f0_3 b1 b2
    ·
      exact aX11_move_c3 l D h0 h1 h2 h3 r0 r1 r2 r3 r4 r5 r6 r7 r8 r9 r10 r11 r12 r13 r14 r15 r16 r17 r18 r19 r20 r21 r22 r23 r24 k0 f0 x1 x2 _ hf_f0_0 hf_f0_1 hf_f0_2 hf_f0_3 b1 b2
  ·
    have b1 := z_rng x1
    rcases (show (-2147483648 ≤ x2.toInt ∧ x2.toInt ≤ -1) ∨ (0 ≤ x2.toInt ∧ x2.toInt ≤ 2) ∨ (3 ≤ x2.toInt ∧ x2.toInt ≤ 2147483647) from by have := z_rng x2; omega) with b2 | b2 | b2
    ·
      exact aX11_move_c4 l D h0 h1 h2 h3 r0 r1 r2 r3 r4 r5 r6 r7 r8 r9 r10 r11 r12 r13 r14 r15 r16 r17 r18 r19 r20 r21 r22 r23 r24 k0 f0 x1 x2 _ hf_f0_0 hf_f0_1 hf_f0_2 hf_f0_3 b1 b2
    ·
      exact aX11_move_c5 l D h0 h1 h2 h3 r0 r1 r2 r3 r4 r5 r6 r7 r8 r9 r10 r11 r12 r13 r14 r15 r16 r17 r18 r19 r20 r21 r22 r23 r24 k0 f0 x1 x2 _ hf_f0_0 hf_f0_1 hf_f0_2 hf_f0_3 b1 b2
    ·
      exact aX11_move_c6 l D h0 h1 h2 h3 r0 r1 r2 r3 r4 r5 r6 r7 r8 r9 r10 r11 r12 r13 r14 r15 r16 r17 r18 r19 r20 r21 r22 r23 r24 k0 f0 x1 x2 _ hf_f0_0 hf_f0_1 hf_f0_2 hf_f0_3 b1 b2
  ·
    have b1 := z_rng x1
    rcases (show (-2147483648 ≤ x2.toInt ∧ x2.toInt ≤ -1) ∨ (0 ≤ x2.toInt ∧ x2.toInt ≤ 2) ∨ (3 ≤ x2.toInt ∧ x2.toInt ≤ 2147483647) from by have := z_rng x2; omega) with b2 | b2 | b2
    ·
      exact aX11_move_c7 l D h0 h1 h2 h3 r0 r1 r2 r3 r4 r5 r6 r7 r8 r9 r10 r11 r12 r13 r14 r15 r16 r17 r18 r19 r20 r21 r22 r23 r24 k0 f0 x0 x1 x2 _ hf_f0_0 hf_f0_1 hf_f0_2 hf_f0_3 b0 b1 b2
    ·
      exact aX11_move_c8 l D h0 h1 h2 h3 r0 r1 r2 r3 r4 r5 r6 r7 r8 r9 r10 r11 r12 r13 r14 r15 r16 r17 r18 r19 r20 r21 r22 r23 r24 k0 f0 x0 x1 x2 _ hf_f0_0 hf_f0_1 hf_f0_2 hf_f0_3 b0 b1 b2
    ·
      exact aX11_move_c9 l D h0 h1 h2 h3 r0 r1 r2 r3 r4 r5 r6 r7 r8 r9 r10 r11 r12 r13 r14 r15 r16 r17 r18 r19 r20 r21 r22 r23 r24 k0 f0 x0 x1 x2 _ hf_f0_0 hf_f0_1 hf_f0_2 hf_f0_3 b0 b1 b2
  ·
    have b1 := z_rng x1
    rcases (show (-2147483648 ≤ x2.toInt ∧ x2.toInt ≤ -1) ∨ (0 ≤ x2.toInt ∧ x2.toInt ≤ 2) ∨ (3 ≤ x2.toInt ∧ x2.toInt ≤ 2147483647) from by have := z_rng x2; omega) with b2 | b2 | b2
    ·
      exact aX11_move_c10 l D h0 h1 h2 h3 r0 r1 r2 r3 r4 r5 r6 r7 r8 r9 r10 r11 r12 r13 r14 r15 r16 r17 r18 r19 r20 r21 r22 r23 r24 k0 f0 x0 x1 x2 _ hf_f0_0 hf_f0_1 hf_f0_2 hf_f0_3 b0 b1 b2
    ·
      exact aX11_move_c11 l D h0 h1 h2 h3 r0 r1 r2 r3 r4 r5 r6 r7 r8 r9 r10 r11 r12 r13 r14 r15 r16 r17 r18 r19 r20 r21 r22 r23 r24 k0 f0 x0 x1 x2 _ hf_f0_0 hf_f0_1 hf_f0_2 hf_f0_3 b0 b1 b2
    ·
      exact aX11_move_c12 l D h0 h1 h2 h3 r0 r1 r2 r3 r4 r5 r6 r7 r8 r9 r10 r11 r12 r13 r14 r15 r16 r17 r18 r19 r20 r21 r22 r23 r24 k0 f0 x0 x1 x2 _ hf_f0_0 hf_f0_1 hf_f0_2 hf_f0_3 b0 b1 b2
set_option maxHeartbeats 4000000 in
set_option maxRecDepth 100000 in
theorem zX2_canMove_1 (l : Launch) (D : va_G) (h0 r0 r1 r2 r3 r4 r5 r6 r7 : Nat) (sz : Nat) : Met l yX2_canMove wsX2_canMove ({ frames := 0, cells := 0, slots := 0, locals := 0 }) (zPre D [.ref h0, .ref r0] [(h0, .inr (2, [.int 0, .int 0, .int 0, .int 0, .int 0, .ref r1, .ref r2, .ref r3, .ref r4, .ref r5, .ref r6, .ref r7]))] [] sz) ((fun A => va_Qi (fun (r : Int32) (u : Unit) => r = 0) (zB D A (fun (u : Unit) => match u with | _ => [(h0, .inr (2, [.int 0, .int 0, .int 0, .int 0, .int 0, .ref r1, .ref r2, .ref r3, .ref r4, .ref r5, .ref r6, .ref r7]))]) (fun (u : Unit) => match u with | _ => [])) A) (va_A [(h0, .inr (2, [.int 0, .int 0, .int 0, .int 0, .int 0, .ref r1, .ref r2, .ref r3, .ref r4, .ref r5, .ref r6, .ref r7]))] sz)) 0 0 (va_A [(h0, .inr (2, [.int 0, .int 0, .int 0, .int 0, .int 0, .ref r1, .ref r2, .ref r3, .ref r4, .ref r5, .ref r6, .ref r7]))] sz) := by
  refine zOfW (QF := fun A => va_Qi (fun (r : Int32) (u : Unit) => r = 0) (zB D A (fun (u : Unit) => match u with | _ => [(h0, .inr (2, [.int 0, .int 0, .int 0, .int 0, .int 0, .ref r1, .ref r2, .ref r3, .ref r4, .ref r5, .ref r6, .ref r7]))]) (fun (u : Unit) => match u with | _ => [])) A) (cc := cX2_canMove) (maxL := 3) (ret := (some .boolean)) (by decide) rfl (Nat.le_of_ble_eq_true rfl) ?_
  intro p e s m below meth c A ls hx hb hr hml hts hown hlocks hin hA hS hP hD hK hN hl
  have hl : lv_has ls 3 [(0, .ref h0), (1, .ref r0)] := hl
  refine lv_iconst (v := 0) hx hb dX2_canMove_0 (by decide) ?_
  refine lv_istore_n (lv' := [(2, .int 0), (0, .ref h0), (1, .ref r0)]) hx hb dX2_canMove_1 rfl hl (by decide) rfl (fun ls hl => ?_)
  refine lv_iload_n hx hb dX2_canMove_2 rfl (lv_at hl 0 rfl) ?_
  refine lv_aload_n hx hb dX2_canMove_3 rfl (lv_at hl 1 rfl) ?_
  refine va_get (D := D) (ci := 2) (v := .int 0) (C := RX2) (T := TX2) (N := 12) hx hb hts iuX2_canMove_X2 hown hK hP 0 rfl rfl 0 (by decide) (hts (.fieldLink RX2 9 "StraitGame$Laws" "squares" "I") (List.mem_of_getElem? (i := 1) rfl)) (fun _ h9 => h9) rfl dX2_canMove_4 ?_
  refine lv_icmp_ge (tgt := 27) hx hb dX2_canMove_7 (by decide) (fun _ => ?_) (fun h9 => absurd (by decide) h9)
  refine lv_iconst (v := 0) hx hb dX2_canMove_27 (by decide) ?_
  exact zret_z hx hb hr (by decide) hlocks hP hD hK hS () rfl [0] [] (by decide) rfl rfl (Nat.le_of_ble_eq_true rfl) (Nat.le_of_ble_eq_true rfl) dX2_canMove_28
set_option maxHeartbeats 4000000 in
set_option maxRecDepth 100000 in
theorem zX2_loser_1 (l : Launch) (D : va_G) (h0 h1 r0 r1 r2 r3 r4 r5 r6 : Nat) (sz : Nat) : Met l yX2_loser wsX2_loser ({ frames := 1, cells := 0, slots := 0, locals := 22 }) (zPre D [.ref h0, .ref h1] [(h0, .inr (2, [.int 0, .int 0, .int 0, .int 0, .int 0, .ref r0, .ref r1, .ref r2, .ref r3, .ref r4, .ref r5, .ref r6])), (h1, .inr (4, [.int 0, .int 0, .int 0, .int 0, .int 0, .int 0, .int 0]))] [] sz) ((fun A => va_Qi (fun (r : Int32) (u : Unit) => r = 0) (zB D A (fun (u : Unit) => match u with | _ => [(h0, .inr (2, [.int 0, .int 0, .int 0, .int 0, .int 0, .ref r0, .ref r1, .ref r2, .ref r3, .ref r4, .ref r5, .ref r6])), (h1, .inr (4, [.int 0, .int 0, .int 0, .int 0, .int 0, .int 0, .int 0]))]) (fun (u : Unit) => match u with | _ => [])) A) (va_A [(h0, .inr (2, [.int 0, .int 0, .int 0, .int 0, .int 0, .ref r0, .ref r1, .ref r2, .ref r3, .ref r4, .ref r5, .ref r6])), (h1, .inr (4, [.int 0, .int 0, .int 0, .int 0, .int 0, .int 0, .int 0]))] sz)) 0 0 (va_A [(h0, .inr (2, [.int 0, .int 0, .int 0, .int 0, .int 0, .ref r0, .ref r1, .ref r2, .ref r3, .ref r4, .ref r5, .ref r6])), (h1, .inr (4, [.int 0, .int 0, .int 0, .int 0, .int 0, .int 0, .int 0]))] sz) := by
  refine zOfW (QF := fun A => va_Qi (fun (r : Int32) (u : Unit) => r = 0) (zB D A (fun (u : Unit) => match u with | _ => [(h0, .inr (2, [.int 0, .int 0, .int 0, .int 0, .int 0, .ref r0, .ref r1, .ref r2, .ref r3, .ref r4, .ref r5, .ref r6])), (h1, .inr (4, [.int 0, .int 0, .int 0, .int 0, .int 0, .int 0, .int 0]))]) (fun (u : Unit) => match u with | _ => [])) A) (cc := cX2_loser) (maxL := 3) (ret := (some .int)) (by decide) rfl (Nat.le_of_ble_eq_true rfl) ?_
  intro p e s m below meth c A ls hx hb hr hml hts hown hlocks hin hA hS hP hD hK hN hl
  have hl : lv_has ls 3 [(0, .ref h0), (1, .ref h1)] := hl
  refine lv_aload_n hx hb dX2_loser_0 rfl (lv_at hl 0 rfl) ?_
  refine lv_aload_n hx hb dX2_loser_1 rfl (lv_at hl 1 rfl) ?_
  refine zA_i (zR_V (As := [.ref h1]) (rest := []) ⟨hx, hb, hml, hown, hts⟩ (zX2_kingless_1 l D h0 h1 r0 r1 r2 r3 r4 r5 r6 _) (cwV 1 hts gX2_loser_X2_kingless rfl rfl rfl (by decide +kernel) ⟨(Nat.le_of_ble_eq_true rfl), (Nat.le_of_ble_eq_true rfl)⟩) hP hD hK hN [0] [] rfl (by decide) rfl 0 2 rfl rfl rfl hl.1 rfl (Nat.le_of_ble_eq_true rfl) dX2_loser_2 ⟨(Nat.le_of_ble_eq_true rfl), (Nat.le_of_ble_eq_true rfl)⟩) hP hD hK hS hA [0] [1] rfl rfl (by decide) (by decide) (fun r_166 u H locs hw hP hD hK hS => ?_)
  have hK : va_K D vwCl [] s := hK
  have hP : va_P D vwCl [(h1, .inr (4, [.int 0, .int 0, .int 0, .int 0, .int 0, .int 0, .int 0])), (h0, .inr (2, [.int 0, .int 0, .int 0, .int 0, .int 0, .ref r0, .ref r1, .ref r2, .ref r3, .ref r4, .ref r5, .ref r6]))] H := hP
  have hD : va_D A [(h1, .inr (4, [.int 0, .int 0, .int 0, .int 0, .int 0, .int 0, .int 0])), (h0, .inr (2, [.int 0, .int 0, .int 0, .int 0, .int 0, .ref r0, .ref r1, .ref r2, .ref r3, .ref r4, .ref r5, .ref r6]))] := hD
  refine W.widen (k := 0) (n := 0) (Nat.le_of_ble_eq_true rfl) (Nat.le_of_ble_eq_true rfl) ?_
  have er : r_166 = (-1) := hw
  refine z_top (y := (-1)) er ?_
  refine lv_istore_n (lv' := [(2, .int (-1)), (0, .ref h0), (1, .ref h1)]) hx hb dX2_loser_5 rfl hl (by decide) rfl (fun ls hl => ?_)
  refine lv_iload_n hx hb dX2_loser_6 rfl (lv_at hl 0 rfl) ?_
  refine lv_iconst (v := (-1)) hx hb dX2_loser_7 (by decide) ?_
  refine lv_icmp_eq (tgt := 13) hx hb dX2_loser_8 (by decide) (fun _ => ?_) (fun h9 => absurd (by decide) h9)
  refine lv_aload_n hx hb dX2_loser_13 rfl (lv_at hl 1 rfl) ?_
  refine lv_aload_n hx hb dX2_loser_14 rfl (lv_at hl 2 rfl) ?_
  refine zA_i (zR_V (As := [.ref h1]) (rest := []) ⟨hx, hb, hml, hown, hts⟩ (zX2_canMove_1 l D h0 h1 r0 r1 r2 r3 r4 r5 r6 _) (cwV 1 hts gX2_loser_X2_canMove rfl rfl rfl (by decide +kernel) ⟨(Nat.le_of_ble_eq_true rfl), (Nat.le_of_ble_eq_true rfl)⟩) hP hD hK hN [1] [] rfl (by decide) rfl 0 2 rfl rfl rfl hl.1 rfl (Nat.le_of_ble_eq_true rfl) dX2_loser_15 ⟨(Nat.le_of_ble_eq_true rfl), (Nat.le_of_ble_eq_true rfl)⟩) hP hD hK hS hA [1] [0] rfl rfl (by decide) (by decide) (fun r_167 u H locs hw hP hD hK hS => ?_)
  have hK : va_K D vwCl [] s := hK
  have hP : va_P D vwCl [(h1, .inr (4, [.int 0, .int 0, .int 0, .int 0, .int 0, .int 0, .int 0])), (h0, .inr (2, [.int 0, .int 0, .int 0, .int 0, .int 0, .ref r0, .ref r1, .ref r2, .ref r3, .ref r4, .ref r5, .ref r6]))] H := hP
  have hD : va_D A [(h1, .inr (4, [.int 0, .int 0, .int 0, .int 0, .int 0, .int 0, .int 0])), (h0, .inr (2, [.int 0, .int 0, .int 0, .int 0, .int 0, .ref r0, .ref r1, .ref r2, .ref r3, .ref r4, .ref r5, .ref r6]))] := hD
  refine W.widen (k := 0) (n := 0) (Nat.le_of_ble_eq_true rfl) (Nat.le_of_ble_eq_true rfl) ?_
  have er : r_167 = 0 := hw
  refine z_top (y := 0) er ?_
  refine lv_if_eq (tgt := 25) hx hb dX2_loser_18 (by decide) (fun _ => ?_) (fun h9 => absurd (by decide) h9)
  refine lv_aload_n hx hb dX2_loser_25 rfl (lv_at hl 2 rfl) ?_
  refine va_get (D := D) (ci := 4) (v := .int 0) (C := RX4) (T := TX4) (N := 7) hx hb hts iuX2_loser_X4 hown hK hP 0 rfl rfl 0 (by decide) (hts (.fieldLink RX2 123 "StraitGame$Position" "toMove" "I") (List.mem_of_getElem? (i := 1) rfl)) (fun _ h9 => h9) rfl dX2_loser_26 ?_
  exact zret_i hx hb hr hlocks hP hD hK hS () rfl [1, 0] [] (by decide) rfl rfl (Nat.le_of_ble_eq_true rfl) (Nat.le_of_ble_eq_true rfl) dX2_loser_29
