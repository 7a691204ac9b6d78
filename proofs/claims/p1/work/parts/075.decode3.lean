theorem dLa_end_0 : decode cLa_end 0 = .ok (.aload_n 2, 1) := by decide +kernel
theorem dLa_end_1 : decode cLa_end 1 = .ok (.iconst 0, 1) := by decide +kernel
theorem dLa_end_2 : decode cLa_end 2 = .ok (.aload_n 0, 1) := by decide +kernel
theorem dLa_end_3 : decode cLa_end 3 = .ok (.iload_n 1, 1) := by decide +kernel
theorem dLa_end_4 : decode cLa_end 4 = .ok (.invokevirtual 15, 3) := by decide +kernel
theorem dLa_end_7 : decode cLa_end 7 = .ok (.i2l, 1) := by decide +kernel
theorem dLa_end_8 : decode cLa_end 8 = .ok (.lastore, 1) := by decide +kernel
theorem dLa_end_9 : decode cLa_end 9 = .ok (.goto 6, 3) := by decide +kernel
theorem dLa_end_12 : decode cLa_end 12 = .ok (.astore_n 3, 1) := by decide +kernel
theorem dLa_end_13 : decode cLa_end 13 = .ok (.iconst 1, 1) := by decide +kernel
theorem dLa_end_14 : decode cLa_end 14 = .ok (.ireturn, 1) := by decide +kernel
theorem dLa_end_15 : decode cLa_end 15 = .ok (.iconst 0, 1) := by decide +kernel
theorem dLa_end_16 : decode cLa_end 16 = .ok (.ireturn, 1) := by decide +kernel
theorem dLa_breaks_0 : decode cLa_breaks 0 = .ok (.aload_n 2, 1) := by decide +kernel
theorem dLa_breaks_1 : decode cLa_breaks 1 = .ok (.iconst 0, 1) := by decide +kernel
theorem dLa_breaks_2 : decode cLa_breaks 2 = .ok (.aload_n 0, 1) := by decide +kernel
theorem dLa_breaks_3 : decode cLa_breaks 3 = .ok (.iload_n 1, 1) := by decide +kernel
theorem dLa_breaks_4 : decode cLa_breaks 4 = .ok (.invokevirtual 21, 3) := by decide +kernel
theorem dLa_breaks_7 : decode cLa_breaks 7 = .ok (.i2l, 1) := by decide +kernel
theorem dLa_breaks_8 : decode cLa_breaks 8 = .ok (.lastore, 1) := by decide +kernel
theorem dLa_breaks_9 : decode cLa_breaks 9 = .ok (.goto 6, 3) := by decide +kernel
theorem dLa_breaks_12 : decode cLa_breaks 12 = .ok (.astore_n 3, 1) := by decide +kernel
theorem dLa_breaks_13 : decode cLa_breaks 13 = .ok (.iconst 1, 1) := by decide +kernel
theorem dLa_breaks_14 : decode cLa_breaks 14 = .ok (.ireturn, 1) := by decide +kernel
theorem dLa_breaks_15 : decode cLa_breaks 15 = .ok (.iconst 0, 1) := by decide +kernel
theorem dLa_breaks_16 : decode cLa_breaks 16 = .ok (.ireturn, 1) := by decide +kernel
theorem dLa_reaches_0 : decode cLa_reaches 0 = .ok (.aload_n 2, 1) := by decide +kernel
theorem dLa_reaches_1 : decode cLa_reaches 1 = .ok (.iconst 0, 1) := by decide +kernel
theorem dLa_reaches_2 : decode cLa_reaches 2 = .ok (.aload_n 0, 1) := by decide +kernel
theorem dLa_reaches_3 : decode cLa_reaches 3 = .ok (.iload_n 1, 1) := by decide +kernel
theorem dLa_reaches_4 : decode cLa_reaches 4 = .ok (.invokevirtual 26, 3) := by decide +kernel
theorem dLa_reaches_7 : decode cLa_reaches 7 = .ok (.i2l, 1) := by decide +kernel
theorem dLa_reaches_8 : decode cLa_reaches 8 = .ok (.lastore, 1) := by decide +kernel
theorem dLa_reaches_9 : decode cLa_reaches 9 = .ok (.goto 6, 3) := by decide +kernel
theorem dLa_reaches_12 : decode cLa_reaches 12 = .ok (.astore_n 3, 1) := by decide +kernel
theorem dLa_reaches_13 : decode cLa_reaches 13 = .ok (.iconst 1, 1) := by decide +kernel
theorem dLa_reaches_14 : decode cLa_reaches 14 = .ok (.ireturn, 1) := by decide +kernel
theorem dLa_reaches_15 : decode cLa_reaches 15 = .ok (.iconst 0, 1) := by decide +kernel
theorem dLa_reaches_16 : decode cLa_reaches 16 = .ok (.ireturn, 1) := by decide +kernel
theorem dLa_ends_0 : decode cLa_ends 0 = .ok (.aload 4, 2) := by decide +kernel
theorem dLa_ends_2 : decode cLa_ends 2 = .ok (.iconst 0, 1) := by decide +kernel
theorem dLa_ends_3 : decode cLa_ends 3 = .ok (.aload_n 0, 1) := by decide +kernel
theorem dLa_ends_4 : decode cLa_ends 4 = .ok (.iload_n 1, 1) := by decide +kernel
theorem dLa_ends_5 : decode cLa_ends 5 = .ok (.iload_n 2, 1) := by decide +kernel
theorem dLa_ends_6 : decode cLa_ends 6 = .ok (.iload_n 3, 1) := by decide +kernel
theorem dLa_ends_7 : decode cLa_ends 7 = .ok (.invokevirtual 29, 3) := by decide +kernel
theorem dLa_ends_10 : decode cLa_ends 10 = .ok (.i2l, 1) := by decide +kernel
theorem dLa_ends_11 : decode cLa_ends 11 = .ok (.lastore, 1) := by decide +kernel
theorem dLa_ends_12 : decode cLa_ends 12 = .ok (.goto 7, 3) := by decide +kernel
theorem dLa_ends_15 : decode cLa_ends 15 = .ok (.astore 5, 2) := by decide +kernel
theorem dLa_ends_17 : decode cLa_ends 17 = .ok (.iconst 1, 1) := by decide +kernel
theorem dLa_ends_18 : decode cLa_ends 18 = .ok (.ireturn, 1) := by decide +kernel
theorem dLa_ends_19 : decode cLa_ends 19 = .ok (.iconst 0, 1) := by decide +kernel
theorem dLa_ends_20 : decode cLa_ends 20 = .ok (.ireturn, 1) := by decide +kernel
theorem dLa_check_0 : decode cLa_check 0 = .ok (.aload_n 3, 1) := by decide +kernel
theorem dLa_check_1 : decode cLa_check 1 = .ok (.iconst 0, 1) := by decide +kernel
theorem dLa_check_2 : decode cLa_check 2 = .ok (.aload_n 0, 1) := by decide +kernel
theorem dLa_check_3 : decode cLa_check 3 = .ok (.iload_n 1, 1) := by decide +kernel
theorem dLa_check_4 : decode cLa_check 4 = .ok (.iload_n 2, 1) := by decide +kernel
theorem dLa_check_5 : decode cLa_check 5 = .ok (.invokevirtual 33, 3) := by decide +kernel
theorem dLa_check_8 : decode cLa_check 8 = .ok (.i2l, 1) := by decide +kernel
theorem dLa_check_9 : decode cLa_check 9 = .ok (.lastore, 1) := by decide +kernel
theorem dLa_check_10 : decode cLa_check 10 = .ok (.goto 11, 3) := by decide +kernel
theorem dLa_check_13 : decode cLa_check 13 = .ok (.astore 4, 2) := by decide +kernel
theorem dLa_check_15 : decode cLa_check 15 = .ok (.iconst 1, 1) := by decide +kernel
theorem dLa_check_16 : decode cLa_check 16 = .ok (.ireturn, 1) := by decide +kernel
theorem dLa_check_17 : decode cLa_check 17 = .ok (.astore 4, 2) := by decide +kernel
theorem dLa_check_19 : decode cLa_check 19 = .ok (.iconst 2, 1) := by decide +kernel
theorem dLa_check_20 : decode cLa_check 20 = .ok (.ireturn, 1) := by decide +kernel
theorem dLa_check_21 : decode cLa_check 21 = .ok (.iconst 0, 1) := by decide +kernel
theorem dLa_check_22 : decode cLa_check 22 = .ok (.ireturn, 1) := by decide +kernel
theorem dLa_input_0 : decode cLa_input 0 = .ok (.aload_n 2, 1) := by decide +kernel
theorem dLa_input_1 : decode cLa_input 1 = .ok (.iconst 0, 1) := by decide +kernel
theorem dLa_input_2 : decode cLa_input 2 = .ok (.aload_n 0, 1) := by decide +kernel
theorem dLa_input_3 : decode cLa_input 3 = .ok (.iload_n 1, 1) := by decide +kernel
theorem dLa_input_4 : decode cLa_input 4 = .ok (.invokevirtual 37, 3) := by decide +kernel
theorem dLa_input_7 : decode cLa_input 7 = .ok (.i2l, 1) := by decide +kernel
theorem dLa_input_8 : decode cLa_input 8 = .ok (.lastore, 1) := by decide +kernel
theorem dLa_input_9 : decode cLa_input 9 = .ok (.goto 6, 3) := by decide +kernel
theorem dLa_input_12 : decode cLa_input 12 = .ok (.astore_n 3, 1) := by decide +kernel
theorem dLa_input_13 : decode cLa_input 13 = .ok (.iconst 1, 1) := by decide +kernel
theorem dLa_input_14 : decode cLa_input 14 = .ok (.ireturn, 1) := by decide +kernel
theorem dLa_input_15 : decode cLa_input 15 = .ok (.iconst 0, 1) := by decide +kernel
theorem dLa_input_16 : decode cLa_input 16 = .ok (.ireturn, 1) := by decide +kernel
theorem dLa_put_0 : decode cLa_put 0 = .ok (.aload_n 3, 1) := by decide +kernel
theorem dLa_put_1 : decode cLa_put 1 = .ok (.iconst 0, 1) := by decide +kernel
theorem dLa_put_2 : decode cLa_put 2 = .ok (.aload_n 0, 1) := by decide +kernel
theorem dLa_put_3 : decode cLa_put 3 = .ok (.iload_n 1, 1) := by decide +kernel
theorem dLa_put_4 : decode cLa_put 4 = .ok (.iload_n 2, 1) := by decide +kernel
theorem dLa_put_5 : decode cLa_put 5 = .ok (.invokevirtual 40, 3) := by decide +kernel
theorem dLa_put_8 : decode cLa_put 8 = .ok (.i2l, 1) := by decide +kernel
theorem dLa_put_9 : decode cLa_put 9 = .ok (.lastore, 1) := by decide +kernel
theorem dLa_put_10 : decode cLa_put 10 = .ok (.goto 11, 3) := by decide +kernel
theorem dLa_put_13 : decode cLa_put 13 = .ok (.astore 4, 2) := by decide +kernel
theorem dLa_put_15 : decode cLa_put 15 = .ok (.iconst 1, 1) := by decide +kernel
theorem dLa_put_16 : decode cLa_put 16 = .ok (.ireturn, 1) := by decide +kernel
theorem dLa_put_17 : decode cLa_put 17 = .ok (.astore 4, 2) := by decide +kernel
theorem dLa_put_19 : decode cLa_put 19 = .ok (.iconst 2, 1) := by decide +kernel
theorem dLa_put_20 : decode cLa_put 20 = .ok (.ireturn, 1) := by decide +kernel
theorem dLa_put_21 : decode cLa_put 21 = .ok (.iconst 0, 1) := by decide +kernel
theorem dLa_put_22 : decode cLa_put 22 = .ok (.ireturn, 1) := by decide +kernel
theorem dLa_value_0 : decode cLa_value 0 = .ok (.aload_n 3, 1) := by decide +kernel
theorem dLa_value_1 : decode cLa_value 1 = .ok (.iconst 0, 1) := by decide +kernel
theorem dLa_value_2 : decode cLa_value 2 = .ok (.aload_n 0, 1) := by decide +kernel
theorem dLa_value_3 : decode cLa_value 3 = .ok (.iload_n 1, 1) := by decide +kernel
theorem dLa_value_4 : decode cLa_value 4 = .ok (.iload_n 2, 1) := by decide +kernel
theorem dLa_value_5 : decode cLa_value 5 = .ok (.invokevirtual 43, 3) := by decide +kernel
theorem dLa_value_8 : decode cLa_value 8 = .ok (.i2l, 1) := by decide +kernel
theorem dLa_value_9 : decode cLa_value 9 = .ok (.lastore, 1) := by decide +kernel
theorem dLa_value_10 : decode cLa_value 10 = .ok (.goto 7, 3) := by decide +kernel
theorem dLa_value_13 : decode cLa_value 13 = .ok (.astore 4, 2) := by decide +kernel
theorem dLa_value_15 : decode cLa_value 15 = .ok (.iconst 1, 1) := by decide +kernel
theorem dLa_value_16 : decode cLa_value 16 = .ok (.ireturn, 1) := by decide +kernel
theorem dLa_value_17 : decode cLa_value 17 = .ok (.iconst 0, 1) := by decide +kernel
theorem dLa_value_18 : decode cLa_value 18 = .ok (.ireturn, 1) := by decide +kernel
theorem dLa_feed_0 : decode cLa_feed 0 = .ok (.aload 6, 2) := by decide +kernel
theorem dLa_feed_2 : decode cLa_feed 2 = .ok (.iconst 0, 1) := by decide +kernel
theorem dLa_feed_3 : decode cLa_feed 3 = .ok (.aload_n 0, 1) := by decide +kernel
theorem dLa_feed_4 : decode cLa_feed 4 = .ok (.iload_n 1, 1) := by decide +kernel
theorem dLa_feed_5 : decode cLa_feed 5 = .ok (.iload_n 2, 1) := by decide +kernel
theorem dLa_feed_6 : decode cLa_feed 6 = .ok (.iload_n 3, 1) := by decide +kernel
theorem dLa_feed_7 : decode cLa_feed 7 = .ok (.iload 4, 2) := by decide +kernel
theorem dLa_feed_9 : decode cLa_feed 9 = .ok (.iload 5, 2) := by decide +kernel
theorem dLa_feed_11 : decode cLa_feed 11 = .ok (.invokevirtual 7, 3) := by decide +kernel
theorem dLa_feed_14 : decode cLa_feed 14 = .ok (.i2l, 1) := by decide +kernel
theorem dLa_feed_15 : decode cLa_feed 15 = .ok (.lastore, 1) := by decide +kernel
theorem dLa_feed_16 : decode cLa_feed 16 = .ok (.goto 7, 3) := by decide +kernel
theorem dLa_feed_19 : decode cLa_feed 19 = .ok (.astore 7, 2) := by decide +kernel
theorem dLa_feed_21 : decode cLa_feed 21 = .ok (.iconst 1, 1) := by decide +kernel
theorem dLa_feed_22 : decode cLa_feed 22 = .ok (.ireturn, 1) := by decide +kernel
theorem dLa_feed_23 : decode cLa_feed 23 = .ok (.iconst 0, 1) := by decide +kernel
theorem dLa_feed_24 : decode cLa_feed 24 = .ok (.ireturn, 1) := by decide +kernel
