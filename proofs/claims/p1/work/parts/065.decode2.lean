theorem dRp_reaches_0 : decode cRp_reaches 0 = .ok (.iload_n 1, 1) := by decide +kernel
theorem dRp_reaches_1 : decode cRp_reaches 1 = .ok (.ifCond .lt 14, 3) := by decide +kernel
theorem dRp_reaches_4 : decode cRp_reaches 4 = .ok (.iload_n 1, 1) := by decide +kernel
theorem dRp_reaches_5 : decode cRp_reaches 5 = .ok (.aload_n 0, 1) := by decide +kernel
theorem dRp_reaches_6 : decode cRp_reaches 6 = .ok (.getfield 17, 3) := by decide +kernel
theorem dRp_reaches_9 : decode cRp_reaches 9 = .ok (.getfield 142, 3) := by decide +kernel
theorem dRp_reaches_12 : decode cRp_reaches 12 = .ok (.if_icmp .lt 13, 3) := by decide +kernel
theorem dRp_reaches_15 : decode cRp_reaches 15 = .ok (.new 162, 3) := by decide +kernel
theorem dRp_reaches_18 : decode cRp_reaches 18 = .ok (.dup, 1) := by decide +kernel
theorem dRp_reaches_19 : decode cRp_reaches 19 = .ok (.ldc 164, 2) := by decide +kernel
theorem dRp_reaches_21 : decode cRp_reaches 21 = .ok (.invokespecial 166, 3) := by decide +kernel
theorem dRp_reaches_24 : decode cRp_reaches 24 = .ok (.athrow, 1) := by decide +kernel
theorem dRp_reaches_25 : decode cRp_reaches 25 = .ok (.aload_n 0, 1) := by decide +kernel
theorem dRp_reaches_26 : decode cRp_reaches 26 = .ok (.iconst 0, 1) := by decide +kernel
theorem dRp_reaches_27 : decode cRp_reaches 27 = .ok (.putfield 145, 3) := by decide +kernel
theorem dRp_reaches_30 : decode cRp_reaches 30 = .ok (.aload_n 0, 1) := by decide +kernel
theorem dRp_reaches_31 : decode cRp_reaches 31 = .ok (.aload_n 0, 1) := by decide +kernel
theorem dRp_reaches_32 : decode cRp_reaches 32 = .ok (.getfield 42, 3) := by decide +kernel
theorem dRp_reaches_35 : decode cRp_reaches 35 = .ok (.getfield 167, 3) := by decide +kernel
theorem dRp_reaches_38 : decode cRp_reaches 38 = .ok (.iload_n 1, 1) := by decide +kernel
theorem dRp_reaches_39 : decode cRp_reaches 39 = .ok (.iaload, 1) := by decide +kernel
theorem dRp_reaches_40 : decode cRp_reaches 40 = .ok (.invokevirtual 151, 3) := by decide +kernel
theorem dRp_reaches_43 : decode cRp_reaches 43 = .ok (.aload_n 0, 1) := by decide +kernel
theorem dRp_reaches_44 : decode cRp_reaches 44 = .ok (.iconst 1, 1) := by decide +kernel
theorem dRp_reaches_45 : decode cRp_reaches 45 = .ok (.invokevirtual 154, 3) := by decide +kernel
theorem dRp_reaches_48 : decode cRp_reaches 48 = .ok (.ifCond .eq 7, 3) := by decide +kernel
theorem dRp_reaches_51 : decode cRp_reaches 51 = .ok (.iconst 1, 1) := by decide +kernel
theorem dRp_reaches_52 : decode cRp_reaches 52 = .ok (.goto 4, 3) := by decide +kernel
theorem dRp_reaches_55 : decode cRp_reaches 55 = .ok (.iconst 0, 1) := by decide +kernel
theorem dRp_reaches_56 : decode cRp_reaches 56 = .ok (.ireturn, 1) := by decide +kernel
theorem dRp_check_0 : decode cRp_check 0 = .ok (.iload_n 1, 1) := by decide +kernel
theorem dRp_check_1 : decode cRp_check 1 = .ok (.ifCond .lt 14, 3) := by decide +kernel
theorem dRp_check_4 : decode cRp_check 4 = .ok (.iload_n 1, 1) := by decide +kernel
theorem dRp_check_5 : decode cRp_check 5 = .ok (.aload_n 0, 1) := by decide +kernel
theorem dRp_check_6 : decode cRp_check 6 = .ok (.getfield 17, 3) := by decide +kernel
theorem dRp_check_9 : decode cRp_check 9 = .ok (.getfield 142, 3) := by decide +kernel
theorem dRp_check_12 : decode cRp_check 12 = .ok (.if_icmp .lt 13, 3) := by decide +kernel
theorem dRp_check_15 : decode cRp_check 15 = .ok (.new 162, 3) := by decide +kernel
theorem dRp_check_18 : decode cRp_check 18 = .ok (.dup, 1) := by decide +kernel
theorem dRp_check_19 : decode cRp_check 19 = .ok (.ldc 164, 2) := by decide +kernel
theorem dRp_check_21 : decode cRp_check 21 = .ok (.invokespecial 166, 3) := by decide +kernel
theorem dRp_check_24 : decode cRp_check 24 = .ok (.athrow, 1) := by decide +kernel
theorem dRp_check_25 : decode cRp_check 25 = .ok (.iload_n 2, 1) := by decide +kernel
theorem dRp_check_26 : decode cRp_check 26 = .ok (.ifCond .eq 18, 3) := by decide +kernel
theorem dRp_check_29 : decode cRp_check 29 = .ok (.iload_n 2, 1) := by decide +kernel
theorem dRp_check_30 : decode cRp_check 30 = .ok (.iconst 1, 1) := by decide +kernel
theorem dRp_check_31 : decode cRp_check 31 = .ok (.if_icmp .eq 13, 3) := by decide +kernel
theorem dRp_check_34 : decode cRp_check 34 = .ok (.new 94, 3) := by decide +kernel
theorem dRp_check_37 : decode cRp_check 37 = .ok (.dup, 1) := by decide +kernel
theorem dRp_check_38 : decode cRp_check 38 = .ok (.ldc 190, 2) := by decide +kernel
theorem dRp_check_40 : decode cRp_check 40 = .ok (.invokespecial 98, 3) := by decide +kernel
theorem dRp_check_43 : decode cRp_check 43 = .ok (.athrow, 1) := by decide +kernel
theorem dRp_check_44 : decode cRp_check 44 = .ok (.iload_n 2, 1) := by decide +kernel
theorem dRp_check_45 : decode cRp_check 45 = .ok (.ifCond .ne 15, 3) := by decide +kernel
theorem dRp_check_48 : decode cRp_check 48 = .ok (.aload_n 0, 1) := by decide +kernel
theorem dRp_check_49 : decode cRp_check 49 = .ok (.getfield 17, 3) := by decide +kernel
theorem dRp_check_52 : decode cRp_check 52 = .ok (.getfield 192, 3) := by decide +kernel
theorem dRp_check_55 : decode cRp_check 55 = .ok (.iload_n 1, 1) := by decide +kernel
theorem dRp_check_56 : decode cRp_check 56 = .ok (.iaload, 1) := by decide +kernel
theorem dRp_check_57 : decode cRp_check 57 = .ok (.goto 12, 3) := by decide +kernel
theorem dRp_check_60 : decode cRp_check 60 = .ok (.aload_n 0, 1) := by decide +kernel
theorem dRp_check_61 : decode cRp_check 61 = .ok (.getfield 17, 3) := by decide +kernel
theorem dRp_check_64 : decode cRp_check 64 = .ok (.getfield 195, 3) := by decide +kernel
theorem dRp_check_67 : decode cRp_check 67 = .ok (.iload_n 1, 1) := by decide +kernel
theorem dRp_check_68 : decode cRp_check 68 = .ok (.iaload, 1) := by decide +kernel
theorem dRp_check_69 : decode cRp_check 69 = .ok (.ireturn, 1) := by decide +kernel
theorem dRp_input_0 : decode cRp_input 0 = .ok (.iload_n 1, 1) := by decide +kernel
theorem dRp_input_1 : decode cRp_input 1 = .ok (.ifCond .lt 14, 3) := by decide +kernel
theorem dRp_input_4 : decode cRp_input 4 = .ok (.iload_n 1, 1) := by decide +kernel
theorem dRp_input_5 : decode cRp_input 5 = .ok (.aload_n 0, 1) := by decide +kernel
theorem dRp_input_6 : decode cRp_input 6 = .ok (.getfield 42, 3) := by decide +kernel
theorem dRp_input_9 : decode cRp_input 9 = .ok (.getfield 198, 3) := by decide +kernel
theorem dRp_input_12 : decode cRp_input 12 = .ok (.if_icmp .lt 13, 3) := by decide +kernel
theorem dRp_input_15 : decode cRp_input 15 = .ok (.new 162, 3) := by decide +kernel
theorem dRp_input_18 : decode cRp_input 18 = .ok (.dup, 1) := by decide +kernel
theorem dRp_input_19 : decode cRp_input 19 = .ok (.ldc 201, 2) := by decide +kernel
theorem dRp_input_21 : decode cRp_input 21 = .ok (.invokespecial 166, 3) := by decide +kernel
theorem dRp_input_24 : decode cRp_input 24 = .ok (.athrow, 1) := by decide +kernel
theorem dRp_input_25 : decode cRp_input 25 = .ok (.aload_n 0, 1) := by decide +kernel
theorem dRp_input_26 : decode cRp_input 26 = .ok (.getfield 71, 3) := by decide +kernel
theorem dRp_input_29 : decode cRp_input 29 = .ok (.iload_n 1, 1) := by decide +kernel
theorem dRp_input_30 : decode cRp_input 30 = .ok (.iaload, 1) := by decide +kernel
theorem dRp_input_31 : decode cRp_input 31 = .ok (.ireturn, 1) := by decide +kernel
theorem dRp_put_0 : decode cRp_put 0 = .ok (.iload_n 1, 1) := by decide +kernel
theorem dRp_put_1 : decode cRp_put 1 = .ok (.ifCond .lt 14, 3) := by decide +kernel
theorem dRp_put_4 : decode cRp_put 4 = .ok (.iload_n 1, 1) := by decide +kernel
theorem dRp_put_5 : decode cRp_put 5 = .ok (.aload_n 0, 1) := by decide +kernel
theorem dRp_put_6 : decode cRp_put 6 = .ok (.getfield 42, 3) := by decide +kernel
theorem dRp_put_9 : decode cRp_put 9 = .ok (.getfield 198, 3) := by decide +kernel
theorem dRp_put_12 : decode cRp_put 12 = .ok (.if_icmp .lt 13, 3) := by decide +kernel
theorem dRp_put_15 : decode cRp_put 15 = .ok (.new 162, 3) := by decide +kernel
theorem dRp_put_18 : decode cRp_put 18 = .ok (.dup, 1) := by decide +kernel
theorem dRp_put_19 : decode cRp_put 19 = .ok (.ldc 201, 2) := by decide +kernel
theorem dRp_put_21 : decode cRp_put 21 = .ok (.invokespecial 166, 3) := by decide +kernel
theorem dRp_put_24 : decode cRp_put 24 = .ok (.athrow, 1) := by decide +kernel
theorem dRp_put_25 : decode cRp_put 25 = .ok (.iload_n 2, 1) := by decide +kernel
theorem dRp_put_26 : decode cRp_put 26 = .ok (.ifCond .lt 18, 3) := by decide +kernel
theorem dRp_put_29 : decode cRp_put 29 = .ok (.iload_n 2, 1) := by decide +kernel
theorem dRp_put_30 : decode cRp_put 30 = .ok (.iconst 1, 1) := by decide +kernel
theorem dRp_put_31 : decode cRp_put 31 = .ok (.aload_n 0, 1) := by decide +kernel
theorem dRp_put_32 : decode cRp_put 32 = .ok (.getfield 42, 3) := by decide +kernel
theorem dRp_put_35 : decode cRp_put 35 = .ok (.getfield 203, 3) := by decide +kernel
theorem dRp_put_38 : decode cRp_put 38 = .ok (.iload_n 1, 1) := by decide +kernel
theorem dRp_put_39 : decode cRp_put 39 = .ok (.iaload, 1) := by decide +kernel
theorem dRp_put_40 : decode cRp_put 40 = .ok (.ishl, 1) := by decide +kernel
theorem dRp_put_41 : decode cRp_put 41 = .ok (.if_icmp .lt 13, 3) := by decide +kernel
theorem dRp_put_44 : decode cRp_put 44 = .ok (.new 94, 3) := by decide +kernel
theorem dRp_put_47 : decode cRp_put 47 = .ok (.dup, 1) := by decide +kernel
theorem dRp_put_48 : decode cRp_put 48 = .ok (.ldc 206, 2) := by decide +kernel
theorem dRp_put_50 : decode cRp_put 50 = .ok (.invokespecial 98, 3) := by decide +kernel
theorem dRp_put_53 : decode cRp_put 53 = .ok (.athrow, 1) := by decide +kernel
theorem dRp_put_54 : decode cRp_put 54 = .ok (.aload_n 0, 1) := by decide +kernel
theorem dRp_put_55 : decode cRp_put 55 = .ok (.getfield 71, 3) := by decide +kernel
theorem dRp_put_58 : decode cRp_put 58 = .ok (.iload_n 1, 1) := by decide +kernel
theorem dRp_put_59 : decode cRp_put 59 = .ok (.iaload, 1) := by decide +kernel
theorem dRp_put_60 : decode cRp_put 60 = .ok (.istore_n 3, 1) := by decide +kernel
theorem dRp_put_61 : decode cRp_put 61 = .ok (.aload_n 0, 1) := by decide +kernel
theorem dRp_put_62 : decode cRp_put 62 = .ok (.getfield 71, 3) := by decide +kernel
theorem dRp_put_65 : decode cRp_put 65 = .ok (.iload_n 1, 1) := by decide +kernel
theorem dRp_put_66 : decode cRp_put 66 = .ok (.iload_n 2, 1) := by decide +kernel
theorem dRp_put_67 : decode cRp_put 67 = .ok (.iastore, 1) := by decide +kernel
theorem dRp_put_68 : decode cRp_put 68 = .ok (.iload_n 3, 1) := by decide +kernel
theorem dRp_put_69 : decode cRp_put 69 = .ok (.ireturn, 1) := by decide +kernel
