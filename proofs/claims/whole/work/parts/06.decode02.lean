theorem d_M_put_0 : decode prog_9_method_39_code 0 = .ok (.aload_n 0, 1) := by decide +kernel
theorem d_M_put_1 : decode prog_9_method_39_code 1 = .ok (.getfield 57, 3) := by decide +kernel
theorem d_M_put_4 : decode prog_9_method_39_code 4 = .ok (.aload_n 0, 1) := by decide +kernel
theorem d_M_put_5 : decode prog_9_method_39_code 5 = .ok (.getfield 201, 3) := by decide +kernel
theorem d_M_put_8 : decode prog_9_method_39_code 8 = .ok (.iload_n 1, 1) := by decide +kernel
theorem d_M_put_9 : decode prog_9_method_39_code 9 = .ok (.iastore, 1) := by decide +kernel
theorem d_M_put_10 : decode prog_9_method_39_code 10 = .ok (.aload_n 0, 1) := by decide +kernel
theorem d_M_put_11 : decode prog_9_method_39_code 11 = .ok (.dup, 1) := by decide +kernel
theorem d_M_put_12 : decode prog_9_method_39_code 12 = .ok (.getfield 201, 3) := by decide +kernel
theorem d_M_put_15 : decode prog_9_method_39_code 15 = .ok (.iconst (1), 1) := by decide +kernel
theorem d_M_put_16 : decode prog_9_method_39_code 16 = .ok (.iadd, 1) := by decide +kernel
theorem d_M_put_17 : decode prog_9_method_39_code 17 = .ok (.putfield 201, 3) := by decide +kernel
theorem d_M_put_20 : decode prog_9_method_39_code 20 = .ok (.return_, 1) := by decide +kernel
theorem d_M_feed_0 : decode prog_9_method_3_code 0 = .ok (.aload_n 0, 1) := by decide +kernel
theorem d_M_feed_1 : decode prog_9_method_3_code 1 = .ok (.iload_n 1, 1) := by decide +kernel
theorem d_M_feed_2 : decode prog_9_method_3_code 2 = .ok (.iconst (1), 1) := by decide +kernel
theorem d_M_feed_3 : decode prog_9_method_3_code 3 = .ok (.if_icmp .lt (9), 3) := by decide +kernel
theorem d_M_feed_6 : decode prog_9_method_3_code 6 = .ok (.iload_n 1, 1) := by decide +kernel
theorem d_M_feed_7 : decode prog_9_method_3_code 7 = .ok (.bipush (8), 2) := by decide +kernel
theorem d_M_feed_9 : decode prog_9_method_3_code 9 = .ok (.if_icmp .le (7), 3) := by decide +kernel
theorem d_M_feed_12 : decode prog_9_method_3_code 12 = .ok (.iconst (1), 1) := by decide +kernel
theorem d_M_feed_13 : decode prog_9_method_3_code 13 = .ok (.goto (4), 3) := by decide +kernel
theorem d_M_feed_16 : decode prog_9_method_3_code 16 = .ok (.iconst (0), 1) := by decide +kernel
theorem d_M_feed_17 : decode prog_9_method_3_code 17 = .ok (.putfield 66, 3) := by decide +kernel
theorem d_M_feed_20 : decode prog_9_method_3_code 20 = .ok (.aload_n 0, 1) := by decide +kernel
theorem d_M_feed_21 : decode prog_9_method_3_code 21 = .ok (.getfield 66, 3) := by decide +kernel
theorem d_M_feed_24 : decode prog_9_method_3_code 24 = .ok (.ifCond .le (5), 3) := by decide +kernel
theorem d_M_feed_27 : decode prog_9_method_3_code 27 = .ok (.iconst (0), 1) := by decide +kernel
theorem d_M_feed_28 : decode prog_9_method_3_code 28 = .ok (.ireturn, 1) := by decide +kernel
theorem d_M_feed_29 : decode prog_9_method_3_code 29 = .ok (.aload_n 0, 1) := by decide +kernel
theorem d_M_feed_30 : decode prog_9_method_3_code 30 = .ok (.getfield 69, 3) := by decide +kernel
theorem d_M_feed_33 : decode prog_9_method_3_code 33 = .ok (.iload_n 1, 1) := by decide +kernel
theorem d_M_feed_34 : decode prog_9_method_3_code 34 = .ok (.iadd, 1) := by decide +kernel
theorem d_M_feed_35 : decode prog_9_method_3_code 35 = .ok (.sipush (700), 3) := by decide +kernel
theorem d_M_feed_38 : decode prog_9_method_3_code 38 = .ok (.if_icmp .le (5), 3) := by decide +kernel
theorem d_M_feed_41 : decode prog_9_method_3_code 41 = .ok (.iconst (-1), 1) := by decide +kernel
theorem d_M_feed_42 : decode prog_9_method_3_code 42 = .ok (.ireturn, 1) := by decide +kernel
theorem d_M_feed_43 : decode prog_9_method_3_code 43 = .ok (.iconst (0), 1) := by decide +kernel
theorem d_M_feed_44 : decode prog_9_method_3_code 44 = .ok (.istore 4, 2) := by decide +kernel
theorem d_M_feed_46 : decode prog_9_method_3_code 46 = .ok (.iload 4, 2) := by decide +kernel
theorem d_M_feed_48 : decode prog_9_method_3_code 48 = .ok (.iload_n 1, 1) := by decide +kernel
theorem d_M_feed_49 : decode prog_9_method_3_code 49 = .ok (.if_icmp .ge (40), 3) := by decide +kernel
theorem d_M_feed_52 : decode prog_9_method_3_code 52 = .ok (.aload_n 0, 1) := by decide +kernel
theorem d_M_feed_53 : decode prog_9_method_3_code 53 = .ok (.getfield 7, 3) := by decide +kernel
theorem d_M_feed_56 : decode prog_9_method_3_code 56 = .ok (.aload_n 0, 1) := by decide +kernel
theorem d_M_feed_57 : decode prog_9_method_3_code 57 = .ok (.getfield 69, 3) := by decide +kernel
theorem d_M_feed_60 : decode prog_9_method_3_code 60 = .ok (.lload_n 2, 1) := by decide +kernel
theorem d_M_feed_61 : decode prog_9_method_3_code 61 = .ok (.bipush (8), 2) := by decide +kernel
theorem d_M_feed_63 : decode prog_9_method_3_code 63 = .ok (.iload 4, 2) := by decide +kernel
theorem d_M_feed_65 : decode prog_9_method_3_code 65 = .ok (.imul, 1) := by decide +kernel
theorem d_M_feed_66 : decode prog_9_method_3_code 66 = .ok (.lshr, 1) := by decide +kernel
theorem d_M_feed_67 : decode prog_9_method_3_code 67 = .ok (.ldc2_w 72, 3) := by decide +kernel
theorem d_M_feed_70 : decode prog_9_method_3_code 70 = .ok (.land, 1) := by decide +kernel
theorem d_M_feed_71 : decode prog_9_method_3_code 71 = .ok (.l2i, 1) := by decide +kernel
theorem d_M_feed_72 : decode prog_9_method_3_code 72 = .ok (.iastore, 1) := by decide +kernel
theorem d_M_feed_73 : decode prog_9_method_3_code 73 = .ok (.aload_n 0, 1) := by decide +kernel
theorem d_M_feed_74 : decode prog_9_method_3_code 74 = .ok (.dup, 1) := by decide +kernel
theorem d_M_feed_75 : decode prog_9_method_3_code 75 = .ok (.getfield 69, 3) := by decide +kernel
theorem d_M_feed_78 : decode prog_9_method_3_code 78 = .ok (.iconst (1), 1) := by decide +kernel
theorem d_M_feed_79 : decode prog_9_method_3_code 79 = .ok (.iadd, 1) := by decide +kernel
theorem d_M_feed_80 : decode prog_9_method_3_code 80 = .ok (.putfield 69, 3) := by decide +kernel
theorem d_M_feed_83 : decode prog_9_method_3_code 83 = .ok (.iinc 4 (1), 3) := by decide +kernel
theorem d_M_feed_86 : decode prog_9_method_3_code 86 = .ok (.goto (-40), 3) := by decide +kernel
theorem d_M_feed_89 : decode prog_9_method_3_code 89 = .ok (.aload_n 0, 1) := by decide +kernel
theorem d_M_feed_90 : decode prog_9_method_3_code 90 = .ok (.getfield 69, 3) := by decide +kernel
theorem d_M_feed_93 : decode prog_9_method_3_code 93 = .ok (.ireturn, 1) := by decide +kernel
theorem d_M_newNumber_0 : decode prog_9_method_43_code 0 = .ok (.iconst (0), 1) := by decide +kernel
theorem d_M_newNumber_1 : decode prog_9_method_43_code 1 = .ok (.istore_n 2, 1) := by decide +kernel
theorem d_M_newNumber_2 : decode prog_9_method_43_code 2 = .ok (.iconst (0), 1) := by decide +kernel
theorem d_M_newNumber_3 : decode prog_9_method_43_code 3 = .ok (.istore_n 3, 1) := by decide +kernel
theorem d_M_newNumber_4 : decode prog_9_method_43_code 4 = .ok (.iload_n 3, 1) := by decide +kernel
theorem d_M_newNumber_5 : decode prog_9_method_43_code 5 = .ok (.iload_n 1, 1) := by decide +kernel
theorem d_M_newNumber_6 : decode prog_9_method_43_code 6 = .ok (.if_icmp .ge (26), 3) := by decide +kernel
theorem d_M_newNumber_9 : decode prog_9_method_43_code 9 = .ok (.aload_n 0, 1) := by decide +kernel
theorem d_M_newNumber_10 : decode prog_9_method_43_code 10 = .ok (.getfield 41, 3) := by decide +kernel
theorem d_M_newNumber_13 : decode prog_9_method_43_code 13 = .ok (.iload_n 3, 1) := by decide +kernel
theorem d_M_newNumber_14 : decode prog_9_method_43_code 14 = .ok (.baload, 1) := by decide +kernel
theorem d_M_newNumber_15 : decode prog_9_method_43_code 15 = .ok (.ifCond .eq (9), 3) := by decide +kernel
theorem d_M_newNumber_18 : decode prog_9_method_43_code 18 = .ok (.iload_n 2, 1) := by decide +kernel
theorem d_M_newNumber_19 : decode prog_9_method_43_code 19 = .ok (.iconst (1), 1) := by decide +kernel
theorem d_M_newNumber_20 : decode prog_9_method_43_code 20 = .ok (.iadd, 1) := by decide +kernel
theorem d_M_newNumber_21 : decode prog_9_method_43_code 21 = .ok (.goto (4), 3) := by decide +kernel
theorem d_M_newNumber_24 : decode prog_9_method_43_code 24 = .ok (.iload_n 2, 1) := by decide +kernel
theorem d_M_newNumber_25 : decode prog_9_method_43_code 25 = .ok (.istore_n 2, 1) := by decide +kernel
theorem d_M_newNumber_26 : decode prog_9_method_43_code 26 = .ok (.iinc 3 (1), 3) := by decide +kernel
theorem d_M_newNumber_29 : decode prog_9_method_43_code 29 = .ok (.goto (-25), 3) := by decide +kernel
theorem d_M_newNumber_32 : decode prog_9_method_43_code 32 = .ok (.iload_n 2, 1) := by decide +kernel
theorem d_M_newNumber_33 : decode prog_9_method_43_code 33 = .ok (.ireturn, 1) := by decide +kernel
theorem d_M_written_0 : decode prog_9_method_46_code 0 = .ok (.aload_n 0, 1) := by decide +kernel
theorem d_M_written_1 : decode prog_9_method_46_code 1 = .ok (.iconst (0), 1) := by decide +kernel
theorem d_M_written_2 : decode prog_9_method_46_code 2 = .ok (.putfield 66, 3) := by decide +kernel
theorem d_M_written_5 : decode prog_9_method_46_code 5 = .ok (.lconst 0, 1) := by decide +kernel
theorem d_M_written_6 : decode prog_9_method_46_code 6 = .ok (.lstore_n 2, 1) := by decide +kernel
theorem d_M_written_7 : decode prog_9_method_46_code 7 = .ok (.iconst (0), 1) := by decide +kernel
theorem d_M_written_8 : decode prog_9_method_46_code 8 = .ok (.istore 4, 2) := by decide +kernel
theorem d_M_written_10 : decode prog_9_method_46_code 10 = .ok (.iload 4, 2) := by decide +kernel
theorem d_M_written_12 : decode prog_9_method_46_code 12 = .ok (.bipush (8), 2) := by decide +kernel
theorem d_M_written_14 : decode prog_9_method_46_code 14 = .ok (.if_icmp .ge (57), 3) := by decide +kernel
theorem d_M_written_17 : decode prog_9_method_46_code 17 = .ok (.iload_n 1, 1) := by decide +kernel
theorem d_M_written_18 : decode prog_9_method_46_code 18 = .ok (.i2l, 1) := by decide +kernel
theorem d_M_written_19 : decode prog_9_method_46_code 19 = .ok (.iload 4, 2) := by decide +kernel
theorem d_M_written_21 : decode prog_9_method_46_code 21 = .ok (.i2l, 1) := by decide +kernel
theorem d_M_written_22 : decode prog_9_method_46_code 22 = .ok (.ladd, 1) := by decide +kernel
theorem d_M_written_23 : decode prog_9_method_46_code 23 = .ok (.lstore 5, 2) := by decide +kernel
theorem d_M_written_25 : decode prog_9_method_46_code 25 = .ok (.lload 5, 2) := by decide +kernel
theorem d_M_written_27 : decode prog_9_method_46_code 27 = .ok (.lconst 0, 1) := by decide +kernel
theorem d_M_written_28 : decode prog_9_method_46_code 28 = .ok (.lcmp, 1) := by decide +kernel
theorem d_M_written_29 : decode prog_9_method_46_code 29 = .ok (.ifCond .lt (34), 3) := by decide +kernel
theorem d_M_written_32 : decode prog_9_method_46_code 32 = .ok (.lload 5, 2) := by decide +kernel
theorem d_M_written_34 : decode prog_9_method_46_code 34 = .ok (.aload_n 0, 1) := by decide +kernel
theorem d_M_written_35 : decode prog_9_method_46_code 35 = .ok (.getfield 201, 3) := by decide +kernel
theorem d_M_written_38 : decode prog_9_method_46_code 38 = .ok (.i2l, 1) := by decide +kernel
theorem d_M_written_39 : decode prog_9_method_46_code 39 = .ok (.lcmp, 1) := by decide +kernel
theorem d_M_written_40 : decode prog_9_method_46_code 40 = .ok (.ifCond .ge (23), 3) := by decide +kernel
theorem d_M_written_43 : decode prog_9_method_46_code 43 = .ok (.lload_n 2, 1) := by decide +kernel
theorem d_M_written_44 : decode prog_9_method_46_code 44 = .ok (.aload_n 0, 1) := by decide +kernel
theorem d_M_written_45 : decode prog_9_method_46_code 45 = .ok (.getfield 57, 3) := by decide +kernel
theorem d_M_written_48 : decode prog_9_method_46_code 48 = .ok (.lload 5, 2) := by decide +kernel
theorem d_M_written_50 : decode prog_9_method_46_code 50 = .ok (.l2i, 1) := by decide +kernel
theorem d_M_written_51 : decode prog_9_method_46_code 51 = .ok (.iaload, 1) := by decide +kernel
theorem d_M_written_52 : decode prog_9_method_46_code 52 = .ok (.i2l, 1) := by decide +kernel
theorem d_M_written_53 : decode prog_9_method_46_code 53 = .ok (.bipush (8), 2) := by decide +kernel
theorem d_M_written_55 : decode prog_9_method_46_code 55 = .ok (.iload 4, 2) := by decide +kernel
theorem d_M_written_57 : decode prog_9_method_46_code 57 = .ok (.imul, 1) := by decide +kernel
theorem d_M_written_58 : decode prog_9_method_46_code 58 = .ok (.lshl, 1) := by decide +kernel
theorem d_M_written_59 : decode prog_9_method_46_code 59 = .ok (.lor, 1) := by decide +kernel
theorem d_M_written_60 : decode prog_9_method_46_code 60 = .ok (.goto (4), 3) := by decide +kernel
theorem d_M_written_63 : decode prog_9_method_46_code 63 = .ok (.lload_n 2, 1) := by decide +kernel
theorem d_M_written_64 : decode prog_9_method_46_code 64 = .ok (.lstore_n 2, 1) := by decide +kernel
theorem d_M_written_65 : decode prog_9_method_46_code 65 = .ok (.iinc 4 (1), 3) := by decide +kernel
theorem d_M_written_68 : decode prog_9_method_46_code 68 = .ok (.goto (-58), 3) := by decide +kernel
theorem d_M_written_71 : decode prog_9_method_46_code 71 = .ok (.lload_n 2, 1) := by decide +kernel
theorem d_M_written_72 : decode prog_9_method_46_code 72 = .ok (.lreturn, 1) := by decide +kernel
theorem d_M_take_0 : decode prog_9_method_47_code 0 = .ok (.aload_n 0, 1) := by decide +kernel
theorem d_M_take_1 : decode prog_9_method_47_code 1 = .ok (.iconst (0), 1) := by decide +kernel
theorem d_M_take_2 : decode prog_9_method_47_code 2 = .ok (.putfield 66, 3) := by decide +kernel
theorem d_M_take_5 : decode prog_9_method_47_code 5 = .ok (.aload_n 0, 1) := by decide +kernel
theorem d_M_take_6 : decode prog_9_method_47_code 6 = .ok (.getfield 201, 3) := by decide +kernel
theorem d_M_take_9 : decode prog_9_method_47_code 9 = .ok (.sipush (700), 3) := by decide +kernel
theorem d_M_take_12 : decode prog_9_method_47_code 12 = .ok (.if_icmp .le (5), 3) := by decide +kernel
theorem d_M_take_15 : decode prog_9_method_47_code 15 = .ok (.iconst (-1), 1) := by decide +kernel
theorem d_M_take_16 : decode prog_9_method_47_code 16 = .ok (.ireturn, 1) := by decide +kernel
theorem d_M_take_17 : decode prog_9_method_47_code 17 = .ok (.iconst (0), 1) := by decide +kernel
theorem d_M_take_18 : decode prog_9_method_47_code 18 = .ok (.istore_n 1, 1) := by decide +kernel
theorem d_M_take_19 : decode prog_9_method_47_code 19 = .ok (.iload_n 1, 1) := by decide +kernel
theorem d_M_take_20 : decode prog_9_method_47_code 20 = .ok (.aload_n 0, 1) := by decide +kernel
theorem d_M_take_21 : decode prog_9_method_47_code 21 = .ok (.getfield 201, 3) := by decide +kernel
theorem d_M_take_24 : decode prog_9_method_47_code 24 = .ok (.if_icmp .ge (21), 3) := by decide +kernel
theorem d_M_take_27 : decode prog_9_method_47_code 27 = .ok (.aload_n 0, 1) := by decide +kernel
theorem d_M_take_28 : decode prog_9_method_47_code 28 = .ok (.getfield 7, 3) := by decide +kernel
theorem d_M_take_31 : decode prog_9_method_47_code 31 = .ok (.iload_n 1, 1) := by decide +kernel
theorem d_M_take_32 : decode prog_9_method_47_code 32 = .ok (.aload_n 0, 1) := by decide +kernel
theorem d_M_take_33 : decode prog_9_method_47_code 33 = .ok (.getfield 57, 3) := by decide +kernel
theorem d_M_take_36 : decode prog_9_method_47_code 36 = .ok (.iload_n 1, 1) := by decide +kernel
theorem d_M_take_37 : decode prog_9_method_47_code 37 = .ok (.iaload, 1) := by decide +kernel
theorem d_M_take_38 : decode prog_9_method_47_code 38 = .ok (.iastore, 1) := by decide +kernel
theorem d_M_take_39 : decode prog_9_method_47_code 39 = .ok (.iinc 1 (1), 3) := by decide +kernel
theorem d_M_take_42 : decode prog_9_method_47_code 42 = .ok (.goto (-23), 3) := by decide +kernel
theorem d_M_take_45 : decode prog_9_method_47_code 45 = .ok (.aload_n 0, 1) := by decide +kernel
theorem d_M_take_46 : decode prog_9_method_47_code 46 = .ok (.aload_n 0, 1) := by decide +kernel
theorem d_M_take_47 : decode prog_9_method_47_code 47 = .ok (.getfield 201, 3) := by decide +kernel
theorem d_M_take_50 : decode prog_9_method_47_code 50 = .ok (.putfield 69, 3) := by decide +kernel
theorem d_M_take_53 : decode prog_9_method_47_code 53 = .ok (.aload_n 0, 1) := by decide +kernel
theorem d_M_take_54 : decode prog_9_method_47_code 54 = .ok (.getfield 69, 3) := by decide +kernel
theorem d_M_take_57 : decode prog_9_method_47_code 57 = .ok (.ireturn, 1) := by decide +kernel
theorem d_M_input_0 : decode prog_9_method_48_code 0 = .ok (.aload_n 0, 1) := by decide +kernel
theorem d_M_input_1 : decode prog_9_method_48_code 1 = .ok (.iconst (0), 1) := by decide +kernel
theorem d_M_input_2 : decode prog_9_method_48_code 2 = .ok (.putfield 66, 3) := by decide +kernel
theorem d_M_input_5 : decode prog_9_method_48_code 5 = .ok (.aload_n 0, 1) := by decide +kernel
theorem d_M_input_6 : decode prog_9_method_48_code 6 = .ok (.getfield 225, 3) := by decide +kernel
theorem d_M_input_9 : decode prog_9_method_48_code 9 = .ok (.bipush (32), 2) := by decide +kernel
theorem d_M_input_11 : decode prog_9_method_48_code 11 = .ok (.if_icmp .ne (5), 3) := by decide +kernel
theorem d_M_input_14 : decode prog_9_method_48_code 14 = .ok (.iconst (-1), 1) := by decide +kernel
theorem d_M_input_15 : decode prog_9_method_48_code 15 = .ok (.ireturn, 1) := by decide +kernel
theorem d_M_input_16 : decode prog_9_method_48_code 16 = .ok (.aload_n 0, 1) := by decide +kernel
theorem d_M_input_17 : decode prog_9_method_48_code 17 = .ok (.getfield 60, 3) := by decide +kernel
theorem d_M_input_20 : decode prog_9_method_48_code 20 = .ok (.aload_n 0, 1) := by decide +kernel
theorem d_M_input_21 : decode prog_9_method_48_code 21 = .ok (.getfield 225, 3) := by decide +kernel
theorem d_M_input_24 : decode prog_9_method_48_code 24 = .ok (.iload_n 1, 1) := by decide +kernel
theorem d_M_input_25 : decode prog_9_method_48_code 25 = .ok (.iastore, 1) := by decide +kernel
theorem d_M_input_26 : decode prog_9_method_48_code 26 = .ok (.aload_n 0, 1) := by decide +kernel
theorem d_M_input_27 : decode prog_9_method_48_code 27 = .ok (.dup, 1) := by decide +kernel
theorem d_M_input_28 : decode prog_9_method_48_code 28 = .ok (.getfield 225, 3) := by decide +kernel
theorem d_M_input_31 : decode prog_9_method_48_code 31 = .ok (.iconst (1), 1) := by decide +kernel
theorem d_M_input_32 : decode prog_9_method_48_code 32 = .ok (.iadd, 1) := by decide +kernel
theorem d_M_input_33 : decode prog_9_method_48_code 33 = .ok (.putfield 225, 3) := by decide +kernel
theorem d_M_input_36 : decode prog_9_method_48_code 36 = .ok (.aload_n 0, 1) := by decide +kernel
theorem d_M_input_37 : decode prog_9_method_48_code 37 = .ok (.getfield 225, 3) := by decide +kernel
theorem d_M_input_40 : decode prog_9_method_48_code 40 = .ok (.ireturn, 1) := by decide +kernel
theorem d_M_clear_0 : decode prog_9_method_49_code 0 = .ok (.aload_n 0, 1) := by decide +kernel
theorem d_M_clear_1 : decode prog_9_method_49_code 1 = .ok (.iconst (0), 1) := by decide +kernel
theorem d_M_clear_2 : decode prog_9_method_49_code 2 = .ok (.putfield 66, 3) := by decide +kernel
theorem d_M_clear_5 : decode prog_9_method_49_code 5 = .ok (.aload_n 0, 1) := by decide +kernel
theorem d_M_clear_6 : decode prog_9_method_49_code 6 = .ok (.getfield 225, 3) := by decide +kernel
theorem d_M_clear_9 : decode prog_9_method_49_code 9 = .ok (.istore_n 1, 1) := by decide +kernel
theorem d_M_clear_10 : decode prog_9_method_49_code 10 = .ok (.aload_n 0, 1) := by decide +kernel
theorem d_M_clear_11 : decode prog_9_method_49_code 11 = .ok (.iconst (0), 1) := by decide +kernel
theorem d_M_clear_12 : decode prog_9_method_49_code 12 = .ok (.putfield 225, 3) := by decide +kernel
theorem d_M_clear_15 : decode prog_9_method_49_code 15 = .ok (.iload_n 1, 1) := by decide +kernel
theorem d_M_clear_16 : decode prog_9_method_49_code 16 = .ok (.ireturn, 1) := by decide +kernel
theorem d_M_wipe_0 : decode prog_9_method_4_code 0 = .ok (.aload_n 0, 1) := by decide +kernel
theorem d_M_wipe_1 : decode prog_9_method_4_code 1 = .ok (.iconst (0), 1) := by decide +kernel
theorem d_M_wipe_2 : decode prog_9_method_4_code 2 = .ok (.putfield 66, 3) := by decide +kernel
theorem d_M_wipe_5 : decode prog_9_method_4_code 5 = .ok (.aload_n 0, 1) := by decide +kernel
theorem d_M_wipe_6 : decode prog_9_method_4_code 6 = .ok (.getfield 69, 3) := by decide +kernel
theorem d_M_wipe_9 : decode prog_9_method_4_code 9 = .ok (.istore_n 1, 1) := by decide +kernel
theorem d_M_wipe_10 : decode prog_9_method_4_code 10 = .ok (.aload_n 0, 1) := by decide +kernel
theorem d_M_wipe_11 : decode prog_9_method_4_code 11 = .ok (.iconst (0), 1) := by decide +kernel
theorem d_M_wipe_12 : decode prog_9_method_4_code 12 = .ok (.putfield 69, 3) := by decide +kernel
theorem d_M_wipe_15 : decode prog_9_method_4_code 15 = .ok (.iload_n 1, 1) := by decide +kernel
theorem d_M_wipe_16 : decode prog_9_method_4_code 16 = .ok (.ireturn, 1) := by decide +kernel
theorem d_M_valueOf_0 : decode prog_9_method_50_code 0 = .ok (.iload_n 1, 1) := by decide +kernel
theorem d_M_valueOf_1 : decode prog_9_method_50_code 1 = .ok (.ifCond .ne (7), 3) := by decide +kernel
theorem d_M_valueOf_4 : decode prog_9_method_50_code 4 = .ok (.iload_n 2, 1) := by decide +kernel
theorem d_M_valueOf_5 : decode prog_9_method_50_code 5 = .ok (.goto (9), 3) := by decide +kernel
theorem d_M_valueOf_8 : decode prog_9_method_50_code 8 = .ok (.aload_n 0, 1) := by decide +kernel
theorem d_M_valueOf_9 : decode prog_9_method_50_code 9 = .ok (.getfield 63, 3) := by decide +kernel
theorem d_M_valueOf_12 : decode prog_9_method_50_code 12 = .ok (.iload_n 2, 1) := by decide +kernel
theorem d_M_valueOf_13 : decode prog_9_method_50_code 13 = .ok (.iaload, 1) := by decide +kernel
theorem d_M_valueOf_14 : decode prog_9_method_50_code 14 = .ok (.ireturn, 1) := by decide +kernel
theorem d_M_value_0 : decode prog_9_method_53_code 0 = .ok (.aload_n 0, 1) := by decide +kernel
theorem d_M_value_1 : decode prog_9_method_53_code 1 = .ok (.iload_n 1, 1) := by decide +kernel
theorem d_M_value_2 : decode prog_9_method_53_code 2 = .ok (.ifCond .lt (9), 3) := by decide +kernel
theorem d_M_value_5 : decode prog_9_method_53_code 5 = .ok (.iload_n 1, 1) := by decide +kernel
theorem d_M_value_6 : decode prog_9_method_53_code 6 = .ok (.bipush (8), 2) := by decide +kernel
theorem d_M_value_8 : decode prog_9_method_53_code 8 = .ok (.if_icmp .lt (7), 3) := by decide +kernel
theorem d_M_value_11 : decode prog_9_method_53_code 11 = .ok (.iconst (1), 1) := by decide +kernel
theorem d_M_value_12 : decode prog_9_method_53_code 12 = .ok (.goto (4), 3) := by decide +kernel
theorem d_M_value_15 : decode prog_9_method_53_code 15 = .ok (.iconst (0), 1) := by decide +kernel
theorem d_M_value_16 : decode prog_9_method_53_code 16 = .ok (.putfield 66, 3) := by decide +kernel
theorem d_M_value_19 : decode prog_9_method_53_code 19 = .ok (.aload_n 0, 1) := by decide +kernel
theorem d_M_value_20 : decode prog_9_method_53_code 20 = .ok (.getfield 66, 3) := by decide +kernel
theorem d_M_value_23 : decode prog_9_method_53_code 23 = .ok (.ifCond .le (7), 3) := by decide +kernel
theorem d_M_value_26 : decode prog_9_method_53_code 26 = .ok (.iconst (0), 1) := by decide +kernel
theorem d_M_value_27 : decode prog_9_method_53_code 27 = .ok (.goto (9), 3) := by decide +kernel
theorem d_M_value_30 : decode prog_9_method_53_code 30 = .ok (.aload_n 0, 1) := by decide +kernel
theorem d_M_value_31 : decode prog_9_method_53_code 31 = .ok (.getfield 63, 3) := by decide +kernel
theorem d_M_value_34 : decode prog_9_method_53_code 34 = .ok (.iload_n 1, 1) := by decide +kernel
theorem d_M_value_35 : decode prog_9_method_53_code 35 = .ok (.iaload, 1) := by decide +kernel
theorem d_M_value_36 : decode prog_9_method_53_code 36 = .ok (.ireturn, 1) := by decide +kernel
theorem d_M_asked_0 : decode prog_9_method_54_code 0 = .ok (.aload_n 0, 1) := by decide +kernel
theorem d_M_asked_1 : decode prog_9_method_54_code 1 = .ok (.iconst (0), 1) := by decide +kernel
theorem d_M_asked_2 : decode prog_9_method_54_code 2 = .ok (.putfield 66, 3) := by decide +kernel
theorem d_M_asked_5 : decode prog_9_method_54_code 5 = .ok (.aload_n 0, 1) := by decide +kernel
theorem d_M_asked_6 : decode prog_9_method_54_code 6 = .ok (.getfield 228, 3) := by decide +kernel
theorem d_M_asked_9 : decode prog_9_method_54_code 9 = .ok (.ireturn, 1) := by decide +kernel
theorem d_M_fail_0 : decode prog_9_method_5_code 0 = .ok (.aload_n 0, 1) := by decide +kernel
theorem d_M_fail_1 : decode prog_9_method_5_code 1 = .ok (.getfield 74, 3) := by decide +kernel
theorem d_M_fail_4 : decode prog_9_method_5_code 4 = .ok (.ifCond .ne (13), 3) := by decide +kernel
theorem d_M_fail_7 : decode prog_9_method_5_code 7 = .ok (.aload_n 0, 1) := by decide +kernel
theorem d_M_fail_8 : decode prog_9_method_5_code 8 = .ok (.iload_n 1, 1) := by decide +kernel
theorem d_M_fail_9 : decode prog_9_method_5_code 9 = .ok (.putfield 74, 3) := by decide +kernel
theorem d_M_fail_12 : decode prog_9_method_5_code 12 = .ok (.aload_n 0, 1) := by decide +kernel
theorem d_M_fail_13 : decode prog_9_method_5_code 13 = .ok (.iload_n 2, 1) := by decide +kernel
theorem d_M_fail_14 : decode prog_9_method_5_code 14 = .ok (.putfield 13, 3) := by decide +kernel
theorem d_M_fail_17 : decode prog_9_method_5_code 17 = .ok (.return_, 1) := by decide +kernel
theorem d_M_byteAt_0 : decode prog_9_method_6_code 0 = .ok (.iload_n 1, 1) := by decide +kernel
theorem d_M_byteAt_1 : decode prog_9_method_6_code 1 = .ok (.aload_n 0, 1) := by decide +kernel
theorem d_M_byteAt_2 : decode prog_9_method_6_code 2 = .ok (.getfield 69, 3) := by decide +kernel
theorem d_M_byteAt_5 : decode prog_9_method_6_code 5 = .ok (.if_icmp .ge (12), 3) := by decide +kernel
theorem d_M_byteAt_8 : decode prog_9_method_6_code 8 = .ok (.aload_n 0, 1) := by decide +kernel
theorem d_M_byteAt_9 : decode prog_9_method_6_code 9 = .ok (.getfield 7, 3) := by decide +kernel
theorem d_M_byteAt_12 : decode prog_9_method_6_code 12 = .ok (.iload_n 1, 1) := by decide +kernel
theorem d_M_byteAt_13 : decode prog_9_method_6_code 13 = .ok (.iaload, 1) := by decide +kernel
theorem d_M_byteAt_14 : decode prog_9_method_6_code 14 = .ok (.goto (4), 3) := by decide +kernel
theorem d_M_byteAt_17 : decode prog_9_method_6_code 17 = .ok (.iconst (-1), 1) := by decide +kernel
theorem d_M_byteAt_18 : decode prog_9_method_6_code 18 = .ok (.ireturn, 1) := by decide +kernel
theorem d_M_skip_0 : decode prog_9_method_7_code 0 = .ok (.aload_n 0, 1) := by decide +kernel
theorem d_M_skip_1 : decode prog_9_method_7_code 1 = .ok (.getfield 77, 3) := by decide +kernel
theorem d_M_skip_4 : decode prog_9_method_7_code 4 = .ok (.aload_n 0, 1) := by decide +kernel
theorem d_M_skip_5 : decode prog_9_method_7_code 5 = .ok (.getfield 69, 3) := by decide +kernel
theorem d_M_skip_8 : decode prog_9_method_7_code 8 = .ok (.if_icmp .ge (30), 3) := by decide +kernel
theorem d_M_skip_11 : decode prog_9_method_7_code 11 = .ok (.aload_n 0, 1) := by decide +kernel
theorem d_M_skip_12 : decode prog_9_method_7_code 12 = .ok (.getfield 7, 3) := by decide +kernel
theorem d_M_skip_15 : decode prog_9_method_7_code 15 = .ok (.aload_n 0, 1) := by decide +kernel
theorem d_M_skip_16 : decode prog_9_method_7_code 16 = .ok (.getfield 77, 3) := by decide +kernel
theorem d_M_skip_19 : decode prog_9_method_7_code 19 = .ok (.iaload, 1) := by decide +kernel
theorem d_M_skip_20 : decode prog_9_method_7_code 20 = .ok (.bipush (32), 2) := by decide +kernel
theorem d_M_skip_22 : decode prog_9_method_7_code 22 = .ok (.if_icmp .gt (16), 3) := by decide +kernel
theorem d_M_skip_25 : decode prog_9_method_7_code 25 = .ok (.aload_n 0, 1) := by decide +kernel
theorem d_M_skip_26 : decode prog_9_method_7_code 26 = .ok (.dup, 1) := by decide +kernel
theorem d_M_skip_27 : decode prog_9_method_7_code 27 = .ok (.getfield 77, 3) := by decide +kernel
theorem d_M_skip_30 : decode prog_9_method_7_code 30 = .ok (.iconst (1), 1) := by decide +kernel
theorem d_M_skip_31 : decode prog_9_method_7_code 31 = .ok (.iadd, 1) := by decide +kernel
theorem d_M_skip_32 : decode prog_9_method_7_code 32 = .ok (.putfield 77, 3) := by decide +kernel
theorem d_M_skip_35 : decode prog_9_method_7_code 35 = .ok (.goto (-35), 3) := by decide +kernel
theorem d_M_skip_38 : decode prog_9_method_7_code 38 = .ok (.return_, 1) := by decide +kernel
theorem d_M_isVariable_0 : decode prog_9_method_8_code 0 = .ok (.iload_n 0, 1) := by decide +kernel
theorem d_M_isVariable_1 : decode prog_9_method_8_code 1 = .ok (.bipush (97), 2) := by decide +kernel
theorem d_M_isVariable_3 : decode prog_9_method_8_code 3 = .ok (.if_icmp .lt (13), 3) := by decide +kernel
theorem d_M_isVariable_6 : decode prog_9_method_8_code 6 = .ok (.iload_n 0, 1) := by decide +kernel
theorem d_M_isVariable_7 : decode prog_9_method_8_code 7 = .ok (.bipush (104), 2) := by decide +kernel
theorem d_M_isVariable_9 : decode prog_9_method_8_code 9 = .ok (.if_icmp .gt (7), 3) := by decide +kernel
theorem d_M_isVariable_12 : decode prog_9_method_8_code 12 = .ok (.iconst (1), 1) := by decide +kernel
theorem d_M_isVariable_13 : decode prog_9_method_8_code 13 = .ok (.goto (4), 3) := by decide +kernel
theorem d_M_isVariable_16 : decode prog_9_method_8_code 16 = .ok (.iconst (0), 1) := by decide +kernel
theorem d_M_isVariable_17 : decode prog_9_method_8_code 17 = .ok (.ireturn, 1) := by decide +kernel
theorem d_M_isFigure_0 : decode prog_9_method_9_code 0 = .ok (.iload_n 0, 1) := by decide +kernel
theorem d_M_isFigure_1 : decode prog_9_method_9_code 1 = .ok (.bipush (48), 2) := by decide +kernel
theorem d_M_isFigure_3 : decode prog_9_method_9_code 3 = .ok (.if_icmp .lt (13), 3) := by decide +kernel
theorem d_M_isFigure_6 : decode prog_9_method_9_code 6 = .ok (.iload_n 0, 1) := by decide +kernel
theorem d_M_isFigure_7 : decode prog_9_method_9_code 7 = .ok (.bipush (57), 2) := by decide +kernel
theorem d_M_isFigure_9 : decode prog_9_method_9_code 9 = .ok (.if_icmp .gt (7), 3) := by decide +kernel
theorem d_M_isFigure_12 : decode prog_9_method_9_code 12 = .ok (.iconst (1), 1) := by decide +kernel
theorem d_M_isFigure_13 : decode prog_9_method_9_code 13 = .ok (.goto (4), 3) := by decide +kernel
theorem d_M_isFigure_16 : decode prog_9_method_9_code 16 = .ok (.iconst (0), 1) := by decide +kernel
theorem d_M_isFigure_17 : decode prog_9_method_9_code 17 = .ok (.ireturn, 1) := by decide +kernel
theorem d_C_written_0 : decode prog_1_method_12_code 0 = .ok (.lconst 0, 1) := by decide +kernel
theorem d_C_written_1 : decode prog_1_method_12_code 1 = .ok (.lstore_n 2, 1) := by decide +kernel
theorem d_C_written_2 : decode prog_1_method_12_code 2 = .ok (.iconst (0), 1) := by decide +kernel
theorem d_C_written_3 : decode prog_1_method_12_code 3 = .ok (.istore 4, 2) := by decide +kernel
theorem d_C_written_5 : decode prog_1_method_12_code 5 = .ok (.iload 4, 2) := by decide +kernel
theorem d_C_written_7 : decode prog_1_method_12_code 7 = .ok (.bipush (8), 2) := by decide +kernel
theorem d_C_written_9 : decode prog_1_method_12_code 9 = .ok (.if_icmp .ge (42), 3) := by decide +kernel
theorem d_C_written_12 : decode prog_1_method_12_code 12 = .ok (.aload_n 0, 1) := by decide +kernel
theorem d_C_written_13 : decode prog_1_method_12_code 13 = .ok (.getfield 18, 3) := by decide +kernel
theorem d_C_written_16 : decode prog_1_method_12_code 16 = .ok (.iload_n 1, 1) := by decide +kernel
theorem d_C_written_17 : decode prog_1_method_12_code 17 = .ok (.i2l, 1) := by decide +kernel
theorem d_C_written_18 : decode prog_1_method_12_code 18 = .ok (.iload 4, 2) := by decide +kernel
theorem d_C_written_20 : decode prog_1_method_12_code 20 = .ok (.i2l, 1) := by decide +kernel
theorem d_C_written_21 : decode prog_1_method_12_code 21 = .ok (.ladd, 1) := by decide +kernel
theorem d_C_written_22 : decode prog_1_method_12_code 22 = .ok (.invokevirtual 130, 3) := by decide +kernel
theorem d_C_written_25 : decode prog_1_method_12_code 25 = .ok (.istore 5, 2) := by decide +kernel
theorem d_C_written_27 : decode prog_1_method_12_code 27 = .ok (.iload 5, 2) := by decide +kernel
theorem d_C_written_29 : decode prog_1_method_12_code 29 = .ok (.iconst (-1), 1) := by decide +kernel
theorem d_C_written_30 : decode prog_1_method_12_code 30 = .ok (.if_icmp .eq (15), 3) := by decide +kernel
theorem d_C_written_33 : decode prog_1_method_12_code 33 = .ok (.lload_n 2, 1) := by decide +kernel
theorem d_C_written_34 : decode prog_1_method_12_code 34 = .ok (.iload 5, 2) := by decide +kernel
theorem d_C_written_36 : decode prog_1_method_12_code 36 = .ok (.i2l, 1) := by decide +kernel
theorem d_C_written_37 : decode prog_1_method_12_code 37 = .ok (.bipush (8), 2) := by decide +kernel
theorem d_C_written_39 : decode prog_1_method_12_code 39 = .ok (.iload 4, 2) := by decide +kernel
theorem d_C_written_41 : decode prog_1_method_12_code 41 = .ok (.imul, 1) := by decide +kernel
theorem d_C_written_42 : decode prog_1_method_12_code 42 = .ok (.lshl, 1) := by decide +kernel
theorem d_C_written_43 : decode prog_1_method_12_code 43 = .ok (.lor, 1) := by decide +kernel
theorem d_C_written_44 : decode prog_1_method_12_code 44 = .ok (.lstore_n 2, 1) := by decide +kernel
theorem d_C_written_45 : decode prog_1_method_12_code 45 = .ok (.iinc 4 (1), 3) := by decide +kernel
theorem d_C_written_48 : decode prog_1_method_12_code 48 = .ok (.goto (-43), 3) := by decide +kernel
theorem d_C_written_51 : decode prog_1_method_12_code 51 = .ok (.lload_n 2, 1) := by decide +kernel
theorem d_C_written_52 : decode prog_1_method_12_code 52 = .ok (.lreturn, 1) := by decide +kernel
theorem d_C_take_0 : decode prog_1_method_13_code 0 = .ok (.aload_n 0, 1) := by decide +kernel
theorem d_C_take_1 : decode prog_1_method_13_code 1 = .ok (.getfield 18, 3) := by decide +kernel
theorem d_C_take_4 : decode prog_1_method_13_code 4 = .ok (.getfield 65, 3) := by decide +kernel
theorem d_C_take_7 : decode prog_1_method_13_code 7 = .ok (.sipush (700), 3) := by decide +kernel
theorem d_C_take_10 : decode prog_1_method_13_code 10 = .ok (.if_icmp .le (5), 3) := by decide +kernel
theorem d_C_take_13 : decode prog_1_method_13_code 13 = .ok (.iconst (-1), 1) := by decide +kernel
theorem d_C_take_14 : decode prog_1_method_13_code 14 = .ok (.ireturn, 1) := by decide +kernel
theorem d_C_take_15 : decode prog_1_method_13_code 15 = .ok (.aload_n 0, 1) := by decide +kernel
theorem d_C_take_16 : decode prog_1_method_13_code 16 = .ok (.getfield 14, 3) := by decide +kernel
theorem d_C_take_19 : decode prog_1_method_13_code 19 = .ok (.iconst (0), 1) := by decide +kernel
theorem d_C_take_20 : decode prog_1_method_13_code 20 = .ok (.putfield 65, 3) := by decide +kernel
