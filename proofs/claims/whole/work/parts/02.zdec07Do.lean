/-! decode rows -/
theorem d_Do_init_0 : decode prog_1_method_1_code 0 = .ok (.aload_n 0, 1) := by decide +kernel
theorem d_Do_init_1 : decode prog_1_method_1_code 1 = .ok (.invokespecial 1, 3) := by decide +kernel
theorem d_Do_init_4 : decode prog_1_method_1_code 4 = .ok (.aload_n 0, 1) := by decide +kernel
theorem d_Do_init_5 : decode prog_1_method_1_code 5 = .ok (.iconst 3, 1) := by decide +kernel
theorem d_Do_init_6 : decode prog_1_method_1_code 6 = .ok (.anewarray 9, 3) := by decide +kernel
theorem d_Do_init_9 : decode prog_1_method_1_code 9 = .ok (.putfield 11, 3) := by decide +kernel
theorem d_Do_init_12 : decode prog_1_method_1_code 12 = .ok (.iconst 0, 1) := by decide +kernel
theorem d_Do_init_13 : decode prog_1_method_1_code 13 = .ok (.istore_n 1, 1) := by decide +kernel
theorem d_Do_init_14 : decode prog_1_method_1_code 14 = .ok (.iload_n 1, 1) := by decide +kernel
theorem d_Do_init_15 : decode prog_1_method_1_code 15 = .ok (.iconst 3, 1) := by decide +kernel
theorem d_Do_init_16 : decode prog_1_method_1_code 16 = .ok (.if_icmp .ge 23, 3) := by decide +kernel
theorem d_Do_init_19 : decode prog_1_method_1_code 19 = .ok (.aload_n 0, 1) := by decide +kernel
theorem d_Do_init_20 : decode prog_1_method_1_code 20 = .ok (.getfield 11, 3) := by decide +kernel
theorem d_Do_init_23 : decode prog_1_method_1_code 23 = .ok (.iload_n 1, 1) := by decide +kernel
theorem d_Do_init_24 : decode prog_1_method_1_code 24 = .ok (.new 9, 3) := by decide +kernel
theorem d_Do_init_27 : decode prog_1_method_1_code 27 = .ok (.dup, 1) := by decide +kernel
theorem d_Do_init_28 : decode prog_1_method_1_code 28 = .ok (.iload_n 1, 1) := by decide +kernel
theorem d_Do_init_29 : decode prog_1_method_1_code 29 = .ok (.invokespecial 15, 3) := by decide +kernel
theorem d_Do_init_32 : decode prog_1_method_1_code 32 = .ok (.aastore, 1) := by decide +kernel
theorem d_Do_init_33 : decode prog_1_method_1_code 33 = .ok (.iinc 1 1, 3) := by decide +kernel
theorem d_Do_init_36 : decode prog_1_method_1_code 36 = .ok (.goto (-22), 3) := by decide +kernel
theorem d_Do_init_39 : decode prog_1_method_1_code 39 = .ok (.aload_n 0, 1) := by decide +kernel
theorem d_Do_init_40 : decode prog_1_method_1_code 40 = .ok (.new 18, 3) := by decide +kernel
theorem d_Do_init_43 : decode prog_1_method_1_code 43 = .ok (.dup, 1) := by decide +kernel
theorem d_Do_init_44 : decode prog_1_method_1_code 44 = .ok (.invokespecial 20, 3) := by decide +kernel
theorem d_Do_init_47 : decode prog_1_method_1_code 47 = .ok (.putfield 21, 3) := by decide +kernel
theorem d_Do_init_50 : decode prog_1_method_1_code 50 = .ok (.aload_n 0, 1) := by decide +kernel
theorem d_Do_init_51 : decode prog_1_method_1_code 51 = .ok (.new 25, 3) := by decide +kernel
theorem d_Do_init_54 : decode prog_1_method_1_code 54 = .ok (.dup, 1) := by decide +kernel
theorem d_Do_init_55 : decode prog_1_method_1_code 55 = .ok (.invokespecial 27, 3) := by decide +kernel
theorem d_Do_init_58 : decode prog_1_method_1_code 58 = .ok (.putfield 28, 3) := by decide +kernel
theorem d_Do_init_61 : decode prog_1_method_1_code 61 = .ok (.aload_n 0, 1) := by decide +kernel
theorem d_Do_init_62 : decode prog_1_method_1_code 62 = .ok (.new 32, 3) := by decide +kernel
theorem d_Do_init_65 : decode prog_1_method_1_code 65 = .ok (.dup, 1) := by decide +kernel
theorem d_Do_init_66 : decode prog_1_method_1_code 66 = .ok (.invokespecial 34, 3) := by decide +kernel
theorem d_Do_init_69 : decode prog_1_method_1_code 69 = .ok (.putfield 35, 3) := by decide +kernel
theorem d_Do_init_72 : decode prog_1_method_1_code 72 = .ok (.return_, 1) := by decide +kernel
theorem d_Do_edit_0 : decode prog_1_method_2_code 0 = .ok (.iload_n 1, 1) := by decide +kernel
theorem d_Do_edit_1 : decode prog_1_method_2_code 1 = .ok (.invokestatic 39, 3) := by decide +kernel
theorem d_Do_edit_4 : decode prog_1_method_2_code 4 = .ok (.ifCond .ne 5, 3) := by decide +kernel
theorem d_Do_edit_7 : decode prog_1_method_2_code 7 = .ok (.iconst (-1), 1) := by decide +kernel
theorem d_Do_edit_8 : decode prog_1_method_2_code 8 = .ok (.ireturn, 1) := by decide +kernel
theorem d_Do_edit_9 : decode prog_1_method_2_code 9 = .ok (.aload_n 0, 1) := by decide +kernel
theorem d_Do_edit_10 : decode prog_1_method_2_code 10 = .ok (.getfield 35, 3) := by decide +kernel
theorem d_Do_edit_13 : decode prog_1_method_2_code 13 = .ok (.iconst (-1), 1) := by decide +kernel
theorem d_Do_edit_14 : decode prog_1_method_2_code 14 = .ok (.iload_n 2, 1) := by decide +kernel
theorem d_Do_edit_15 : decode prog_1_method_2_code 15 = .ok (.iload_n 3, 1) := by decide +kernel
theorem d_Do_edit_16 : decode prog_1_method_2_code 16 = .ok (.iload 4, 2) := by decide +kernel
theorem d_Do_edit_18 : decode prog_1_method_2_code 18 = .ok (.iload 5, 2) := by decide +kernel
theorem d_Do_edit_20 : decode prog_1_method_2_code 20 = .ok (.invokevirtual 43, 3) := by decide +kernel
theorem d_Do_edit_23 : decode prog_1_method_2_code 23 = .ok (.aload_n 0, 1) := by decide +kernel
theorem d_Do_edit_24 : decode prog_1_method_2_code 24 = .ok (.getfield 35, 3) := by decide +kernel
theorem d_Do_edit_27 : decode prog_1_method_2_code 27 = .ok (.invokevirtual 47, 3) := by decide +kernel
theorem d_Do_edit_30 : decode prog_1_method_2_code 30 = .ok (.ifCond .eq 19, 3) := by decide +kernel
theorem d_Do_edit_33 : decode prog_1_method_2_code 33 = .ok (.aload_n 0, 1) := by decide +kernel
theorem d_Do_edit_34 : decode prog_1_method_2_code 34 = .ok (.getfield 11, 3) := by decide +kernel
theorem d_Do_edit_37 : decode prog_1_method_2_code 37 = .ok (.iload_n 1, 1) := by decide +kernel
theorem d_Do_edit_38 : decode prog_1_method_2_code 38 = .ok (.aaload, 1) := by decide +kernel
theorem d_Do_edit_39 : decode prog_1_method_2_code 39 = .ok (.aload_n 0, 1) := by decide +kernel
theorem d_Do_edit_40 : decode prog_1_method_2_code 40 = .ok (.getfield 35, 3) := by decide +kernel
theorem d_Do_edit_43 : decode prog_1_method_2_code 43 = .ok (.invokevirtual 51, 3) := by decide +kernel
theorem d_Do_edit_46 : decode prog_1_method_2_code 46 = .ok (.ifCond .ne 5, 3) := by decide +kernel
theorem d_Do_edit_49 : decode prog_1_method_2_code 49 = .ok (.iconst (-1), 1) := by decide +kernel
theorem d_Do_edit_50 : decode prog_1_method_2_code 50 = .ok (.ireturn, 1) := by decide +kernel
theorem d_Do_edit_51 : decode prog_1_method_2_code 51 = .ok (.aload_n 0, 1) := by decide +kernel
theorem d_Do_edit_52 : decode prog_1_method_2_code 52 = .ok (.getfield 11, 3) := by decide +kernel
theorem d_Do_edit_55 : decode prog_1_method_2_code 55 = .ok (.iload_n 1, 1) := by decide +kernel
theorem d_Do_edit_56 : decode prog_1_method_2_code 56 = .ok (.aaload, 1) := by decide +kernel
theorem d_Do_edit_57 : decode prog_1_method_2_code 57 = .ok (.aload_n 0, 1) := by decide +kernel
theorem d_Do_edit_58 : decode prog_1_method_2_code 58 = .ok (.getfield 35, 3) := by decide +kernel
theorem d_Do_edit_61 : decode prog_1_method_2_code 61 = .ok (.invokevirtual 55, 3) := by decide +kernel
theorem d_Do_edit_64 : decode prog_1_method_2_code 64 = .ok (.ireturn, 1) := by decide +kernel
theorem d_Do_emit_0 : decode prog_1_method_3_code 0 = .ok (.iload_n 1, 1) := by decide +kernel
theorem d_Do_emit_1 : decode prog_1_method_3_code 1 = .ok (.invokestatic 39, 3) := by decide +kernel
theorem d_Do_emit_4 : decode prog_1_method_3_code 4 = .ok (.ifCond .ne 5, 3) := by decide +kernel
theorem d_Do_emit_7 : decode prog_1_method_3_code 7 = .ok (.iconst (-1), 1) := by decide +kernel
theorem d_Do_emit_8 : decode prog_1_method_3_code 8 = .ok (.ireturn, 1) := by decide +kernel
theorem d_Do_emit_9 : decode prog_1_method_3_code 9 = .ok (.aload_n 0, 1) := by decide +kernel
theorem d_Do_emit_10 : decode prog_1_method_3_code 10 = .ok (.getfield 11, 3) := by decide +kernel
theorem d_Do_emit_13 : decode prog_1_method_3_code 13 = .ok (.iload_n 1, 1) := by decide +kernel
theorem d_Do_emit_14 : decode prog_1_method_3_code 14 = .ok (.aaload, 1) := by decide +kernel
theorem d_Do_emit_15 : decode prog_1_method_3_code 15 = .ok (.iload_n 2, 1) := by decide +kernel
theorem d_Do_emit_16 : decode prog_1_method_3_code 16 = .ok (.aload_n 0, 1) := by decide +kernel
theorem d_Do_emit_17 : decode prog_1_method_3_code 17 = .ok (.getfield 11, 3) := by decide +kernel
theorem d_Do_emit_20 : decode prog_1_method_3_code 20 = .ok (.iload_n 1, 1) := by decide +kernel
theorem d_Do_emit_21 : decode prog_1_method_3_code 21 = .ok (.aaload, 1) := by decide +kernel
theorem d_Do_emit_22 : decode prog_1_method_3_code 22 = .ok (.getfield 59, 3) := by decide +kernel
theorem d_Do_emit_25 : decode prog_1_method_3_code 25 = .ok (.invokevirtual 63, 3) := by decide +kernel
theorem d_Do_emit_28 : decode prog_1_method_3_code 28 = .ok (.istore_n 3, 1) := by decide +kernel
theorem d_Do_emit_29 : decode prog_1_method_3_code 29 = .ok (.iload_n 3, 1) := by decide +kernel
theorem d_Do_emit_30 : decode prog_1_method_3_code 30 = .ok (.iconst (-1), 1) := by decide +kernel
theorem d_Do_emit_31 : decode prog_1_method_3_code 31 = .ok (.if_icmp .ne 5, 3) := by decide +kernel
theorem d_Do_emit_34 : decode prog_1_method_3_code 34 = .ok (.iconst (-1), 1) := by decide +kernel
theorem d_Do_emit_35 : decode prog_1_method_3_code 35 = .ok (.ireturn, 1) := by decide +kernel
theorem d_Do_emit_36 : decode prog_1_method_3_code 36 = .ok (.aload_n 0, 1) := by decide +kernel
theorem d_Do_emit_37 : decode prog_1_method_3_code 37 = .ok (.getfield 28, 3) := by decide +kernel
theorem d_Do_emit_40 : decode prog_1_method_3_code 40 = .ok (.aload_n 0, 1) := by decide +kernel
theorem d_Do_emit_41 : decode prog_1_method_3_code 41 = .ok (.getfield 11, 3) := by decide +kernel
theorem d_Do_emit_44 : decode prog_1_method_3_code 44 = .ok (.iload_n 1, 1) := by decide +kernel
theorem d_Do_emit_45 : decode prog_1_method_3_code 45 = .ok (.aaload, 1) := by decide +kernel
theorem d_Do_emit_46 : decode prog_1_method_3_code 46 = .ok (.getfield 67, 3) := by decide +kernel
theorem d_Do_emit_49 : decode prog_1_method_3_code 49 = .ok (.iload_n 3, 1) := by decide +kernel
theorem d_Do_emit_50 : decode prog_1_method_3_code 50 = .ok (.aaload, 1) := by decide +kernel
theorem d_Do_emit_51 : decode prog_1_method_3_code 51 = .ok (.invokevirtual 71, 3) := by decide +kernel
theorem d_Do_emit_54 : decode prog_1_method_3_code 54 = .ok (.aload_n 0, 1) := by decide +kernel
theorem d_Do_emit_55 : decode prog_1_method_3_code 55 = .ok (.getfield 28, 3) := by decide +kernel
theorem d_Do_emit_58 : decode prog_1_method_3_code 58 = .ok (.getfield 75, 3) := by decide +kernel
theorem d_Do_emit_61 : decode prog_1_method_3_code 61 = .ok (.ireturn, 1) := by decide +kernel
theorem d_Do_wire_0 : decode prog_1_method_4_code 0 = .ok (.iload_n 1, 1) := by decide +kernel
theorem d_Do_wire_1 : decode prog_1_method_4_code 1 = .ok (.iconst (-1), 1) := by decide +kernel
theorem d_Do_wire_2 : decode prog_1_method_4_code 2 = .ok (.if_icmp .ne 13, 3) := by decide +kernel
theorem d_Do_wire_5 : decode prog_1_method_4_code 5 = .ok (.aload_n 0, 1) := by decide +kernel
theorem d_Do_wire_6 : decode prog_1_method_4_code 6 = .ok (.getfield 28, 3) := by decide +kernel
theorem d_Do_wire_9 : decode prog_1_method_4_code 9 = .ok (.getfield 75, 3) := by decide +kernel
theorem d_Do_wire_12 : decode prog_1_method_4_code 12 = .ok (.goto 11, 3) := by decide +kernel
theorem d_Do_wire_15 : decode prog_1_method_4_code 15 = .ok (.aload_n 0, 1) := by decide +kernel
theorem d_Do_wire_16 : decode prog_1_method_4_code 16 = .ok (.getfield 28, 3) := by decide +kernel
theorem d_Do_wire_19 : decode prog_1_method_4_code 19 = .ok (.iload_n 1, 1) := by decide +kernel
theorem d_Do_wire_20 : decode prog_1_method_4_code 20 = .ok (.invokevirtual 78, 3) := by decide +kernel
theorem d_Do_wire_23 : decode prog_1_method_4_code 23 = .ok (.ireturn, 1) := by decide +kernel
theorem d_Do_alter_0 : decode prog_1_method_5_code 0 = .ok (.aload_n 0, 1) := by decide +kernel
theorem d_Do_alter_1 : decode prog_1_method_5_code 1 = .ok (.getfield 28, 3) := by decide +kernel
theorem d_Do_alter_4 : decode prog_1_method_5_code 4 = .ok (.iload_n 1, 1) := by decide +kernel
theorem d_Do_alter_5 : decode prog_1_method_5_code 5 = .ok (.iload_n 2, 1) := by decide +kernel
theorem d_Do_alter_6 : decode prog_1_method_5_code 6 = .ok (.invokevirtual 82, 3) := by decide +kernel
theorem d_Do_alter_9 : decode prog_1_method_5_code 9 = .ok (.ireturn, 1) := by decide +kernel
theorem d_Do_cut_0 : decode prog_1_method_6_code 0 = .ok (.aload_n 0, 1) := by decide +kernel
theorem d_Do_cut_1 : decode prog_1_method_6_code 1 = .ok (.getfield 28, 3) := by decide +kernel
theorem d_Do_cut_4 : decode prog_1_method_6_code 4 = .ok (.iload_n 1, 1) := by decide +kernel
theorem d_Do_cut_5 : decode prog_1_method_6_code 5 = .ok (.invokevirtual 86, 3) := by decide +kernel
theorem d_Do_cut_8 : decode prog_1_method_6_code 8 = .ok (.ireturn, 1) := by decide +kernel
theorem d_Do_receive_0 : decode prog_1_method_7_code 0 = .ok (.iload_n 1, 1) := by decide +kernel
theorem d_Do_receive_1 : decode prog_1_method_7_code 1 = .ok (.invokestatic 39, 3) := by decide +kernel
theorem d_Do_receive_4 : decode prog_1_method_7_code 4 = .ok (.ifCond .ne 5, 3) := by decide +kernel
theorem d_Do_receive_7 : decode prog_1_method_7_code 7 = .ok (.iconst (-1), 1) := by decide +kernel
theorem d_Do_receive_8 : decode prog_1_method_7_code 8 = .ok (.ireturn, 1) := by decide +kernel
theorem d_Do_receive_9 : decode prog_1_method_7_code 9 = .ok (.aload_n 0, 1) := by decide +kernel
theorem d_Do_receive_10 : decode prog_1_method_7_code 10 = .ok (.getfield 28, 3) := by decide +kernel
theorem d_Do_receive_13 : decode prog_1_method_7_code 13 = .ok (.aload_n 0, 1) := by decide +kernel
theorem d_Do_receive_14 : decode prog_1_method_7_code 14 = .ok (.getfield 35, 3) := by decide +kernel
theorem d_Do_receive_17 : decode prog_1_method_7_code 17 = .ok (.invokevirtual 89, 3) := by decide +kernel
theorem d_Do_receive_20 : decode prog_1_method_7_code 20 = .ok (.ifCond .ne 6, 3) := by decide +kernel
theorem d_Do_receive_23 : decode prog_1_method_7_code 23 = .ok (.bipush (-2), 2) := by decide +kernel
theorem d_Do_receive_25 : decode prog_1_method_7_code 25 = .ok (.ireturn, 1) := by decide +kernel
theorem d_Do_receive_26 : decode prog_1_method_7_code 26 = .ok (.aload_n 0, 1) := by decide +kernel
theorem d_Do_receive_27 : decode prog_1_method_7_code 27 = .ok (.getfield 11, 3) := by decide +kernel
theorem d_Do_receive_30 : decode prog_1_method_7_code 30 = .ok (.iload_n 1, 1) := by decide +kernel
theorem d_Do_receive_31 : decode prog_1_method_7_code 31 = .ok (.aaload, 1) := by decide +kernel
theorem d_Do_receive_32 : decode prog_1_method_7_code 32 = .ok (.aload_n 0, 1) := by decide +kernel
theorem d_Do_receive_33 : decode prog_1_method_7_code 33 = .ok (.getfield 35, 3) := by decide +kernel
theorem d_Do_receive_36 : decode prog_1_method_7_code 36 = .ok (.invokevirtual 92, 3) := by decide +kernel
theorem d_Do_receive_39 : decode prog_1_method_7_code 39 = .ok (.ireturn, 1) := by decide +kernel
theorem d_Do_held_0 : decode prog_1_method_8_code 0 = .ok (.iload_n 1, 1) := by decide +kernel
theorem d_Do_held_1 : decode prog_1_method_8_code 1 = .ok (.invokestatic 39, 3) := by decide +kernel
theorem d_Do_held_4 : decode prog_1_method_8_code 4 = .ok (.ifCond .eq 15, 3) := by decide +kernel
theorem d_Do_held_7 : decode prog_1_method_8_code 7 = .ok (.aload_n 0, 1) := by decide +kernel
theorem d_Do_held_8 : decode prog_1_method_8_code 8 = .ok (.getfield 11, 3) := by decide +kernel
theorem d_Do_held_11 : decode prog_1_method_8_code 11 = .ok (.iload_n 1, 1) := by decide +kernel
theorem d_Do_held_12 : decode prog_1_method_8_code 12 = .ok (.aaload, 1) := by decide +kernel
theorem d_Do_held_13 : decode prog_1_method_8_code 13 = .ok (.getfield 59, 3) := by decide +kernel
theorem d_Do_held_16 : decode prog_1_method_8_code 16 = .ok (.goto 4, 3) := by decide +kernel
theorem d_Do_held_19 : decode prog_1_method_8_code 19 = .ok (.iconst (-1), 1) := by decide +kernel
theorem d_Do_held_20 : decode prog_1_method_8_code 20 = .ok (.ireturn, 1) := by decide +kernel
theorem d_Do_log_0 : decode prog_1_method_9_code 0 = .ok (.iload_n 1, 1) := by decide +kernel
theorem d_Do_log_1 : decode prog_1_method_9_code 1 = .ok (.invokestatic 39, 3) := by decide +kernel
theorem d_Do_log_4 : decode prog_1_method_9_code 4 = .ok (.ifCond .ne 5, 3) := by decide +kernel
theorem d_Do_log_7 : decode prog_1_method_9_code 7 = .ok (.iconst (-1), 1) := by decide +kernel
theorem d_Do_log_8 : decode prog_1_method_9_code 8 = .ok (.ireturn, 1) := by decide +kernel
theorem d_Do_log_9 : decode prog_1_method_9_code 9 = .ok (.aload_n 0, 1) := by decide +kernel
theorem d_Do_log_10 : decode prog_1_method_9_code 10 = .ok (.getfield 11, 3) := by decide +kernel
theorem d_Do_log_13 : decode prog_1_method_9_code 13 = .ok (.iload_n 1, 1) := by decide +kernel
theorem d_Do_log_14 : decode prog_1_method_9_code 14 = .ok (.aaload, 1) := by decide +kernel
theorem d_Do_log_15 : decode prog_1_method_9_code 15 = .ok (.astore_n 3, 1) := by decide +kernel
theorem d_Do_log_16 : decode prog_1_method_9_code 16 = .ok (.iload_n 2, 1) := by decide +kernel
theorem d_Do_log_17 : decode prog_1_method_9_code 17 = .ok (.iconst (-1), 1) := by decide +kernel
theorem d_Do_log_18 : decode prog_1_method_9_code 18 = .ok (.if_icmp .ne 8, 3) := by decide +kernel
theorem d_Do_log_21 : decode prog_1_method_9_code 21 = .ok (.aload_n 3, 1) := by decide +kernel
theorem d_Do_log_22 : decode prog_1_method_9_code 22 = .ok (.getfield 95, 3) := by decide +kernel
theorem d_Do_log_25 : decode prog_1_method_9_code 25 = .ok (.ireturn, 1) := by decide +kernel
theorem d_Do_log_26 : decode prog_1_method_9_code 26 = .ok (.iload_n 2, 1) := by decide +kernel
theorem d_Do_log_27 : decode prog_1_method_9_code 27 = .ok (.ifCond .lt 23, 3) := by decide +kernel
theorem d_Do_log_30 : decode prog_1_method_9_code 30 = .ok (.iload_n 2, 1) := by decide +kernel
theorem d_Do_log_31 : decode prog_1_method_9_code 31 = .ok (.aload_n 3, 1) := by decide +kernel
theorem d_Do_log_32 : decode prog_1_method_9_code 32 = .ok (.getfield 95, 3) := by decide +kernel
theorem d_Do_log_35 : decode prog_1_method_9_code 35 = .ok (.if_icmp .ge 15, 3) := by decide +kernel
theorem d_Do_log_38 : decode prog_1_method_9_code 38 = .ok (.aload_n 3, 1) := by decide +kernel
theorem d_Do_log_39 : decode prog_1_method_9_code 39 = .ok (.getfield 67, 3) := by decide +kernel
theorem d_Do_log_42 : decode prog_1_method_9_code 42 = .ok (.iload_n 2, 1) := by decide +kernel
theorem d_Do_log_43 : decode prog_1_method_9_code 43 = .ok (.aaload, 1) := by decide +kernel
theorem d_Do_log_44 : decode prog_1_method_9_code 44 = .ok (.getfield 98, 3) := by decide +kernel
theorem d_Do_log_47 : decode prog_1_method_9_code 47 = .ok (.goto 4, 3) := by decide +kernel
theorem d_Do_log_50 : decode prog_1_method_9_code 50 = .ok (.iconst (-1), 1) := by decide +kernel
theorem d_Do_log_51 : decode prog_1_method_9_code 51 = .ok (.ireturn, 1) := by decide +kernel
theorem d_Do_past_0 : decode prog_1_method_10_code 0 = .ok (.iload_n 1, 1) := by decide +kernel
theorem d_Do_past_1 : decode prog_1_method_10_code 1 = .ok (.invokestatic 39, 3) := by decide +kernel
theorem d_Do_past_4 : decode prog_1_method_10_code 4 = .ok (.ifCond .ne 5, 3) := by decide +kernel
theorem d_Do_past_7 : decode prog_1_method_10_code 7 = .ok (.iconst 0, 1) := by decide +kernel
theorem d_Do_past_8 : decode prog_1_method_10_code 8 = .ok (.ireturn, 1) := by decide +kernel
theorem d_Do_past_9 : decode prog_1_method_10_code 9 = .ok (.aload_n 0, 1) := by decide +kernel
theorem d_Do_past_10 : decode prog_1_method_10_code 10 = .ok (.getfield 11, 3) := by decide +kernel
theorem d_Do_past_13 : decode prog_1_method_10_code 13 = .ok (.iload_n 1, 1) := by decide +kernel
theorem d_Do_past_14 : decode prog_1_method_10_code 14 = .ok (.aaload, 1) := by decide +kernel
theorem d_Do_past_15 : decode prog_1_method_10_code 15 = .ok (.astore 4, 2) := by decide +kernel
theorem d_Do_past_17 : decode prog_1_method_10_code 17 = .ok (.aload 4, 2) := by decide +kernel
theorem d_Do_past_19 : decode prog_1_method_10_code 19 = .ok (.iload_n 2, 1) := by decide +kernel
theorem d_Do_past_20 : decode prog_1_method_10_code 20 = .ok (.aload 4, 2) := by decide +kernel
theorem d_Do_past_22 : decode prog_1_method_10_code 22 = .ok (.getfield 95, 3) := by decide +kernel
theorem d_Do_past_25 : decode prog_1_method_10_code 25 = .ok (.invokevirtual 63, 3) := by decide +kernel
theorem d_Do_past_28 : decode prog_1_method_10_code 28 = .ok (.istore 5, 2) := by decide +kernel
theorem d_Do_past_30 : decode prog_1_method_10_code 30 = .ok (.aload 4, 2) := by decide +kernel
theorem d_Do_past_32 : decode prog_1_method_10_code 32 = .ok (.iload_n 3, 1) := by decide +kernel
theorem d_Do_past_33 : decode prog_1_method_10_code 33 = .ok (.aload 4, 2) := by decide +kernel
theorem d_Do_past_35 : decode prog_1_method_10_code 35 = .ok (.getfield 95, 3) := by decide +kernel
theorem d_Do_past_38 : decode prog_1_method_10_code 38 = .ok (.invokevirtual 63, 3) := by decide +kernel
theorem d_Do_past_41 : decode prog_1_method_10_code 41 = .ok (.istore 6, 2) := by decide +kernel
theorem d_Do_past_43 : decode prog_1_method_10_code 43 = .ok (.iload 5, 2) := by decide +kernel
theorem d_Do_past_45 : decode prog_1_method_10_code 45 = .ok (.iconst (-1), 1) := by decide +kernel
theorem d_Do_past_46 : decode prog_1_method_10_code 46 = .ok (.if_icmp .eq 25, 3) := by decide +kernel
theorem d_Do_past_49 : decode prog_1_method_10_code 49 = .ok (.iload 6, 2) := by decide +kernel
theorem d_Do_past_51 : decode prog_1_method_10_code 51 = .ok (.iconst (-1), 1) := by decide +kernel
theorem d_Do_past_52 : decode prog_1_method_10_code 52 = .ok (.if_icmp .eq 19, 3) := by decide +kernel
theorem d_Do_past_55 : decode prog_1_method_10_code 55 = .ok (.aload 4, 2) := by decide +kernel
theorem d_Do_past_57 : decode prog_1_method_10_code 57 = .ok (.iload 5, 2) := by decide +kernel
theorem d_Do_past_59 : decode prog_1_method_10_code 59 = .ok (.iload 6, 2) := by decide +kernel
theorem d_Do_past_61 : decode prog_1_method_10_code 61 = .ok (.invokevirtual 101, 3) := by decide +kernel
theorem d_Do_past_64 : decode prog_1_method_10_code 64 = .ok (.ifCond .eq 7, 3) := by decide +kernel
theorem d_Do_past_67 : decode prog_1_method_10_code 67 = .ok (.iconst 1, 1) := by decide +kernel
theorem d_Do_past_68 : decode prog_1_method_10_code 68 = .ok (.goto 4, 3) := by decide +kernel
theorem d_Do_past_71 : decode prog_1_method_10_code 71 = .ok (.iconst 0, 1) := by decide +kernel
theorem d_Do_past_72 : decode prog_1_method_10_code 72 = .ok (.ireturn, 1) := by decide +kernel
theorem d_Do_heads_0 : decode prog_1_method_11_code 0 = .ok (.iload_n 1, 1) := by decide +kernel
theorem d_Do_heads_1 : decode prog_1_method_11_code 1 = .ok (.invokestatic 39, 3) := by decide +kernel
theorem d_Do_heads_4 : decode prog_1_method_11_code 4 = .ok (.ifCond .eq 15, 3) := by decide +kernel
theorem d_Do_heads_7 : decode prog_1_method_11_code 7 = .ok (.aload_n 0, 1) := by decide +kernel
theorem d_Do_heads_8 : decode prog_1_method_11_code 8 = .ok (.getfield 11, 3) := by decide +kernel
theorem d_Do_heads_11 : decode prog_1_method_11_code 11 = .ok (.iload_n 1, 1) := by decide +kernel
theorem d_Do_heads_12 : decode prog_1_method_11_code 12 = .ok (.aaload, 1) := by decide +kernel
theorem d_Do_heads_13 : decode prog_1_method_11_code 13 = .ok (.invokevirtual 104, 3) := by decide +kernel
theorem d_Do_heads_16 : decode prog_1_method_11_code 16 = .ok (.goto 4, 3) := by decide +kernel
theorem d_Do_heads_19 : decode prog_1_method_11_code 19 = .ok (.iconst (-1), 1) := by decide +kernel
theorem d_Do_heads_20 : decode prog_1_method_11_code 20 = .ok (.ireturn, 1) := by decide +kernel
theorem d_Do_entry_0 : decode prog_1_method_12_code 0 = .ok (.iload_n 1, 1) := by decide +kernel
theorem d_Do_entry_1 : decode prog_1_method_12_code 1 = .ok (.invokestatic 39, 3) := by decide +kernel
theorem d_Do_entry_4 : decode prog_1_method_12_code 4 = .ok (.ifCond .eq 23, 3) := by decide +kernel
theorem d_Do_entry_7 : decode prog_1_method_12_code 7 = .ok (.aload_n 0, 1) := by decide +kernel
theorem d_Do_entry_8 : decode prog_1_method_12_code 8 = .ok (.getfield 11, 3) := by decide +kernel
theorem d_Do_entry_11 : decode prog_1_method_12_code 11 = .ok (.iload_n 1, 1) := by decide +kernel
theorem d_Do_entry_12 : decode prog_1_method_12_code 12 = .ok (.aaload, 1) := by decide +kernel
theorem d_Do_entry_13 : decode prog_1_method_12_code 13 = .ok (.iload_n 2, 1) := by decide +kernel
theorem d_Do_entry_14 : decode prog_1_method_12_code 14 = .ok (.invokevirtual 108, 3) := by decide +kernel
theorem d_Do_entry_17 : decode prog_1_method_12_code 17 = .ok (.ifCond .eq 10, 3) := by decide +kernel
theorem d_Do_entry_20 : decode prog_1_method_12_code 20 = .ok (.iload_n 3, 1) := by decide +kernel
theorem d_Do_entry_21 : decode prog_1_method_12_code 21 = .ok (.invokestatic 111, 3) := by decide +kernel
theorem d_Do_entry_24 : decode prog_1_method_12_code 24 = .ok (.ifCond .ne 5, 3) := by decide +kernel
theorem d_Do_entry_27 : decode prog_1_method_12_code 27 = .ok (.iconst (-1), 1) := by decide +kernel
theorem d_Do_entry_28 : decode prog_1_method_12_code 28 = .ok (.ireturn, 1) := by decide +kernel
theorem d_Do_entry_29 : decode prog_1_method_12_code 29 = .ok (.aload_n 0, 1) := by decide +kernel
theorem d_Do_entry_30 : decode prog_1_method_12_code 30 = .ok (.getfield 21, 3) := by decide +kernel
theorem d_Do_entry_33 : decode prog_1_method_12_code 33 = .ok (.aload_n 0, 1) := by decide +kernel
theorem d_Do_entry_34 : decode prog_1_method_12_code 34 = .ok (.getfield 11, 3) := by decide +kernel
theorem d_Do_entry_37 : decode prog_1_method_12_code 37 = .ok (.iload_n 1, 1) := by decide +kernel
theorem d_Do_entry_38 : decode prog_1_method_12_code 38 = .ok (.aaload, 1) := by decide +kernel
theorem d_Do_entry_39 : decode prog_1_method_12_code 39 = .ok (.iload_n 2, 1) := by decide +kernel
theorem d_Do_entry_40 : decode prog_1_method_12_code 40 = .ok (.iload_n 3, 1) := by decide +kernel
theorem d_Do_entry_41 : decode prog_1_method_12_code 41 = .ok (.iload 4, 2) := by decide +kernel
theorem d_Do_entry_43 : decode prog_1_method_12_code 43 = .ok (.invokevirtual 114, 3) := by decide +kernel
theorem d_Do_entry_46 : decode prog_1_method_12_code 46 = .ok (.ireturn, 1) := by decide +kernel
theorem d_Do_element_0 : decode prog_1_method_13_code 0 = .ok (.iload_n 1, 1) := by decide +kernel
theorem d_Do_element_1 : decode prog_1_method_13_code 1 = .ok (.invokestatic 39, 3) := by decide +kernel
theorem d_Do_element_4 : decode prog_1_method_13_code 4 = .ok (.ifCond .eq 16, 3) := by decide +kernel
theorem d_Do_element_7 : decode prog_1_method_13_code 7 = .ok (.aload_n 0, 1) := by decide +kernel
theorem d_Do_element_8 : decode prog_1_method_13_code 8 = .ok (.getfield 11, 3) := by decide +kernel
theorem d_Do_element_11 : decode prog_1_method_13_code 11 = .ok (.iload_n 1, 1) := by decide +kernel
theorem d_Do_element_12 : decode prog_1_method_13_code 12 = .ok (.aaload, 1) := by decide +kernel
theorem d_Do_element_13 : decode prog_1_method_13_code 13 = .ok (.iload_n 2, 1) := by decide +kernel
theorem d_Do_element_14 : decode prog_1_method_13_code 14 = .ok (.invokevirtual 118, 3) := by decide +kernel
theorem d_Do_element_17 : decode prog_1_method_13_code 17 = .ok (.ifCond .ne 5, 3) := by decide +kernel
theorem d_Do_element_20 : decode prog_1_method_13_code 20 = .ok (.iconst (-1), 1) := by decide +kernel
theorem d_Do_element_21 : decode prog_1_method_13_code 21 = .ok (.ireturn, 1) := by decide +kernel
theorem d_Do_element_22 : decode prog_1_method_13_code 22 = .ok (.aload_n 0, 1) := by decide +kernel
theorem d_Do_element_23 : decode prog_1_method_13_code 23 = .ok (.getfield 21, 3) := by decide +kernel
theorem d_Do_element_26 : decode prog_1_method_13_code 26 = .ok (.aload_n 0, 1) := by decide +kernel
theorem d_Do_element_27 : decode prog_1_method_13_code 27 = .ok (.getfield 11, 3) := by decide +kernel
theorem d_Do_element_30 : decode prog_1_method_13_code 30 = .ok (.iload_n 1, 1) := by decide +kernel
theorem d_Do_element_31 : decode prog_1_method_13_code 31 = .ok (.aaload, 1) := by decide +kernel
theorem d_Do_element_32 : decode prog_1_method_13_code 32 = .ok (.iload_n 2, 1) := by decide +kernel
theorem d_Do_element_33 : decode prog_1_method_13_code 33 = .ok (.iload_n 3, 1) := by decide +kernel
theorem d_Do_element_34 : decode prog_1_method_13_code 34 = .ok (.invokevirtual 121, 3) := by decide +kernel
theorem d_Do_element_37 : decode prog_1_method_13_code 37 = .ok (.ireturn, 1) := by decide +kernel
theorem d_Do_value_0 : decode prog_1_method_14_code 0 = .ok (.iload_n 1, 1) := by decide +kernel
theorem d_Do_value_1 : decode prog_1_method_14_code 1 = .ok (.invokestatic 39, 3) := by decide +kernel
theorem d_Do_value_4 : decode prog_1_method_14_code 4 = .ok (.ifCond .ne 5, 3) := by decide +kernel
theorem d_Do_value_7 : decode prog_1_method_14_code 7 = .ok (.iconst (-1), 1) := by decide +kernel
theorem d_Do_value_8 : decode prog_1_method_14_code 8 = .ok (.ireturn, 1) := by decide +kernel
theorem d_Do_value_9 : decode prog_1_method_14_code 9 = .ok (.aload_n 0, 1) := by decide +kernel
theorem d_Do_value_10 : decode prog_1_method_14_code 10 = .ok (.getfield 11, 3) := by decide +kernel
theorem d_Do_value_13 : decode prog_1_method_14_code 13 = .ok (.iload_n 1, 1) := by decide +kernel
theorem d_Do_value_14 : decode prog_1_method_14_code 14 = .ok (.aaload, 1) := by decide +kernel
theorem d_Do_value_15 : decode prog_1_method_14_code 15 = .ok (.iload_n 2, 1) := by decide +kernel
theorem d_Do_value_16 : decode prog_1_method_14_code 16 = .ok (.aload_n 0, 1) := by decide +kernel
theorem d_Do_value_17 : decode prog_1_method_14_code 17 = .ok (.getfield 11, 3) := by decide +kernel
theorem d_Do_value_20 : decode prog_1_method_14_code 20 = .ok (.iload_n 1, 1) := by decide +kernel
theorem d_Do_value_21 : decode prog_1_method_14_code 21 = .ok (.aaload, 1) := by decide +kernel
theorem d_Do_value_22 : decode prog_1_method_14_code 22 = .ok (.getfield 95, 3) := by decide +kernel
theorem d_Do_value_25 : decode prog_1_method_14_code 25 = .ok (.invokevirtual 63, 3) := by decide +kernel
theorem d_Do_value_28 : decode prog_1_method_14_code 28 = .ok (.istore_n 3, 1) := by decide +kernel
theorem d_Do_value_29 : decode prog_1_method_14_code 29 = .ok (.iload_n 3, 1) := by decide +kernel
theorem d_Do_value_30 : decode prog_1_method_14_code 30 = .ok (.iconst (-1), 1) := by decide +kernel
theorem d_Do_value_31 : decode prog_1_method_14_code 31 = .ok (.if_icmp .ne 7, 3) := by decide +kernel
theorem d_Do_value_34 : decode prog_1_method_14_code 34 = .ok (.iconst (-1), 1) := by decide +kernel
theorem d_Do_value_35 : decode prog_1_method_14_code 35 = .ok (.goto 17, 3) := by decide +kernel
theorem d_Do_value_38 : decode prog_1_method_14_code 38 = .ok (.aload_n 0, 1) := by decide +kernel
theorem d_Do_value_39 : decode prog_1_method_14_code 39 = .ok (.getfield 11, 3) := by decide +kernel
theorem d_Do_value_42 : decode prog_1_method_14_code 42 = .ok (.iload_n 1, 1) := by decide +kernel
theorem d_Do_value_43 : decode prog_1_method_14_code 43 = .ok (.aaload, 1) := by decide +kernel
theorem d_Do_value_44 : decode prog_1_method_14_code 44 = .ok (.getfield 67, 3) := by decide +kernel
theorem d_Do_value_47 : decode prog_1_method_14_code 47 = .ok (.iload_n 3, 1) := by decide +kernel
theorem d_Do_value_48 : decode prog_1_method_14_code 48 = .ok (.aaload, 1) := by decide +kernel
theorem d_Do_value_49 : decode prog_1_method_14_code 49 = .ok (.getfield 125, 3) := by decide +kernel
theorem d_Do_value_52 : decode prog_1_method_14_code 52 = .ok (.ireturn, 1) := by decide +kernel
theorem d_Do_depth_0 : decode prog_1_method_15_code 0 = .ok (.iload_n 1, 1) := by decide +kernel
theorem d_Do_depth_1 : decode prog_1_method_15_code 1 = .ok (.invokestatic 39, 3) := by decide +kernel
theorem d_Do_depth_4 : decode prog_1_method_15_code 4 = .ok (.ifCond .eq 20, 3) := by decide +kernel
theorem d_Do_depth_7 : decode prog_1_method_15_code 7 = .ok (.aload_n 0, 1) := by decide +kernel
theorem d_Do_depth_8 : decode prog_1_method_15_code 8 = .ok (.getfield 21, 3) := by decide +kernel
theorem d_Do_depth_11 : decode prog_1_method_15_code 11 = .ok (.aload_n 0, 1) := by decide +kernel
theorem d_Do_depth_12 : decode prog_1_method_15_code 12 = .ok (.getfield 11, 3) := by decide +kernel
theorem d_Do_depth_15 : decode prog_1_method_15_code 15 = .ok (.iload_n 1, 1) := by decide +kernel
theorem d_Do_depth_16 : decode prog_1_method_15_code 16 = .ok (.aaload, 1) := by decide +kernel
theorem d_Do_depth_17 : decode prog_1_method_15_code 17 = .ok (.iload_n 2, 1) := by decide +kernel
theorem d_Do_depth_18 : decode prog_1_method_15_code 18 = .ok (.invokevirtual 128, 3) := by decide +kernel
theorem d_Do_depth_21 : decode prog_1_method_15_code 21 = .ok (.goto 4, 3) := by decide +kernel
theorem d_Do_depth_24 : decode prog_1_method_15_code 24 = .ok (.iconst (-1), 1) := by decide +kernel
theorem d_Do_depth_25 : decode prog_1_method_15_code 25 = .ok (.ireturn, 1) := by decide +kernel
theorem d_Do_sum_0 : decode prog_1_method_16_code 0 = .ok (.iload_n 1, 1) := by decide +kernel
theorem d_Do_sum_1 : decode prog_1_method_16_code 1 = .ok (.invokestatic 39, 3) := by decide +kernel
theorem d_Do_sum_4 : decode prog_1_method_16_code 4 = .ok (.ifCond .eq 19, 3) := by decide +kernel
theorem d_Do_sum_7 : decode prog_1_method_16_code 7 = .ok (.aload_n 0, 1) := by decide +kernel
theorem d_Do_sum_8 : decode prog_1_method_16_code 8 = .ok (.getfield 21, 3) := by decide +kernel
theorem d_Do_sum_11 : decode prog_1_method_16_code 11 = .ok (.aload_n 0, 1) := by decide +kernel
theorem d_Do_sum_12 : decode prog_1_method_16_code 12 = .ok (.getfield 11, 3) := by decide +kernel
theorem d_Do_sum_15 : decode prog_1_method_16_code 15 = .ok (.iload_n 1, 1) := by decide +kernel
theorem d_Do_sum_16 : decode prog_1_method_16_code 16 = .ok (.aaload, 1) := by decide +kernel
theorem d_Do_sum_17 : decode prog_1_method_16_code 17 = .ok (.invokevirtual 132, 3) := by decide +kernel
theorem d_Do_sum_20 : decode prog_1_method_16_code 20 = .ok (.goto 4, 3) := by decide +kernel
theorem d_Do_sum_23 : decode prog_1_method_16_code 23 = .ok (.iconst 0, 1) := by decide +kernel
theorem d_Do_sum_24 : decode prog_1_method_16_code 24 = .ok (.ireturn, 1) := by decide +kernel
theorem d_Do_level_0 : decode prog_1_method_17_code 0 = .ok (.iload_n 1, 1) := by decide +kernel
theorem d_Do_level_1 : decode prog_1_method_17_code 1 = .ok (.invokestatic 39, 3) := by decide +kernel
theorem d_Do_level_4 : decode prog_1_method_17_code 4 = .ok (.ifCond .eq 32, 3) := by decide +kernel
theorem d_Do_level_7 : decode prog_1_method_17_code 7 = .ok (.iload_n 2, 1) := by decide +kernel
theorem d_Do_level_8 : decode prog_1_method_17_code 8 = .ok (.invokestatic 39, 3) := by decide +kernel
theorem d_Do_level_11 : decode prog_1_method_17_code 11 = .ok (.ifCond .eq 25, 3) := by decide +kernel
theorem d_Do_level_14 : decode prog_1_method_17_code 14 = .ok (.aload_n 0, 1) := by decide +kernel
theorem d_Do_level_15 : decode prog_1_method_17_code 15 = .ok (.getfield 11, 3) := by decide +kernel
theorem d_Do_level_18 : decode prog_1_method_17_code 18 = .ok (.iload_n 1, 1) := by decide +kernel
theorem d_Do_level_19 : decode prog_1_method_17_code 19 = .ok (.aaload, 1) := by decide +kernel
theorem d_Do_level_20 : decode prog_1_method_17_code 20 = .ok (.aload_n 0, 1) := by decide +kernel
theorem d_Do_level_21 : decode prog_1_method_17_code 21 = .ok (.getfield 11, 3) := by decide +kernel
theorem d_Do_level_24 : decode prog_1_method_17_code 24 = .ok (.iload_n 2, 1) := by decide +kernel
theorem d_Do_level_25 : decode prog_1_method_17_code 25 = .ok (.aaload, 1) := by decide +kernel
theorem d_Do_level_26 : decode prog_1_method_17_code 26 = .ok (.invokevirtual 136, 3) := by decide +kernel
theorem d_Do_level_29 : decode prog_1_method_17_code 29 = .ok (.ifCond .eq 7, 3) := by decide +kernel
theorem d_Do_level_32 : decode prog_1_method_17_code 32 = .ok (.iconst 1, 1) := by decide +kernel
theorem d_Do_level_33 : decode prog_1_method_17_code 33 = .ok (.goto 4, 3) := by decide +kernel
theorem d_Do_level_36 : decode prog_1_method_17_code 36 = .ok (.iconst 0, 1) := by decide +kernel
theorem d_Do_level_37 : decode prog_1_method_17_code 37 = .ok (.ireturn, 1) := by decide +kernel
theorem d_Do_isReplica_0 : decode prog_1_method_18_code 0 = .ok (.iload_n 0, 1) := by decide +kernel
theorem d_Do_isReplica_1 : decode prog_1_method_18_code 1 = .ok (.ifCond .lt 12, 3) := by decide +kernel
theorem d_Do_isReplica_4 : decode prog_1_method_18_code 4 = .ok (.iload_n 0, 1) := by decide +kernel
theorem d_Do_isReplica_5 : decode prog_1_method_18_code 5 = .ok (.iconst 3, 1) := by decide +kernel
theorem d_Do_isReplica_6 : decode prog_1_method_18_code 6 = .ok (.if_icmp .ge 7, 3) := by decide +kernel
theorem d_Do_isReplica_9 : decode prog_1_method_18_code 9 = .ok (.iconst 1, 1) := by decide +kernel
theorem d_Do_isReplica_10 : decode prog_1_method_18_code 10 = .ok (.goto 4, 3) := by decide +kernel
theorem d_Do_isReplica_13 : decode prog_1_method_18_code 13 = .ok (.iconst 0, 1) := by decide +kernel
theorem d_Do_isReplica_14 : decode prog_1_method_18_code 14 = .ok (.ireturn, 1) := by decide +kernel
theorem d_Do_isKey_0 : decode prog_1_method_19_code 0 = .ok (.iload_n 0, 1) := by decide +kernel
theorem d_Do_isKey_1 : decode prog_1_method_19_code 1 = .ok (.ifCond .lt 12, 3) := by decide +kernel
theorem d_Do_isKey_4 : decode prog_1_method_19_code 4 = .ok (.iload_n 0, 1) := by decide +kernel
theorem d_Do_isKey_5 : decode prog_1_method_19_code 5 = .ok (.iconst 4, 1) := by decide +kernel
theorem d_Do_isKey_6 : decode prog_1_method_19_code 6 = .ok (.if_icmp .ge 7, 3) := by decide +kernel
theorem d_Do_isKey_9 : decode prog_1_method_19_code 9 = .ok (.iconst 1, 1) := by decide +kernel
theorem d_Do_isKey_10 : decode prog_1_method_19_code 10 = .ok (.goto 4, 3) := by decide +kernel
theorem d_Do_isKey_13 : decode prog_1_method_19_code 13 = .ok (.iconst 0, 1) := by decide +kernel
theorem d_Do_isKey_14 : decode prog_1_method_19_code 14 = .ok (.ireturn, 1) := by decide +kernel
theorem d_Do_isId_0 : decode prog_1_method_20_code 0 = .ok (.iload_n 0, 1) := by decide +kernel
theorem d_Do_isId_1 : decode prog_1_method_20_code 1 = .ok (.iconst 2, 1) := by decide +kernel
theorem d_Do_isId_2 : decode prog_1_method_20_code 2 = .ok (.ishr, 1) := by decide +kernel
theorem d_Do_isId_3 : decode prog_1_method_20_code 3 = .ok (.istore_n 1, 1) := by decide +kernel
theorem d_Do_isId_4 : decode prog_1_method_20_code 4 = .ok (.iload_n 1, 1) := by decide +kernel
theorem d_Do_isId_5 : decode prog_1_method_20_code 5 = .ok (.iconst 1, 1) := by decide +kernel
theorem d_Do_isId_6 : decode prog_1_method_20_code 6 = .ok (.if_icmp .lt 22, 3) := by decide +kernel
theorem d_Do_isId_9 : decode prog_1_method_20_code 9 = .ok (.iload_n 1, 1) := by decide +kernel
theorem d_Do_isId_10 : decode prog_1_method_20_code 10 = .ok (.bipush 40, 2) := by decide +kernel
theorem d_Do_isId_12 : decode prog_1_method_20_code 12 = .ok (.if_icmp .gt 16, 3) := by decide +kernel
theorem d_Do_isId_15 : decode prog_1_method_20_code 15 = .ok (.iload_n 0, 1) := by decide +kernel
theorem d_Do_isId_16 : decode prog_1_method_20_code 16 = .ok (.iconst 3, 1) := by decide +kernel
theorem d_Do_isId_17 : decode prog_1_method_20_code 17 = .ok (.iand, 1) := by decide +kernel
theorem d_Do_isId_18 : decode prog_1_method_20_code 18 = .ok (.invokestatic 39, 3) := by decide +kernel
theorem d_Do_isId_21 : decode prog_1_method_20_code 21 = .ok (.ifCond .eq 7, 3) := by decide +kernel
theorem d_Do_isId_24 : decode prog_1_method_20_code 24 = .ok (.iconst 1, 1) := by decide +kernel
theorem d_Do_isId_25 : decode prog_1_method_20_code 25 = .ok (.goto 4, 3) := by decide +kernel
theorem d_Do_isId_28 : decode prog_1_method_20_code 28 = .ok (.iconst 0, 1) := by decide +kernel
theorem d_Do_isId_29 : decode prog_1_method_20_code 29 = .ok (.ireturn, 1) := by decide +kernel
