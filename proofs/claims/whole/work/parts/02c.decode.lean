theorem dX12_addShake_36 : decode cX12_addShake 36 = .ok (.iadd, 1) := by decide +kernel
theorem dX12_addShake_37 : decode cX12_addShake 37 = .ok (.putfield 210, 3) := by decide +kernel
theorem dX12_addShake_40 : decode cX12_addShake 40 = .ok (.return_, 1) := by decide +kernel
theorem dX12_shake_0 : decode cX12_shake 0 = .ok (.iload_n 2, 1) := by decide +kernel
theorem dX12_shake_1 : decode cX12_shake 1 = .ok (.invokestatic 121, 3) := by decide +kernel
theorem dX12_shake_4 : decode cX12_shake 4 = .ok (.ifCond .ne 7, 3) := by decide +kernel
theorem dX12_shake_7 : decode cX12_shake 7 = .ok (.sipush (-1001), 3) := by decide +kernel
theorem dX12_shake_10 : decode cX12_shake 10 = .ok (.ireturn, 1) := by decide +kernel
theorem dX12_shake_11 : decode cX12_shake 11 = .ok (.iload_n 1, 1) := by decide +kernel
theorem dX12_shake_12 : decode cX12_shake 12 = .ok (.invokestatic 213, 3) := by decide +kernel
theorem dX12_shake_15 : decode cX12_shake 15 = .ok (.ifCond .eq 10, 3) := by decide +kernel
theorem dX12_shake_18 : decode cX12_shake 18 = .ok (.iload_n 3, 1) := by decide +kernel
theorem dX12_shake_19 : decode cX12_shake 19 = .ok (.invokestatic 204, 3) := by decide +kernel
theorem dX12_shake_22 : decode cX12_shake 22 = .ok (.ifCond .ne 7, 3) := by decide +kernel
theorem dX12_shake_25 : decode cX12_shake 25 = .ok (.sipush (-1002), 3) := by decide +kernel
theorem dX12_shake_28 : decode cX12_shake 28 = .ok (.ireturn, 1) := by decide +kernel
theorem dX12_shake_29 : decode cX12_shake 29 = .ok (.aload_n 0, 1) := by decide +kernel
theorem dX12_shake_30 : decode cX12_shake 30 = .ok (.getfield 216, 3) := by decide +kernel
theorem dX12_shake_33 : decode cX12_shake 33 = .ok (.iload_n 1, 1) := by decide +kernel
theorem dX12_shake_34 : decode cX12_shake 34 = .ok (.if_icmp .le 7, 3) := by decide +kernel
theorem dX12_shake_37 : decode cX12_shake 37 = .ok (.sipush (-1003), 3) := by decide +kernel
theorem dX12_shake_40 : decode cX12_shake 40 = .ok (.ireturn, 1) := by decide +kernel
theorem dX12_shake_41 : decode cX12_shake 41 = .ok (.aload_n 0, 1) := by decide +kernel
theorem dX12_shake_42 : decode cX12_shake 42 = .ok (.getfield 210, 3) := by decide +kernel
theorem dX12_shake_45 : decode cX12_shake 45 = .ok (.bipush 60, 2) := by decide +kernel
theorem dX12_shake_47 : decode cX12_shake 47 = .ok (.if_icmp .ne 7, 3) := by decide +kernel
theorem dX12_shake_50 : decode cX12_shake 50 = .ok (.sipush (-1004), 3) := by decide +kernel
theorem dX12_shake_53 : decode cX12_shake 53 = .ok (.ireturn, 1) := by decide +kernel
theorem dX12_shake_54 : decode cX12_shake 54 = .ok (.aload_n 0, 1) := by decide +kernel
theorem dX12_shake_55 : decode cX12_shake 55 = .ok (.iload_n 1, 1) := by decide +kernel
theorem dX12_shake_56 : decode cX12_shake 56 = .ok (.iload_n 2, 1) := by decide +kernel
theorem dX12_shake_57 : decode cX12_shake 57 = .ok (.iload_n 3, 1) := by decide +kernel
theorem dX12_shake_58 : decode cX12_shake 58 = .ok (.invokevirtual 219, 3) := by decide +kernel
theorem dX12_shake_61 : decode cX12_shake 61 = .ok (.aload_n 0, 1) := by decide +kernel
theorem dX12_shake_62 : decode cX12_shake 62 = .ok (.iload_n 1, 1) := by decide +kernel
theorem dX12_shake_63 : decode cX12_shake 63 = .ok (.putfield 216, 3) := by decide +kernel
theorem dX12_shake_66 : decode cX12_shake 66 = .ok (.aload_n 0, 1) := by decide +kernel
theorem dX12_shake_67 : decode cX12_shake 67 = .ok (.getfield 210, 3) := by decide +kernel
theorem dX12_shake_70 : decode cX12_shake 70 = .ok (.iconst 1, 1) := by decide +kernel
theorem dX12_shake_71 : decode cX12_shake 71 = .ok (.isub, 1) := by decide +kernel
theorem dX12_shake_72 : decode cX12_shake 72 = .ok (.ireturn, 1) := by decide +kernel
theorem dX12_seed_0 : decode cX12_seed 0 = .ok (.iload_n 1, 1) := by decide +kernel
theorem dX12_seed_1 : decode cX12_seed 1 = .ok (.ifCond .ge 7, 3) := by decide +kernel
theorem dX12_seed_4 : decode cX12_seed 4 = .ok (.sipush (-1002), 3) := by decide +kernel
theorem dX12_seed_7 : decode cX12_seed 7 = .ok (.ireturn, 1) := by decide +kernel
theorem dX12_seed_8 : decode cX12_seed 8 = .ok (.aload_n 0, 1) := by decide +kernel
theorem dX12_seed_9 : decode cX12_seed 9 = .ok (.getfield 223, 3) := by decide +kernel
theorem dX12_seed_12 : decode cX12_seed 12 = .ok (.istore_n 2, 1) := by decide +kernel
theorem dX12_seed_13 : decode cX12_seed 13 = .ok (.aload_n 0, 1) := by decide +kernel
theorem dX12_seed_14 : decode cX12_seed 14 = .ok (.iload_n 1, 1) := by decide +kernel
theorem dX12_seed_15 : decode cX12_seed 15 = .ok (.putfield 223, 3) := by decide +kernel
theorem dX12_seed_18 : decode cX12_seed 18 = .ok (.iload_n 2, 1) := by decide +kernel
theorem dX12_seed_19 : decode cX12_seed 19 = .ok (.ireturn, 1) := by decide +kernel
theorem dX12_draw_0 : decode cX12_draw 0 = .ok (.aload_n 0, 1) := by decide +kernel
theorem dX12_draw_1 : decode cX12_draw 1 = .ok (.aload_n 0, 1) := by decide +kernel
theorem dX12_draw_2 : decode cX12_draw 2 = .ok (.getfield 223, 3) := by decide +kernel
theorem dX12_draw_5 : decode cX12_draw 5 = .ok (.i2l, 1) := by decide +kernel
theorem dX12_draw_6 : decode cX12_draw 6 = .ok (.ldc2_w 226, 3) := by decide +kernel
theorem dX12_draw_9 : decode cX12_draw 9 = .ok (.lmul, 1) := by decide +kernel
theorem dX12_draw_10 : decode cX12_draw 10 = .ok (.ldc2_w 228, 3) := by decide +kernel
theorem dX12_draw_13 : decode cX12_draw 13 = .ok (.ladd, 1) := by decide +kernel
theorem dX12_draw_14 : decode cX12_draw 14 = .ok (.ldc2_w 230, 3) := by decide +kernel
theorem dX12_draw_17 : decode cX12_draw 17 = .ok (.lrem, 1) := by decide +kernel
theorem dX12_draw_18 : decode cX12_draw 18 = .ok (.l2i, 1) := by decide +kernel
theorem dX12_draw_19 : decode cX12_draw 19 = .ok (.putfield 223, 3) := by decide +kernel
theorem dX12_draw_22 : decode cX12_draw 22 = .ok (.aload_n 0, 1) := by decide +kernel
theorem dX12_draw_23 : decode cX12_draw 23 = .ok (.getfield 223, 3) := by decide +kernel
theorem dX12_draw_26 : decode cX12_draw 26 = .ok (.ldc 232, 2) := by decide +kernel
theorem dX12_draw_28 : decode cX12_draw 28 = .ok (.idiv, 1) := by decide +kernel
theorem dX12_draw_29 : decode cX12_draw 29 = .ok (.iload_n 1, 1) := by decide +kernel
theorem dX12_draw_30 : decode cX12_draw 30 = .ok (.irem, 1) := by decide +kernel
theorem dX12_draw_31 : decode cX12_draw 31 = .ok (.ireturn, 1) := by decide +kernel
theorem dX12_drawSize_0 : decode cX12_drawSize 0 = .ok (.iconst 1, 1) := by decide +kernel
theorem dX12_drawSize_1 : decode cX12_drawSize 1 = .ok (.istore_n 1, 1) := by decide +kernel
theorem dX12_drawSize_2 : decode cX12_drawSize 2 = .ok (.iconst 1, 1) := by decide +kernel
theorem dX12_drawSize_3 : decode cX12_drawSize 3 = .ok (.istore_n 2, 1) := by decide +kernel
theorem dX12_drawSize_4 : decode cX12_drawSize 4 = .ok (.iload_n 2, 1) := by decide +kernel
theorem dX12_drawSize_5 : decode cX12_drawSize 5 = .ok (.ifCond .eq 45, 3) := by decide +kernel
theorem dX12_drawSize_8 : decode cX12_drawSize 8 = .ok (.iload_n 1, 1) := by decide +kernel
theorem dX12_drawSize_9 : decode cX12_drawSize 9 = .ok (.bipush 9, 2) := by decide +kernel
theorem dX12_drawSize_11 : decode cX12_drawSize 11 = .ok (.if_icmp .ge 39, 3) := by decide +kernel
theorem dX12_drawSize_14 : decode cX12_drawSize 14 = .ok (.aload_n 0, 1) := by decide +kernel
theorem dX12_drawSize_15 : decode cX12_drawSize 15 = .ok (.bipush 100, 2) := by decide +kernel
theorem dX12_drawSize_17 : decode cX12_drawSize 17 = .ok (.invokevirtual 233, 3) := by decide +kernel
theorem dX12_drawSize_20 : decode cX12_drawSize 20 = .ok (.aload_n 0, 1) := by decide +kernel
theorem dX12_drawSize_21 : decode cX12_drawSize 21 = .ok (.getfield 7, 3) := by decide +kernel
theorem dX12_drawSize_24 : decode cX12_drawSize 24 = .ok (.iconst 1, 1) := by decide +kernel
theorem dX12_drawSize_25 : decode cX12_drawSize 25 = .ok (.iaload, 1) := by decide +kernel
theorem dX12_drawSize_26 : decode cX12_drawSize 26 = .ok (.if_icmp .ge 7, 3) := by decide +kernel
theorem dX12_drawSize_29 : decode cX12_drawSize 29 = .ok (.iconst 1, 1) := by decide +kernel
theorem dX12_drawSize_30 : decode cX12_drawSize 30 = .ok (.goto 4, 3) := by decide +kernel
theorem dX12_drawSize_33 : decode cX12_drawSize 33 = .ok (.iconst 0, 1) := by decide +kernel
theorem dX12_drawSize_34 : decode cX12_drawSize 34 = .ok (.istore_n 2, 1) := by decide +kernel
theorem dX12_drawSize_35 : decode cX12_drawSize 35 = .ok (.iload_n 1, 1) := by decide +kernel
theorem dX12_drawSize_36 : decode cX12_drawSize 36 = .ok (.iload_n 2, 1) := by decide +kernel
theorem dX12_drawSize_37 : decode cX12_drawSize 37 = .ok (.ifCond .eq 7, 3) := by decide +kernel
theorem dX12_drawSize_40 : decode cX12_drawSize 40 = .ok (.iconst 1, 1) := by decide +kernel
theorem dX12_drawSize_41 : decode cX12_drawSize 41 = .ok (.goto 4, 3) := by decide +kernel
theorem dX12_drawSize_44 : decode cX12_drawSize 44 = .ok (.iconst 0, 1) := by decide +kernel
theorem dX12_drawSize_45 : decode cX12_drawSize 45 = .ok (.iadd, 1) := by decide +kernel
theorem dX12_drawSize_46 : decode cX12_drawSize 46 = .ok (.istore_n 1, 1) := by decide +kernel
theorem dX12_drawSize_47 : decode cX12_drawSize 47 = .ok (.goto (-43), 3) := by decide +kernel
theorem dX12_drawSize_50 : decode cX12_drawSize 50 = .ok (.iload_n 1, 1) := by decide +kernel
theorem dX12_drawSize_51 : decode cX12_drawSize 51 = .ok (.ireturn, 1) := by decide +kernel
theorem dX12_drawNear_0 : decode cX12_drawNear 0 = .ok (.aload_n 0, 1) := by decide +kernel
theorem dX12_drawNear_1 : decode cX12_drawNear 1 = .ok (.iload_n 1, 1) := by decide +kernel
theorem dX12_drawNear_2 : decode cX12_drawNear 2 = .ok (.aload_n 0, 1) := by decide +kernel
theorem dX12_drawNear_3 : decode cX12_drawNear 3 = .ok (.getfield 7, 3) := by decide +kernel
theorem dX12_drawNear_6 : decode cX12_drawNear 6 = .ok (.iconst 4, 1) := by decide +kernel
theorem dX12_drawNear_7 : decode cX12_drawNear 7 = .ok (.iaload, 1) := by decide +kernel
theorem dX12_drawNear_8 : decode cX12_drawNear 8 = .ok (.invokestatic 128, 3) := by decide +kernel
theorem dX12_drawNear_11 : decode cX12_drawNear 11 = .ok (.invokevirtual 233, 3) := by decide +kernel
theorem dX12_drawNear_14 : decode cX12_drawNear 14 = .ok (.istore_n 2, 1) := by decide +kernel
theorem dX12_drawNear_15 : decode cX12_drawNear 15 = .ok (.iconst (-1), 1) := by decide +kernel
theorem dX12_drawNear_16 : decode cX12_drawNear 16 = .ok (.istore_n 3, 1) := by decide +kernel
theorem dX12_drawNear_17 : decode cX12_drawNear 17 = .ok (.iconst 0, 1) := by decide +kernel
theorem dX12_drawNear_18 : decode cX12_drawNear 18 = .ok (.istore 4, 2) := by decide +kernel
theorem dX12_drawNear_20 : decode cX12_drawNear 20 = .ok (.iload 4, 2) := by decide +kernel
theorem dX12_drawNear_22 : decode cX12_drawNear 22 = .ok (.bipush 64, 2) := by decide +kernel
theorem dX12_drawNear_24 : decode cX12_drawNear 24 = .ok (.if_icmp .ge 64, 3) := by decide +kernel
theorem dX12_drawNear_27 : decode cX12_drawNear 27 = .ok (.iload_n 3, 1) := by decide +kernel
theorem dX12_drawNear_28 : decode cX12_drawNear 28 = .ok (.ifCond .ge 60, 3) := by decide +kernel
theorem dX12_drawNear_31 : decode cX12_drawNear 31 = .ok (.iload 4, 2) := by decide +kernel
theorem dX12_drawNear_33 : decode cX12_drawNear 33 = .ok (.iload_n 1, 1) := by decide +kernel
theorem dX12_drawNear_34 : decode cX12_drawNear 34 = .ok (.invokestatic 117, 3) := by decide +kernel
theorem dX12_drawNear_37 : decode cX12_drawNear 37 = .ok (.aload_n 0, 1) := by decide +kernel
theorem dX12_drawNear_38 : decode cX12_drawNear 38 = .ok (.getfield 7, 3) := by decide +kernel
theorem dX12_drawNear_41 : decode cX12_drawNear 41 = .ok (.iconst 4, 1) := by decide +kernel
theorem dX12_drawNear_42 : decode cX12_drawNear 42 = .ok (.iaload, 1) := by decide +kernel
theorem dX12_drawNear_43 : decode cX12_drawNear 43 = .ok (.if_icmp .gt 7, 3) := by decide +kernel
theorem dX12_drawNear_46 : decode cX12_drawNear 46 = .ok (.iconst 1, 1) := by decide +kernel
theorem dX12_drawNear_47 : decode cX12_drawNear 47 = .ok (.goto 4, 3) := by decide +kernel
theorem dX12_drawNear_50 : decode cX12_drawNear 50 = .ok (.iconst 0, 1) := by decide +kernel
theorem dX12_drawNear_51 : decode cX12_drawNear 51 = .ok (.istore 5, 2) := by decide +kernel
theorem dX12_drawNear_53 : decode cX12_drawNear 53 = .ok (.iload 5, 2) := by decide +kernel
theorem dX12_drawNear_55 : decode cX12_drawNear 55 = .ok (.ifCond .eq 12, 3) := by decide +kernel
theorem dX12_drawNear_58 : decode cX12_drawNear 58 = .ok (.iload_n 2, 1) := by decide +kernel
theorem dX12_drawNear_59 : decode cX12_drawNear 59 = .ok (.ifCond .ne 8, 3) := by decide +kernel
theorem dX12_drawNear_62 : decode cX12_drawNear 62 = .ok (.iload 4, 2) := by decide +kernel
theorem dX12_drawNear_64 : decode cX12_drawNear 64 = .ok (.goto 4, 3) := by decide +kernel
theorem dX12_drawNear_67 : decode cX12_drawNear 67 = .ok (.iload_n 3, 1) := by decide +kernel
theorem dX12_drawNear_68 : decode cX12_drawNear 68 = .ok (.istore_n 3, 1) := by decide +kernel
theorem dX12_drawNear_69 : decode cX12_drawNear 69 = .ok (.iload_n 2, 1) := by decide +kernel
theorem dX12_drawNear_70 : decode cX12_drawNear 70 = .ok (.iload 5, 2) := by decide +kernel
theorem dX12_drawNear_72 : decode cX12_drawNear 72 = .ok (.ifCond .eq 7, 3) := by decide +kernel
theorem dX12_drawNear_75 : decode cX12_drawNear 75 = .ok (.iconst 1, 1) := by decide +kernel
theorem dX12_drawNear_76 : decode cX12_drawNear 76 = .ok (.goto 4, 3) := by decide +kernel
theorem dX12_drawNear_79 : decode cX12_drawNear 79 = .ok (.iconst 0, 1) := by decide +kernel
theorem dX12_drawNear_80 : decode cX12_drawNear 80 = .ok (.isub, 1) := by decide +kernel
theorem dX12_drawNear_81 : decode cX12_drawNear 81 = .ok (.istore_n 2, 1) := by decide +kernel
theorem dX12_drawNear_82 : decode cX12_drawNear 82 = .ok (.iinc 4 1, 3) := by decide +kernel
theorem dX12_drawNear_85 : decode cX12_drawNear 85 = .ok (.goto (-65), 3) := by decide +kernel
theorem dX12_drawNear_88 : decode cX12_drawNear 88 = .ok (.iload_n 3, 1) := by decide +kernel
theorem dX12_drawNear_89 : decode cX12_drawNear 89 = .ok (.ireturn, 1) := by decide +kernel
theorem dX12_runDay_0 : decode cX12_runDay 0 = .ok (.aload_n 0, 1) := by decide +kernel
theorem dX12_runDay_1 : decode cX12_runDay 1 = .ok (.getfield 210, 3) := by decide +kernel
theorem dX12_runDay_4 : decode cX12_runDay 4 = .ok (.istore_n 2, 1) := by decide +kernel
theorem dX12_runDay_5 : decode cX12_runDay 5 = .ok (.aload_n 0, 1) := by decide +kernel
theorem dX12_runDay_6 : decode cX12_runDay 6 = .ok (.sipush 1000, 3) := by decide +kernel
theorem dX12_runDay_9 : decode cX12_runDay 9 = .ok (.invokevirtual 233, 3) := by decide +kernel
theorem dX12_runDay_12 : decode cX12_runDay 12 = .ok (.aload_n 0, 1) := by decide +kernel
theorem dX12_runDay_13 : decode cX12_runDay 13 = .ok (.getfield 7, 3) := by decide +kernel
theorem dX12_runDay_16 : decode cX12_runDay 16 = .ok (.iconst 0, 1) := by decide +kernel
theorem dX12_runDay_17 : decode cX12_runDay 17 = .ok (.iaload, 1) := by decide +kernel
theorem dX12_runDay_18 : decode cX12_runDay 18 = .ok (.if_icmp .ge 20, 3) := by decide +kernel
theorem dX12_runDay_21 : decode cX12_runDay 21 = .ok (.aload_n 0, 1) := by decide +kernel
theorem dX12_runDay_22 : decode cX12_runDay 22 = .ok (.bipush 64, 2) := by decide +kernel
theorem dX12_runDay_24 : decode cX12_runDay 24 = .ok (.invokevirtual 233, 3) := by decide +kernel
theorem dX12_runDay_27 : decode cX12_runDay 27 = .ok (.istore_n 3, 1) := by decide +kernel
theorem dX12_runDay_28 : decode cX12_runDay 28 = .ok (.aload_n 0, 1) := by decide +kernel
theorem dX12_runDay_29 : decode cX12_runDay 29 = .ok (.iload_n 1, 1) := by decide +kernel
theorem dX12_runDay_30 : decode cX12_runDay 30 = .ok (.iload_n 3, 1) := by decide +kernel
theorem dX12_runDay_31 : decode cX12_runDay 31 = .ok (.aload_n 0, 1) := by decide +kernel
theorem dX12_runDay_32 : decode cX12_runDay 32 = .ok (.invokevirtual 236, 3) := by decide +kernel
theorem dX12_runDay_35 : decode cX12_runDay 35 = .ok (.invokevirtual 219, 3) := by decide +kernel
theorem dX12_runDay_38 : decode cX12_runDay 38 = .ok (.iconst 0, 1) := by decide +kernel
theorem dX12_runDay_39 : decode cX12_runDay 39 = .ok (.istore_n 3, 1) := by decide +kernel
theorem dX12_runDay_40 : decode cX12_runDay 40 = .ok (.iload_n 3, 1) := by decide +kernel
theorem dX12_runDay_41 : decode cX12_runDay 41 = .ok (.iload_n 2, 1) := by decide +kernel
theorem dX12_runDay_42 : decode cX12_runDay 42 = .ok (.if_icmp .ge 88, 3) := by decide +kernel
theorem dX12_runDay_45 : decode cX12_runDay 45 = .ok (.aload_n 0, 1) := by decide +kernel
theorem dX12_runDay_46 : decode cX12_runDay 46 = .ok (.getfield 210, 3) := by decide +kernel
theorem dX12_runDay_49 : decode cX12_runDay 49 = .ok (.bipush 60, 2) := by decide +kernel
theorem dX12_runDay_51 : decode cX12_runDay 51 = .ok (.if_icmp .ge 79, 3) := by decide +kernel
theorem dX12_runDay_54 : decode cX12_runDay 54 = .ok (.iload_n 1, 1) := by decide +kernel
theorem dX12_runDay_55 : decode cX12_runDay 55 = .ok (.aload_n 0, 1) := by decide +kernel
theorem dX12_runDay_56 : decode cX12_runDay 56 = .ok (.getfield 23, 3) := by decide +kernel
theorem dX12_runDay_59 : decode cX12_runDay 59 = .ok (.iload_n 3, 1) := by decide +kernel
theorem dX12_runDay_60 : decode cX12_runDay 60 = .ok (.iaload, 1) := by decide +kernel
theorem dX12_runDay_61 : decode cX12_runDay 61 = .ok (.isub, 1) := by decide +kernel
theorem dX12_runDay_62 : decode cX12_runDay 62 = .ok (.istore 4, 2) := by decide +kernel
theorem dX12_runDay_64 : decode cX12_runDay 64 = .ok (.iload 4, 2) := by decide +kernel
theorem dX12_runDay_66 : decode cX12_runDay 66 = .ok (.aload_n 0, 1) := by decide +kernel
theorem dX12_runDay_67 : decode cX12_runDay 67 = .ok (.getfield 7, 3) := by decide +kernel
theorem dX12_runDay_70 : decode cX12_runDay 70 = .ok (.iconst 3, 1) := by decide +kernel
theorem dX12_runDay_71 : decode cX12_runDay 71 = .ok (.iaload, 1) := by decide +kernel
theorem dX12_runDay_72 : decode cX12_runDay 72 = .ok (.if_icmp .gt 52, 3) := by decide +kernel
theorem dX12_runDay_75 : decode cX12_runDay 75 = .ok (.aload_n 0, 1) := by decide +kernel
theorem dX12_runDay_76 : decode cX12_runDay 76 = .ok (.sipush 1000, 3) := by decide +kernel
theorem dX12_runDay_79 : decode cX12_runDay 79 = .ok (.invokevirtual 233, 3) := by decide +kernel
theorem dX12_runDay_82 : decode cX12_runDay 82 = .ok (.aload_n 0, 1) := by decide +kernel
theorem dX12_runDay_83 : decode cX12_runDay 83 = .ok (.getfield 7, 3) := by decide +kernel
theorem dX12_runDay_86 : decode cX12_runDay 86 = .ok (.iconst 2, 1) := by decide +kernel
theorem dX12_runDay_87 : decode cX12_runDay 87 = .ok (.iaload, 1) := by decide +kernel
theorem dX12_runDay_88 : decode cX12_runDay 88 = .ok (.aload_n 0, 1) := by decide +kernel
theorem dX12_runDay_89 : decode cX12_runDay 89 = .ok (.getfield 29, 3) := by decide +kernel
theorem dX12_runDay_92 : decode cX12_runDay 92 = .ok (.iload_n 3, 1) := by decide +kernel
theorem dX12_runDay_93 : decode cX12_runDay 93 = .ok (.iaload, 1) := by decide +kernel
theorem dX12_runDay_94 : decode cX12_runDay 94 = .ok (.imul, 1) := by decide +kernel
theorem dX12_runDay_95 : decode cX12_runDay 95 = .ok (.iload 4, 2) := by decide +kernel
theorem dX12_runDay_97 : decode cX12_runDay 97 = .ok (.idiv, 1) := by decide +kernel
theorem dX12_runDay_98 : decode cX12_runDay 98 = .ok (.if_icmp .ge 26, 3) := by decide +kernel
theorem dX12_runDay_101 : decode cX12_runDay 101 = .ok (.aload_n 0, 1) := by decide +kernel
theorem dX12_runDay_102 : decode cX12_runDay 102 = .ok (.aload_n 0, 1) := by decide +kernel
theorem dX12_runDay_103 : decode cX12_runDay 103 = .ok (.getfield 26, 3) := by decide +kernel
theorem dX12_runDay_106 : decode cX12_runDay 106 = .ok (.iload_n 3, 1) := by decide +kernel
theorem dX12_runDay_107 : decode cX12_runDay 107 = .ok (.iaload, 1) := by decide +kernel
theorem dX12_runDay_108 : decode cX12_runDay 108 = .ok (.invokevirtual 239, 3) := by decide +kernel
theorem dX12_runDay_111 : decode cX12_runDay 111 = .ok (.istore 5, 2) := by decide +kernel
theorem dX12_runDay_113 : decode cX12_runDay 113 = .ok (.aload_n 0, 1) := by decide +kernel
theorem dX12_runDay_114 : decode cX12_runDay 114 = .ok (.iload_n 1, 1) := by decide +kernel
theorem dX12_runDay_115 : decode cX12_runDay 115 = .ok (.iload 5, 2) := by decide +kernel
theorem dX12_runDay_117 : decode cX12_runDay 117 = .ok (.aload_n 0, 1) := by decide +kernel
theorem dX12_runDay_118 : decode cX12_runDay 118 = .ok (.invokevirtual 236, 3) := by decide +kernel
theorem dX12_runDay_121 : decode cX12_runDay 121 = .ok (.invokevirtual 219, 3) := by decide +kernel
theorem dX12_runDay_124 : decode cX12_runDay 124 = .ok (.iinc 3 1, 3) := by decide +kernel
theorem dX12_runDay_127 : decode cX12_runDay 127 = .ok (.goto (-87), 3) := by decide +kernel
theorem dX12_runDay_130 : decode cX12_runDay 130 = .ok (.return_, 1) := by decide +kernel
theorem dX12_run_0 : decode cX12_run 0 = .ok (.iload_n 1, 1) := by decide +kernel
theorem dX12_run_1 : decode cX12_run 1 = .ok (.i2l, 1) := by decide +kernel
theorem dX12_run_2 : decode cX12_run 2 = .ok (.lconst 1, 1) := by decide +kernel
theorem dX12_run_3 : decode cX12_run 3 = .ok (.ldc2_w 111, 3) := by decide +kernel
theorem dX12_run_6 : decode cX12_run 6 = .ok (.invokestatic 107, 3) := by decide +kernel
theorem dX12_run_9 : decode cX12_run 9 = .ok (.ifCond .ne 7, 3) := by decide +kernel
theorem dX12_run_12 : decode cX12_run 12 = .ok (.sipush (-1002), 3) := by decide +kernel
theorem dX12_run_15 : decode cX12_run 15 = .ok (.ireturn, 1) := by decide +kernel
theorem dX12_run_16 : decode cX12_run 16 = .ok (.aload_n 0, 1) := by decide +kernel
theorem dX12_run_17 : decode cX12_run 17 = .ok (.getfield 210, 3) := by decide +kernel
theorem dX12_run_20 : decode cX12_run 20 = .ok (.bipush 60, 2) := by decide +kernel
theorem dX12_run_22 : decode cX12_run 22 = .ok (.if_icmp .ne 7, 3) := by decide +kernel
theorem dX12_run_25 : decode cX12_run 25 = .ok (.sipush (-1004), 3) := by decide +kernel
theorem dX12_run_28 : decode cX12_run 28 = .ok (.ireturn, 1) := by decide +kernel
theorem dX12_run_29 : decode cX12_run 29 = .ok (.aload_n 0, 1) := by decide +kernel
theorem dX12_run_30 : decode cX12_run 30 = .ok (.getfield 210, 3) := by decide +kernel
theorem dX12_run_33 : decode cX12_run 33 = .ok (.istore_n 2, 1) := by decide +kernel
theorem dX12_run_34 : decode cX12_run 34 = .ok (.iconst 0, 1) := by decide +kernel
theorem dX12_run_35 : decode cX12_run 35 = .ok (.istore_n 3, 1) := by decide +kernel
theorem dX12_run_36 : decode cX12_run 36 = .ok (.iload_n 3, 1) := by decide +kernel
theorem dX12_run_37 : decode cX12_run 37 = .ok (.iload_n 1, 1) := by decide +kernel
theorem dX12_run_38 : decode cX12_run 38 = .ok (.if_icmp .ge 46, 3) := by decide +kernel
theorem dX12_run_41 : decode cX12_run 41 = .ok (.aload_n 0, 1) := by decide +kernel
theorem dX12_run_42 : decode cX12_run 42 = .ok (.getfield 216, 3) := by decide +kernel
theorem dX12_run_45 : decode cX12_run 45 = .ok (.sipush 399, 3) := by decide +kernel
theorem dX12_run_48 : decode cX12_run 48 = .ok (.if_icmp .ge 36, 3) := by decide +kernel
theorem dX12_run_51 : decode cX12_run 51 = .ok (.aload_n 0, 1) := by decide +kernel
theorem dX12_run_52 : decode cX12_run 52 = .ok (.getfield 210, 3) := by decide +kernel
theorem dX12_run_55 : decode cX12_run 55 = .ok (.bipush 60, 2) := by decide +kernel
theorem dX12_run_57 : decode cX12_run 57 = .ok (.if_icmp .ge 27, 3) := by decide +kernel
theorem dX12_run_60 : decode cX12_run 60 = .ok (.aload_n 0, 1) := by decide +kernel
theorem dX12_run_61 : decode cX12_run 61 = .ok (.dup, 1) := by decide +kernel
theorem dX12_run_62 : decode cX12_run 62 = .ok (.getfield 216, 3) := by decide +kernel
theorem dX12_run_65 : decode cX12_run 65 = .ok (.iconst 1, 1) := by decide +kernel
theorem dX12_run_66 : decode cX12_run 66 = .ok (.iadd, 1) := by decide +kernel
theorem dX12_run_67 : decode cX12_run 67 = .ok (.putfield 216, 3) := by decide +kernel
theorem dX12_run_70 : decode cX12_run 70 = .ok (.aload_n 0, 1) := by decide +kernel
theorem dX12_run_71 : decode cX12_run 71 = .ok (.aload_n 0, 1) := by decide +kernel
theorem dX12_run_72 : decode cX12_run 72 = .ok (.getfield 216, 3) := by decide +kernel
theorem dX12_run_75 : decode cX12_run 75 = .ok (.invokevirtual 242, 3) := by decide +kernel
theorem dX12_run_78 : decode cX12_run 78 = .ok (.iinc 3 1, 3) := by decide +kernel
theorem dX12_run_81 : decode cX12_run 81 = .ok (.goto (-45), 3) := by decide +kernel
theorem dX12_run_84 : decode cX12_run 84 = .ok (.aload_n 0, 1) := by decide +kernel
theorem dX12_run_85 : decode cX12_run 85 = .ok (.getfield 210, 3) := by decide +kernel
theorem dX12_run_88 : decode cX12_run 88 = .ok (.iload_n 2, 1) := by decide +kernel
theorem dX12_run_89 : decode cX12_run 89 = .ok (.isub, 1) := by decide +kernel
theorem dX12_run_90 : decode cX12_run 90 = .ok (.ireturn, 1) := by decide +kernel
theorem dX12_about_0 : decode cX12_about 0 = .ok (.aload_n 0, 1) := by decide +kernel
theorem dX12_about_1 : decode cX12_about 1 = .ok (.iload_n 1, 1) := by decide +kernel
theorem dX12_about_2 : decode cX12_about 2 = .ok (.invokevirtual 246, 3) := by decide +kernel
theorem dX12_about_5 : decode cX12_about 5 = .ok (.ifCond .ne 7, 3) := by decide +kernel
theorem dX12_about_8 : decode cX12_about 8 = .ok (.sipush (-1001), 3) := by decide +kernel
theorem dX12_about_11 : decode cX12_about 11 = .ok (.ireturn, 1) := by decide +kernel
theorem dX12_about_12 : decode cX12_about 12 = .ok (.iload_n 2, 1) := by decide +kernel
theorem dX12_about_13 : decode cX12_about 13 = .ok (.ifCond .ne 12, 3) := by decide +kernel
theorem dX12_about_16 : decode cX12_about 16 = .ok (.aload_n 0, 1) := by decide +kernel
theorem dX12_about_17 : decode cX12_about 17 = .ok (.getfield 23, 3) := by decide +kernel
theorem dX12_about_20 : decode cX12_about 20 = .ok (.iload_n 1, 1) := by decide +kernel
theorem dX12_about_21 : decode cX12_about 21 = .ok (.iaload, 1) := by decide +kernel
theorem dX12_about_22 : decode cX12_about 22 = .ok (.goto 34, 3) := by decide +kernel
theorem dX12_about_25 : decode cX12_about 25 = .ok (.iload_n 2, 1) := by decide +kernel
theorem dX12_about_26 : decode cX12_about 26 = .ok (.iconst 1, 1) := by decide +kernel
theorem dX12_about_27 : decode cX12_about 27 = .ok (.if_icmp .ne 12, 3) := by decide +kernel
theorem dX12_about_30 : decode cX12_about 30 = .ok (.aload_n 0, 1) := by decide +kernel
theorem dX12_about_31 : decode cX12_about 31 = .ok (.getfield 26, 3) := by decide +kernel
theorem dX12_about_34 : decode cX12_about 34 = .ok (.iload_n 1, 1) := by decide +kernel
theorem dX12_about_35 : decode cX12_about 35 = .ok (.iaload, 1) := by decide +kernel
theorem dX12_about_36 : decode cX12_about 36 = .ok (.goto 20, 3) := by decide +kernel
theorem dX12_about_39 : decode cX12_about 39 = .ok (.iload_n 2, 1) := by decide +kernel
theorem dX12_about_40 : decode cX12_about 40 = .ok (.iconst 2, 1) := by decide +kernel
theorem dX12_about_41 : decode cX12_about 41 = .ok (.if_icmp .ne 12, 3) := by decide +kernel
theorem dX12_about_44 : decode cX12_about 44 = .ok (.aload_n 0, 1) := by decide +kernel
theorem dX12_about_45 : decode cX12_about 45 = .ok (.getfield 29, 3) := by decide +kernel
theorem dX12_about_48 : decode cX12_about 48 = .ok (.iload_n 1, 1) := by decide +kernel
theorem dX12_about_49 : decode cX12_about 49 = .ok (.iaload, 1) := by decide +kernel
theorem dX12_about_50 : decode cX12_about 50 = .ok (.goto 6, 3) := by decide +kernel
theorem dX12_about_53 : decode cX12_about 53 = .ok (.sipush (-1002), 3) := by decide +kernel
theorem dX12_about_56 : decode cX12_about 56 = .ok (.ireturn, 1) := by decide +kernel
theorem dX12_count_0 : decode cX12_count 0 = .ok (.iconst 0, 1) := by decide +kernel
theorem dX12_count_1 : decode cX12_count 1 = .ok (.istore_n 2, 1) := by decide +kernel
theorem dX12_count_2 : decode cX12_count 2 = .ok (.iconst 0, 1) := by decide +kernel
theorem dX12_count_3 : decode cX12_count 3 = .ok (.istore_n 3, 1) := by decide +kernel
theorem dX12_count_4 : decode cX12_count 4 = .ok (.iload_n 3, 1) := by decide +kernel
theorem dX12_count_5 : decode cX12_count 5 = .ok (.sipush 399, 3) := by decide +kernel
theorem dX12_count_8 : decode cX12_count 8 = .ok (.if_icmp .gt 26, 3) := by decide +kernel
theorem dX12_count_11 : decode cX12_count 11 = .ok (.iload_n 2, 1) := by decide +kernel
theorem dX12_count_12 : decode cX12_count 12 = .ok (.aload_n 0, 1) := by decide +kernel
theorem dX12_count_13 : decode cX12_count 13 = .ok (.getfield 41, 3) := by decide +kernel
theorem dX12_count_16 : decode cX12_count 16 = .ok (.iload_n 3, 1) := by decide +kernel
theorem dX12_count_17 : decode cX12_count 17 = .ok (.baload, 1) := by decide +kernel
theorem dX12_count_18 : decode cX12_count 18 = .ok (.ifCond .eq 7, 3) := by decide +kernel
theorem dX12_count_21 : decode cX12_count 21 = .ok (.iconst 1, 1) := by decide +kernel
theorem dX12_count_22 : decode cX12_count 22 = .ok (.goto 4, 3) := by decide +kernel
theorem dX12_count_25 : decode cX12_count 25 = .ok (.iconst 0, 1) := by decide +kernel
theorem dX12_count_26 : decode cX12_count 26 = .ok (.iadd, 1) := by decide +kernel
theorem dX12_count_27 : decode cX12_count 27 = .ok (.istore_n 2, 1) := by decide +kernel
theorem dX12_count_28 : decode cX12_count 28 = .ok (.iinc 3 1, 3) := by decide +kernel
theorem dX12_count_31 : decode cX12_count 31 = .ok (.goto (-27), 3) := by decide +kernel
theorem dX12_count_34 : decode cX12_count 34 = .ok (.iload_n 1, 1) := by decide +kernel
theorem dX12_count_35 : decode cX12_count 35 = .ok (.tableswitch 73 0 6 #[41, 46, 51, 56, 61, 66, 71], 41) := by decide +kernel
theorem dX12_count_76 : decode cX12_count 76 = .ok (.aload_n 0, 1) := by decide +kernel
theorem dX12_count_77 : decode cX12_count 77 = .ok (.getfield 210, 3) := by decide +kernel
theorem dX12_count_80 : decode cX12_count 80 = .ok (.ireturn, 1) := by decide +kernel
theorem dX12_count_81 : decode cX12_count 81 = .ok (.aload_n 0, 1) := by decide +kernel
theorem dX12_count_82 : decode cX12_count 82 = .ok (.getfield 249, 3) := by decide +kernel
theorem dX12_count_85 : decode cX12_count 85 = .ok (.ireturn, 1) := by decide +kernel
theorem dX12_count_86 : decode cX12_count 86 = .ok (.aload_n 0, 1) := by decide +kernel
theorem dX12_count_87 : decode cX12_count 87 = .ok (.getfield 252, 3) := by decide +kernel
theorem dX12_count_90 : decode cX12_count 90 = .ok (.ireturn, 1) := by decide +kernel
theorem dX12_count_91 : decode cX12_count 91 = .ok (.aload_n 0, 1) := by decide +kernel
theorem dX12_count_92 : decode cX12_count 92 = .ok (.getfield 255, 3) := by decide +kernel
theorem dX12_count_95 : decode cX12_count 95 = .ok (.ireturn, 1) := by decide +kernel
theorem dX12_count_96 : decode cX12_count 96 = .ok (.aload_n 0, 1) := by decide +kernel
theorem dX12_count_97 : decode cX12_count 97 = .ok (.getfield 216, 3) := by decide +kernel
theorem dX12_count_100 : decode cX12_count 100 = .ok (.ireturn, 1) := by decide +kernel
theorem dX12_count_101 : decode cX12_count 101 = .ok (.aload_n 0, 1) := by decide +kernel
theorem dX12_count_102 : decode cX12_count 102 = .ok (.getfield 133, 3) := by decide +kernel
theorem dX12_count_105 : decode cX12_count 105 = .ok (.ireturn, 1) := by decide +kernel
theorem dX12_count_106 : decode cX12_count 106 = .ok (.iload_n 2, 1) := by decide +kernel
theorem dX12_count_107 : decode cX12_count 107 = .ok (.ireturn, 1) := by decide +kernel
theorem dX12_count_108 : decode cX12_count 108 = .ok (.sipush (-1002), 3) := by decide +kernel
theorem dX12_count_111 : decode cX12_count 111 = .ok (.ireturn, 1) := by decide +kernel
theorem dX12_mainOf_0 : decode cX12_mainOf 0 = .ok (.aload_n 0, 1) := by decide +kernel
theorem dX12_mainOf_1 : decode cX12_mainOf 1 = .ok (.getfield 7, 3) := by decide +kernel
theorem dX12_mainOf_4 : decode cX12_mainOf 4 = .ok (.iconst 0, 1) := by decide +kernel
theorem dX12_mainOf_5 : decode cX12_mainOf 5 = .ok (.iaload, 1) := by decide +kernel
theorem dX12_mainOf_6 : decode cX12_mainOf 6 = .ok (.sipush 1000, 3) := by decide +kernel
theorem dX12_mainOf_9 : decode cX12_mainOf 9 = .ok (.imul, 1) := by decide +kernel
theorem dX12_mainOf_10 : decode cX12_mainOf 10 = .ok (.iload_n 1, 1) := by decide +kernel
theorem dX12_mainOf_11 : decode cX12_mainOf 11 = .ok (.iload_n 2, 1) := by decide +kernel
theorem dX12_mainOf_12 : decode cX12_mainOf 12 = .ok (.invokestatic 128, 3) := by decide +kernel
theorem dX12_mainOf_15 : decode cX12_mainOf 15 = .ok (.imul, 1) := by decide +kernel
theorem dX12_mainOf_16 : decode cX12_mainOf 16 = .ok (.bipush 64, 2) := by decide +kernel
theorem dX12_mainOf_18 : decode cX12_mainOf 18 = .ok (.idiv, 1) := by decide +kernel
theorem dX12_mainOf_19 : decode cX12_mainOf 19 = .ok (.istore 4, 2) := by decide +kernel
theorem dX12_mainOf_21 : decode cX12_mainOf 21 = .ok (.iload 4, 2) := by decide +kernel
theorem dX12_mainOf_23 : decode cX12_mainOf 23 = .ok (.i2l, 1) := by decide +kernel
theorem dX12_mainOf_24 : decode cX12_mainOf 24 = .ok (.aload_n 0, 1) := by decide +kernel
theorem dX12_mainOf_25 : decode cX12_mainOf 25 = .ok (.iload_n 3, 1) := by decide +kernel
theorem dX12_mainOf_26 : decode cX12_mainOf 26 = .ok (.invokevirtual 207, 3) := by decide +kernel
theorem dX12_mainOf_29 : decode cX12_mainOf 29 = .ok (.i2l, 1) := by decide +kernel
theorem dX12_mainOf_30 : decode cX12_mainOf 30 = .ok (.lmul, 1) := by decide +kernel
theorem dX12_mainOf_31 : decode cX12_mainOf 31 = .ok (.ldc2_w 258, 3) := by decide +kernel
theorem dX12_mainOf_34 : decode cX12_mainOf 34 = .ok (.ldiv, 1) := by decide +kernel
theorem dX12_mainOf_35 : decode cX12_mainOf 35 = .ok (.l2i, 1) := by decide +kernel
theorem dX12_mainOf_36 : decode cX12_mainOf 36 = .ok (.ireturn, 1) := by decide +kernel
theorem dX12_afterOf_0 : decode cX12_afterOf 0 = .ok (.aload_n 0, 1) := by decide +kernel
theorem dX12_afterOf_1 : decode cX12_afterOf 1 = .ok (.getfield 7, 3) := by decide +kernel
theorem dX12_afterOf_4 : decode cX12_afterOf 4 = .ok (.iconst 2, 1) := by decide +kernel
theorem dX12_afterOf_5 : decode cX12_afterOf 5 = .ok (.iaload, 1) := by decide +kernel
theorem dX12_afterOf_6 : decode cX12_afterOf 6 = .ok (.aload_n 0, 1) := by decide +kernel
theorem dX12_afterOf_7 : decode cX12_afterOf 7 = .ok (.getfield 29, 3) := by decide +kernel
theorem dX12_afterOf_10 : decode cX12_afterOf 10 = .ok (.iload_n 1, 1) := by decide +kernel
theorem dX12_afterOf_11 : decode cX12_afterOf 11 = .ok (.iaload, 1) := by decide +kernel
theorem dX12_afterOf_12 : decode cX12_afterOf 12 = .ok (.imul, 1) := by decide +kernel
theorem dX12_afterOf_13 : decode cX12_afterOf 13 = .ok (.iload_n 2, 1) := by decide +kernel
theorem dX12_afterOf_14 : decode cX12_afterOf 14 = .ok (.idiv, 1) := by decide +kernel
theorem dX12_afterOf_15 : decode cX12_afterOf 15 = .ok (.istore 6, 2) := by decide +kernel
theorem dX12_afterOf_17 : decode cX12_afterOf 17 = .ok (.iload 6, 2) := by decide +kernel
theorem dX12_afterOf_19 : decode cX12_afterOf 19 = .ok (.sipush 1000, 3) := by decide +kernel
theorem dX12_afterOf_22 : decode cX12_afterOf 22 = .ok (.if_icmp .le 9, 3) := by decide +kernel
theorem dX12_afterOf_25 : decode cX12_afterOf 25 = .ok (.sipush 1000, 3) := by decide +kernel
theorem dX12_afterOf_28 : decode cX12_afterOf 28 = .ok (.goto 5, 3) := by decide +kernel
theorem dX12_afterOf_31 : decode cX12_afterOf 31 = .ok (.iload 6, 2) := by decide +kernel
theorem dX12_afterOf_33 : decode cX12_afterOf 33 = .ok (.istore 6, 2) := by decide +kernel
theorem dX12_afterOf_35 : decode cX12_afterOf 35 = .ok (.iload 6, 2) := by decide +kernel
theorem dX12_afterOf_37 : decode cX12_afterOf 37 = .ok (.sipush 1000, 3) := by decide +kernel
theorem dX12_afterOf_40 : decode cX12_afterOf 40 = .ok (.imul, 1) := by decide +kernel
theorem dX12_afterOf_41 : decode cX12_afterOf 41 = .ok (.istore 6, 2) := by decide +kernel
theorem dX12_afterOf_43 : decode cX12_afterOf 43 = .ok (.aload_n 0, 1) := by decide +kernel
theorem dX12_afterOf_44 : decode cX12_afterOf 44 = .ok (.getfield 26, 3) := by decide +kernel
theorem dX12_afterOf_47 : decode cX12_afterOf 47 = .ok (.iload_n 1, 1) := by decide +kernel
theorem dX12_afterOf_48 : decode cX12_afterOf 48 = .ok (.iaload, 1) := by decide +kernel
theorem dX12_afterOf_49 : decode cX12_afterOf 49 = .ok (.istore 7, 2) := by decide +kernel
theorem dX12_afterOf_51 : decode cX12_afterOf 51 = .ok (.iload 6, 2) := by decide +kernel
theorem dX12_afterOf_53 : decode cX12_afterOf 53 = .ok (.i2l, 1) := by decide +kernel
theorem dX12_afterOf_54 : decode cX12_afterOf 54 = .ok (.iload_n 3, 1) := by decide +kernel
theorem dX12_afterOf_55 : decode cX12_afterOf 55 = .ok (.iload 4, 2) := by decide +kernel
theorem dX12_afterOf_57 : decode cX12_afterOf 57 = .ok (.iload 7, 2) := by decide +kernel
theorem dX12_afterOf_59 : decode cX12_afterOf 59 = .ok (.aload_n 0, 1) := by decide +kernel
theorem dX12_afterOf_60 : decode cX12_afterOf 60 = .ok (.getfield 7, 3) := by decide +kernel
theorem dX12_afterOf_63 : decode cX12_afterOf 63 = .ok (.iconst 4, 1) := by decide +kernel
theorem dX12_afterOf_64 : decode cX12_afterOf 64 = .ok (.iaload, 1) := by decide +kernel
theorem dX12_afterOf_65 : decode cX12_afterOf 65 = .ok (.invokestatic 260, 3) := by decide +kernel
theorem dX12_afterOf_68 : decode cX12_afterOf 68 = .ok (.i2l, 1) := by decide +kernel
theorem dX12_afterOf_69 : decode cX12_afterOf 69 = .ok (.lmul, 1) := by decide +kernel
theorem dX12_afterOf_70 : decode cX12_afterOf 70 = .ok (.iload 7, 2) := by decide +kernel
theorem dX12_afterOf_72 : decode cX12_afterOf 72 = .ok (.aload_n 0, 1) := by decide +kernel
theorem dX12_afterOf_73 : decode cX12_afterOf 73 = .ok (.getfield 7, 3) := by decide +kernel
theorem dX12_afterOf_76 : decode cX12_afterOf 76 = .ok (.iconst 4, 1) := by decide +kernel
theorem dX12_afterOf_77 : decode cX12_afterOf 77 = .ok (.iaload, 1) := by decide +kernel
theorem dX12_afterOf_78 : decode cX12_afterOf 78 = .ok (.invokestatic 128, 3) := by decide +kernel
theorem dX12_afterOf_81 : decode cX12_afterOf 81 = .ok (.i2l, 1) := by decide +kernel
theorem dX12_afterOf_82 : decode cX12_afterOf 82 = .ok (.ldiv, 1) := by decide +kernel
theorem dX12_afterOf_83 : decode cX12_afterOf 83 = .ok (.l2i, 1) := by decide +kernel
theorem dX12_afterOf_84 : decode cX12_afterOf 84 = .ok (.istore 6, 2) := by decide +kernel
theorem dX12_afterOf_86 : decode cX12_afterOf 86 = .ok (.iload 6, 2) := by decide +kernel
theorem dX12_afterOf_88 : decode cX12_afterOf 88 = .ok (.i2l, 1) := by decide +kernel
theorem dX12_afterOf_89 : decode cX12_afterOf 89 = .ok (.aload_n 0, 1) := by decide +kernel
theorem dX12_afterOf_90 : decode cX12_afterOf 90 = .ok (.iload 5, 2) := by decide +kernel
theorem dX12_afterOf_92 : decode cX12_afterOf 92 = .ok (.invokevirtual 207, 3) := by decide +kernel
theorem dX12_afterOf_95 : decode cX12_afterOf 95 = .ok (.i2l, 1) := by decide +kernel
theorem dX12_afterOf_96 : decode cX12_afterOf 96 = .ok (.lmul, 1) := by decide +kernel
theorem dX12_afterOf_97 : decode cX12_afterOf 97 = .ok (.ldc2_w 258, 3) := by decide +kernel
theorem dX12_afterOf_100 : decode cX12_afterOf 100 = .ok (.ldiv, 1) := by decide +kernel
theorem dX12_afterOf_101 : decode cX12_afterOf 101 = .ok (.l2i, 1) := by decide +kernel
theorem dX12_afterOf_102 : decode cX12_afterOf 102 = .ok (.ireturn, 1) := by decide +kernel
theorem dX12_lessened_0 : decode cX12_lessened 0 = .ok (.iload_n 0, 1) := by decide +kernel
theorem dX12_lessened_1 : decode cX12_lessened 1 = .ok (.i2l, 1) := by decide +kernel
theorem dX12_lessened_2 : decode cX12_lessened 2 = .ok (.ldc 201, 2) := by decide +kernel
theorem dX12_lessened_4 : decode cX12_lessened 4 = .ok (.iload_n 1, 1) := by decide +kernel
theorem dX12_lessened_5 : decode cX12_lessened 5 = .ok (.isub, 1) := by decide +kernel
theorem dX12_lessened_6 : decode cX12_lessened 6 = .ok (.i2l, 1) := by decide +kernel
theorem dX12_lessened_7 : decode cX12_lessened 7 = .ok (.lmul, 1) := by decide +kernel
theorem dX12_lessened_8 : decode cX12_lessened 8 = .ok (.ldc2_w 258, 3) := by decide +kernel
theorem dX12_lessened_11 : decode cX12_lessened 11 = .ok (.ldiv, 1) := by decide +kernel
theorem dX12_lessened_12 : decode cX12_lessened 12 = .ok (.l2i, 1) := by decide +kernel
theorem dX12_lessened_13 : decode cX12_lessened 13 = .ok (.ireturn, 1) := by decide +kernel
theorem dX12_oddsOf_0 : decode cX12_oddsOf 0 = .ok (.ldc 201, 2) := by decide +kernel
theorem dX12_oddsOf_2 : decode cX12_oddsOf 2 = .ok (.istore 7, 2) := by decide +kernel
theorem dX12_oddsOf_4 : decode cX12_oddsOf 4 = .ok (.aload_n 0, 1) := by decide +kernel
theorem dX12_oddsOf_5 : decode cX12_oddsOf 5 = .ok (.iload_n 2, 1) := by decide +kernel
theorem dX12_oddsOf_6 : decode cX12_oddsOf 6 = .ok (.iload_n 3, 1) := by decide +kernel
theorem dX12_oddsOf_7 : decode cX12_oddsOf 7 = .ok (.iload 4, 2) := by decide +kernel
theorem dX12_oddsOf_9 : decode cX12_oddsOf 9 = .ok (.invokevirtual 264, 3) := by decide +kernel
theorem dX12_oddsOf_12 : decode cX12_oddsOf 12 = .ok (.istore 8, 2) := by decide +kernel
theorem dX12_oddsOf_14 : decode cX12_oddsOf 14 = .ok (.iload 5, 2) := by decide +kernel
theorem dX12_oddsOf_16 : decode cX12_oddsOf 16 = .ok (.istore 9, 2) := by decide +kernel
theorem dX12_oddsOf_18 : decode cX12_oddsOf 18 = .ok (.iload 9, 2) := by decide +kernel
theorem dX12_oddsOf_20 : decode cX12_oddsOf 20 = .ok (.iload 6, 2) := by decide +kernel
theorem dX12_oddsOf_22 : decode cX12_oddsOf 22 = .ok (.if_icmp .gt 80, 3) := by decide +kernel
theorem dX12_oddsOf_25 : decode cX12_oddsOf 25 = .ok (.iload 7, 2) := by decide +kernel
theorem dX12_oddsOf_27 : decode cX12_oddsOf 27 = .ok (.iload 8, 2) := by decide +kernel
theorem dX12_oddsOf_29 : decode cX12_oddsOf 29 = .ok (.invokestatic 268, 3) := by decide +kernel
theorem dX12_oddsOf_32 : decode cX12_oddsOf 32 = .ok (.istore 7, 2) := by decide +kernel
theorem dX12_oddsOf_34 : decode cX12_oddsOf 34 = .ok (.iconst 0, 1) := by decide +kernel
theorem dX12_oddsOf_35 : decode cX12_oddsOf 35 = .ok (.istore 10, 2) := by decide +kernel
theorem dX12_oddsOf_37 : decode cX12_oddsOf 37 = .ok (.iload 10, 2) := by decide +kernel
theorem dX12_oddsOf_39 : decode cX12_oddsOf 39 = .ok (.iload_n 1, 1) := by decide +kernel
theorem dX12_oddsOf_40 : decode cX12_oddsOf 40 = .ok (.if_icmp .ge 56, 3) := by decide +kernel
theorem dX12_oddsOf_43 : decode cX12_oddsOf 43 = .ok (.iload 9, 2) := by decide +kernel
theorem dX12_oddsOf_45 : decode cX12_oddsOf 45 = .ok (.aload_n 0, 1) := by decide +kernel
theorem dX12_oddsOf_46 : decode cX12_oddsOf 46 = .ok (.getfield 23, 3) := by decide +kernel
theorem dX12_oddsOf_49 : decode cX12_oddsOf 49 = .ok (.iload 10, 2) := by decide +kernel
theorem dX12_oddsOf_51 : decode cX12_oddsOf 51 = .ok (.iaload, 1) := by decide +kernel
theorem dX12_oddsOf_52 : decode cX12_oddsOf 52 = .ok (.isub, 1) := by decide +kernel
theorem dX12_oddsOf_53 : decode cX12_oddsOf 53 = .ok (.istore 11, 2) := by decide +kernel
theorem dX12_oddsOf_55 : decode cX12_oddsOf 55 = .ok (.iload 11, 2) := by decide +kernel
theorem dX12_oddsOf_57 : decode cX12_oddsOf 57 = .ok (.aload_n 0, 1) := by decide +kernel
theorem dX12_oddsOf_58 : decode cX12_oddsOf 58 = .ok (.getfield 7, 3) := by decide +kernel
theorem dX12_oddsOf_61 : decode cX12_oddsOf 61 = .ok (.iconst 3, 1) := by decide +kernel
theorem dX12_oddsOf_62 : decode cX12_oddsOf 62 = .ok (.iaload, 1) := by decide +kernel
theorem dX12_oddsOf_63 : decode cX12_oddsOf 63 = .ok (.if_icmp .gt 23, 3) := by decide +kernel
theorem dX12_oddsOf_66 : decode cX12_oddsOf 66 = .ok (.iload 7, 2) := by decide +kernel
theorem dX12_oddsOf_68 : decode cX12_oddsOf 68 = .ok (.aload_n 0, 1) := by decide +kernel
theorem dX12_oddsOf_69 : decode cX12_oddsOf 69 = .ok (.iload 10, 2) := by decide +kernel
theorem dX12_oddsOf_71 : decode cX12_oddsOf 71 = .ok (.iload 11, 2) := by decide +kernel
theorem dX12_oddsOf_73 : decode cX12_oddsOf 73 = .ok (.iload_n 2, 1) := by decide +kernel
theorem dX12_oddsOf_74 : decode cX12_oddsOf 74 = .ok (.iload_n 3, 1) := by decide +kernel
theorem dX12_oddsOf_75 : decode cX12_oddsOf 75 = .ok (.iload 4, 2) := by decide +kernel
theorem dX12_oddsOf_77 : decode cX12_oddsOf 77 = .ok (.invokevirtual 271, 3) := by decide +kernel
theorem dX12_oddsOf_80 : decode cX12_oddsOf 80 = .ok (.invokestatic 268, 3) := by decide +kernel
theorem dX12_oddsOf_83 : decode cX12_oddsOf 83 = .ok (.goto 5, 3) := by decide +kernel
theorem dX12_oddsOf_86 : decode cX12_oddsOf 86 = .ok (.iload 7, 2) := by decide +kernel
theorem dX12_oddsOf_88 : decode cX12_oddsOf 88 = .ok (.istore 7, 2) := by decide +kernel
theorem dX12_oddsOf_90 : decode cX12_oddsOf 90 = .ok (.iinc 10 1, 3) := by decide +kernel
theorem dX12_oddsOf_93 : decode cX12_oddsOf 93 = .ok (.goto (-56), 3) := by decide +kernel
theorem dX12_oddsOf_96 : decode cX12_oddsOf 96 = .ok (.iinc 9 1, 3) := by decide +kernel
theorem dX12_oddsOf_99 : decode cX12_oddsOf 99 = .ok (.goto (-81), 3) := by decide +kernel
theorem dX12_oddsOf_102 : decode cX12_oddsOf 102 = .ok (.ldc 201, 2) := by decide +kernel
theorem dX12_oddsOf_104 : decode cX12_oddsOf 104 = .ok (.iload 7, 2) := by decide +kernel
theorem dX12_oddsOf_106 : decode cX12_oddsOf 106 = .ok (.isub, 1) := by decide +kernel
theorem dX12_oddsOf_107 : decode cX12_oddsOf 107 = .ok (.ireturn, 1) := by decide +kernel
theorem dX12_upTo_0 : decode cX12_upTo 0 = .ok (.iconst 0, 1) := by decide +kernel
theorem dX12_upTo_1 : decode cX12_upTo 1 = .ok (.istore_n 2, 1) := by decide +kernel
theorem dX12_upTo_2 : decode cX12_upTo 2 = .ok (.iconst 0, 1) := by decide +kernel
theorem dX12_upTo_3 : decode cX12_upTo 3 = .ok (.istore_n 3, 1) := by decide +kernel
theorem dX12_upTo_4 : decode cX12_upTo 4 = .ok (.iload_n 3, 1) := by decide +kernel
theorem dX12_upTo_5 : decode cX12_upTo 5 = .ok (.aload_n 0, 1) := by decide +kernel
theorem dX12_upTo_6 : decode cX12_upTo 6 = .ok (.getfield 210, 3) := by decide +kernel
theorem dX12_upTo_9 : decode cX12_upTo 9 = .ok (.if_icmp .ge 27, 3) := by decide +kernel
theorem dX12_upTo_12 : decode cX12_upTo 12 = .ok (.iload_n 2, 1) := by decide +kernel
theorem dX12_upTo_13 : decode cX12_upTo 13 = .ok (.aload_n 0, 1) := by decide +kernel
theorem dX12_upTo_14 : decode cX12_upTo 14 = .ok (.getfield 23, 3) := by decide +kernel
theorem dX12_upTo_17 : decode cX12_upTo 17 = .ok (.iload_n 3, 1) := by decide +kernel
theorem dX12_upTo_18 : decode cX12_upTo 18 = .ok (.iaload, 1) := by decide +kernel
theorem dX12_upTo_19 : decode cX12_upTo 19 = .ok (.iload_n 1, 1) := by decide +kernel
theorem dX12_upTo_20 : decode cX12_upTo 20 = .ok (.if_icmp .gt 7, 3) := by decide +kernel
theorem dX12_upTo_23 : decode cX12_upTo 23 = .ok (.iconst 1, 1) := by decide +kernel
theorem dX12_upTo_24 : decode cX12_upTo 24 = .ok (.goto 4, 3) := by decide +kernel
theorem dX12_upTo_27 : decode cX12_upTo 27 = .ok (.iconst 0, 1) := by decide +kernel
theorem dX12_upTo_28 : decode cX12_upTo 28 = .ok (.iadd, 1) := by decide +kernel
theorem dX12_upTo_29 : decode cX12_upTo 29 = .ok (.istore_n 2, 1) := by decide +kernel
theorem dX12_upTo_30 : decode cX12_upTo 30 = .ok (.iinc 3 1, 3) := by decide +kernel
theorem dX12_upTo_33 : decode cX12_upTo 33 = .ok (.goto (-29), 3) := by decide +kernel
theorem dX12_upTo_36 : decode cX12_upTo 36 = .ok (.iload_n 2, 1) := by decide +kernel
theorem dX12_upTo_37 : decode cX12_upTo 37 = .ok (.ireturn, 1) := by decide +kernel
theorem dX12_odds_0 : decode cX12_odds 0 = .ok (.iload_n 2, 1) := by decide +kernel
theorem dX12_odds_1 : decode cX12_odds 1 = .ok (.invokestatic 121, 3) := by decide +kernel
theorem dX12_odds_4 : decode cX12_odds 4 = .ok (.ifCond .ne 7, 3) := by decide +kernel
theorem dX12_odds_7 : decode cX12_odds 7 = .ok (.sipush (-1001), 3) := by decide +kernel
theorem dX12_odds_10 : decode cX12_odds 10 = .ok (.ireturn, 1) := by decide +kernel
theorem dX12_odds_11 : decode cX12_odds 11 = .ok (.iload_n 1, 1) := by decide +kernel
theorem dX12_odds_12 : decode cX12_odds 12 = .ok (.invokestatic 213, 3) := by decide +kernel
theorem dX12_odds_15 : decode cX12_odds 15 = .ok (.ifCond .eq 49, 3) := by decide +kernel
theorem dX12_odds_18 : decode cX12_odds 18 = .ok (.iload_n 3, 1) := by decide +kernel
theorem dX12_odds_19 : decode cX12_odds 19 = .ok (.invokestatic 125, 3) := by decide +kernel
theorem dX12_odds_22 : decode cX12_odds 22 = .ok (.ifCond .eq 42, 3) := by decide +kernel
theorem dX12_odds_25 : decode cX12_odds 25 = .ok (.iload 4, 2) := by decide +kernel
theorem dX12_odds_27 : decode cX12_odds 27 = .ok (.invokestatic 204, 3) := by decide +kernel
theorem dX12_odds_30 : decode cX12_odds 30 = .ok (.ifCond .eq 34, 3) := by decide +kernel
theorem dX12_odds_33 : decode cX12_odds 33 = .ok (.iload 5, 2) := by decide +kernel
theorem dX12_odds_35 : decode cX12_odds 35 = .ok (.i2l, 1) := by decide +kernel
theorem dX12_odds_36 : decode cX12_odds 36 = .ok (.iload_n 1, 1) := by decide +kernel
theorem dX12_odds_37 : decode cX12_odds 37 = .ok (.iconst 1, 1) := by decide +kernel
theorem dX12_odds_38 : decode cX12_odds 38 = .ok (.iadd, 1) := by decide +kernel
theorem dX12_odds_39 : decode cX12_odds 39 = .ok (.i2l, 1) := by decide +kernel
theorem dX12_odds_40 : decode cX12_odds 40 = .ok (.ldc2_w 111, 3) := by decide +kernel
theorem dX12_odds_43 : decode cX12_odds 43 = .ok (.invokestatic 107, 3) := by decide +kernel
theorem dX12_odds_46 : decode cX12_odds 46 = .ok (.ifCond .eq 18, 3) := by decide +kernel
theorem dX12_odds_49 : decode cX12_odds 49 = .ok (.iload 6, 2) := by decide +kernel
theorem dX12_odds_51 : decode cX12_odds 51 = .ok (.i2l, 1) := by decide +kernel
theorem dX12_odds_52 : decode cX12_odds 52 = .ok (.iload 5, 2) := by decide +kernel
theorem dX12_odds_54 : decode cX12_odds 54 = .ok (.i2l, 1) := by decide +kernel
theorem dX12_odds_55 : decode cX12_odds 55 = .ok (.ldc2_w 111, 3) := by decide +kernel
theorem dX12_odds_58 : decode cX12_odds 58 = .ok (.invokestatic 107, 3) := by decide +kernel
theorem dX12_odds_61 : decode cX12_odds 61 = .ok (.ifCond .ne 7, 3) := by decide +kernel
theorem dX12_odds_64 : decode cX12_odds 64 = .ok (.sipush (-1002), 3) := by decide +kernel
theorem dX12_odds_67 : decode cX12_odds 67 = .ok (.ireturn, 1) := by decide +kernel
theorem dX12_odds_68 : decode cX12_odds 68 = .ok (.aload_n 0, 1) := by decide +kernel
theorem dX12_odds_69 : decode cX12_odds 69 = .ok (.aload_n 0, 1) := by decide +kernel
theorem dX12_odds_70 : decode cX12_odds 70 = .ok (.iload_n 1, 1) := by decide +kernel
theorem dX12_odds_71 : decode cX12_odds 71 = .ok (.invokevirtual 275, 3) := by decide +kernel
theorem dX12_odds_74 : decode cX12_odds 74 = .ok (.iload_n 2, 1) := by decide +kernel
theorem dX12_odds_75 : decode cX12_odds 75 = .ok (.iload_n 3, 1) := by decide +kernel
theorem dX12_odds_76 : decode cX12_odds 76 = .ok (.iload 4, 2) := by decide +kernel
theorem dX12_odds_78 : decode cX12_odds 78 = .ok (.iload 5, 2) := by decide +kernel
theorem dX12_odds_80 : decode cX12_odds 80 = .ok (.iload 6, 2) := by decide +kernel
theorem dX12_odds_82 : decode cX12_odds 82 = .ok (.invokevirtual 278, 3) := by decide +kernel
theorem dX12_odds_85 : decode cX12_odds 85 = .ok (.ireturn, 1) := by decide +kernel
theorem dX12_isKind_0 : decode cX12_isKind 0 = .ok (.iload_n 0, 1) := by decide +kernel
theorem dX12_isKind_1 : decode cX12_isKind 1 = .ok (.i2l, 1) := by decide +kernel
theorem dX12_isKind_2 : decode cX12_isKind 2 = .ok (.lconst 0, 1) := by decide +kernel
theorem dX12_isKind_3 : decode cX12_isKind 3 = .ok (.ldc2_w 115, 3) := by decide +kernel
theorem dX12_isKind_6 : decode cX12_isKind 6 = .ok (.invokestatic 107, 3) := by decide +kernel
theorem dX12_isKind_9 : decode cX12_isKind 9 = .ok (.ireturn, 1) := by decide +kernel
theorem dX12_counted_0 : decode cX12_counted 0 = .ok (.aload_n 0, 1) := by decide +kernel
theorem dX12_counted_1 : decode cX12_counted 1 = .ok (.getfield 35, 3) := by decide +kernel
theorem dX12_counted_4 : decode cX12_counted 4 = .ok (.iload_n 1, 1) := by decide +kernel
theorem dX12_counted_5 : decode cX12_counted 5 = .ok (.iaload, 1) := by decide +kernel
theorem dX12_counted_6 : decode cX12_counted 6 = .ok (.ifCond .ge 7, 3) := by decide +kernel
theorem dX12_counted_9 : decode cX12_counted 9 = .ok (.iconst 0, 1) := by decide +kernel
theorem dX12_counted_10 : decode cX12_counted 10 = .ok (.goto 18, 3) := by decide +kernel
theorem dX12_counted_13 : decode cX12_counted 13 = .ok (.aload_n 0, 1) := by decide +kernel
theorem dX12_counted_14 : decode cX12_counted 14 = .ok (.getfield 38, 3) := by decide +kernel
theorem dX12_counted_17 : decode cX12_counted 17 = .ok (.iload_n 1, 1) := by decide +kernel
theorem dX12_counted_18 : decode cX12_counted 18 = .ok (.iaload, 1) := by decide +kernel
theorem dX12_counted_19 : decode cX12_counted 19 = .ok (.aload_n 0, 1) := by decide +kernel
theorem dX12_counted_20 : decode cX12_counted 20 = .ok (.getfield 35, 3) := by decide +kernel
theorem dX12_counted_23 : decode cX12_counted 23 = .ok (.iload_n 1, 1) := by decide +kernel
theorem dX12_counted_24 : decode cX12_counted 24 = .ok (.iaload, 1) := by decide +kernel
theorem dX12_counted_25 : decode cX12_counted 25 = .ok (.isub, 1) := by decide +kernel
theorem dX12_counted_26 : decode cX12_counted 26 = .ok (.iconst 1, 1) := by decide +kernel
theorem dX12_counted_27 : decode cX12_counted 27 = .ok (.iadd, 1) := by decide +kernel
theorem dX12_counted_28 : decode cX12_counted 28 = .ok (.ireturn, 1) := by decide +kernel
theorem dX12_isCounted_0 : decode cX12_isCounted 0 = .ok (.aload_n 0, 1) := by decide +kernel
theorem dX12_isCounted_1 : decode cX12_isCounted 1 = .ok (.getfield 35, 3) := by decide +kernel
theorem dX12_isCounted_4 : decode cX12_isCounted 4 = .ok (.iload_n 1, 1) := by decide +kernel
theorem dX12_isCounted_5 : decode cX12_isCounted 5 = .ok (.iaload, 1) := by decide +kernel
theorem dX12_isCounted_6 : decode cX12_isCounted 6 = .ok (.ifCond .lt 29, 3) := by decide +kernel
theorem dX12_isCounted_9 : decode cX12_isCounted 9 = .ok (.iload_n 2, 1) := by decide +kernel
theorem dX12_isCounted_10 : decode cX12_isCounted 10 = .ok (.i2l, 1) := by decide +kernel
theorem dX12_isCounted_11 : decode cX12_isCounted 11 = .ok (.aload_n 0, 1) := by decide +kernel
theorem dX12_isCounted_12 : decode cX12_isCounted 12 = .ok (.getfield 35, 3) := by decide +kernel
theorem dX12_isCounted_15 : decode cX12_isCounted 15 = .ok (.iload_n 1, 1) := by decide +kernel
theorem dX12_isCounted_16 : decode cX12_isCounted 16 = .ok (.iaload, 1) := by decide +kernel
theorem dX12_isCounted_17 : decode cX12_isCounted 17 = .ok (.i2l, 1) := by decide +kernel
theorem dX12_isCounted_18 : decode cX12_isCounted 18 = .ok (.aload_n 0, 1) := by decide +kernel
theorem dX12_isCounted_19 : decode cX12_isCounted 19 = .ok (.getfield 38, 3) := by decide +kernel
theorem dX12_isCounted_22 : decode cX12_isCounted 22 = .ok (.iload_n 1, 1) := by decide +kernel
theorem dX12_isCounted_23 : decode cX12_isCounted 23 = .ok (.iaload, 1) := by decide +kernel
theorem dX12_isCounted_24 : decode cX12_isCounted 24 = .ok (.i2l, 1) := by decide +kernel
theorem dX12_isCounted_25 : decode cX12_isCounted 25 = .ok (.invokestatic 107, 3) := by decide +kernel
theorem dX12_isCounted_28 : decode cX12_isCounted 28 = .ok (.ifCond .eq 7, 3) := by decide +kernel
theorem dX12_isCounted_31 : decode cX12_isCounted 31 = .ok (.iconst 1, 1) := by decide +kernel
theorem dX12_isCounted_32 : decode cX12_isCounted 32 = .ok (.goto 4, 3) := by decide +kernel
theorem dX12_isCounted_35 : decode cX12_isCounted 35 = .ok (.iconst 0, 1) := by decide +kernel
theorem dX12_isCounted_36 : decode cX12_isCounted 36 = .ok (.ireturn, 1) := by decide +kernel
theorem dX12_watch_0 : decode cX12_watch 0 = .ok (.iload_n 1, 1) := by decide +kernel
theorem dX12_watch_1 : decode cX12_watch 1 = .ok (.invokestatic 282, 3) := by decide +kernel
theorem dX12_watch_4 : decode cX12_watch 4 = .ok (.ifCond .eq 10, 3) := by decide +kernel
theorem dX12_watch_7 : decode cX12_watch 7 = .ok (.iload_n 2, 1) := by decide +kernel
theorem dX12_watch_8 : decode cX12_watch 8 = .ok (.invokestatic 121, 3) := by decide +kernel
theorem dX12_watch_11 : decode cX12_watch 11 = .ok (.ifCond .ne 7, 3) := by decide +kernel
theorem dX12_watch_14 : decode cX12_watch 14 = .ok (.sipush (-1001), 3) := by decide +kernel
theorem dX12_watch_17 : decode cX12_watch 17 = .ok (.ireturn, 1) := by decide +kernel
theorem dX12_watch_18 : decode cX12_watch 18 = .ok (.iload_n 3, 1) := by decide +kernel
theorem dX12_watch_19 : decode cX12_watch 19 = .ok (.iconst (-1), 1) := by decide +kernel
theorem dX12_watch_20 : decode cX12_watch 20 = .ok (.if_icmp .eq 28, 3) := by decide +kernel
theorem dX12_watch_23 : decode cX12_watch 23 = .ok (.iload_n 3, 1) := by decide +kernel
theorem dX12_watch_24 : decode cX12_watch 24 = .ok (.invokestatic 213, 3) := by decide +kernel
theorem dX12_watch_27 : decode cX12_watch 27 = .ok (.ifCond .eq 17, 3) := by decide +kernel
theorem dX12_watch_30 : decode cX12_watch 30 = .ok (.iload 4, 2) := by decide +kernel
theorem dX12_watch_32 : decode cX12_watch 32 = .ok (.i2l, 1) := by decide +kernel
theorem dX12_watch_33 : decode cX12_watch 33 = .ok (.iload_n 3, 1) := by decide +kernel
theorem dX12_watch_34 : decode cX12_watch 34 = .ok (.i2l, 1) := by decide +kernel
theorem dX12_watch_35 : decode cX12_watch 35 = .ok (.ldc2_w 111, 3) := by decide +kernel
theorem dX12_watch_38 : decode cX12_watch 38 = .ok (.invokestatic 107, 3) := by decide +kernel
theorem dX12_watch_41 : decode cX12_watch 41 = .ok (.ifCond .ne 7, 3) := by decide +kernel
theorem dX12_watch_44 : decode cX12_watch 44 = .ok (.sipush (-1002), 3) := by decide +kernel
theorem dX12_watch_47 : decode cX12_watch 47 = .ok (.ireturn, 1) := by decide +kernel
theorem dX12_watch_48 : decode cX12_watch 48 = .ok (.aload_n 0, 1) := by decide +kernel
theorem dX12_watch_49 : decode cX12_watch 49 = .ok (.iload_n 1, 1) := by decide +kernel
theorem dX12_watch_50 : decode cX12_watch 50 = .ok (.invokevirtual 285, 3) := by decide +kernel
theorem dX12_watch_53 : decode cX12_watch 53 = .ok (.istore 5, 2) := by decide +kernel
theorem dX12_watch_55 : decode cX12_watch 55 = .ok (.aload_n 0, 1) := by decide +kernel
theorem dX12_watch_56 : decode cX12_watch 56 = .ok (.getfield 32, 3) := by decide +kernel
theorem dX12_watch_59 : decode cX12_watch 59 = .ok (.iload_n 1, 1) := by decide +kernel
theorem dX12_watch_60 : decode cX12_watch 60 = .ok (.iload_n 2, 1) := by decide +kernel
theorem dX12_watch_61 : decode cX12_watch 61 = .ok (.iastore, 1) := by decide +kernel
theorem dX12_watch_62 : decode cX12_watch 62 = .ok (.aload_n 0, 1) := by decide +kernel
theorem dX12_watch_63 : decode cX12_watch 63 = .ok (.getfield 35, 3) := by decide +kernel
theorem dX12_watch_66 : decode cX12_watch 66 = .ok (.iload_n 1, 1) := by decide +kernel
theorem dX12_watch_67 : decode cX12_watch 67 = .ok (.iload_n 3, 1) := by decide +kernel
theorem dX12_watch_68 : decode cX12_watch 68 = .ok (.iastore, 1) := by decide +kernel
theorem dX12_watch_69 : decode cX12_watch 69 = .ok (.aload_n 0, 1) := by decide +kernel
theorem dX12_watch_70 : decode cX12_watch 70 = .ok (.getfield 38, 3) := by decide +kernel
theorem dX12_watch_73 : decode cX12_watch 73 = .ok (.iload_n 1, 1) := by decide +kernel
theorem dX12_watch_74 : decode cX12_watch 74 = .ok (.iload 4, 2) := by decide +kernel
theorem dX12_watch_76 : decode cX12_watch 76 = .ok (.iastore, 1) := by decide +kernel
theorem dX12_watch_77 : decode cX12_watch 77 = .ok (.iload 5, 2) := by decide +kernel
theorem dX12_watch_79 : decode cX12_watch 79 = .ok (.ireturn, 1) := by decide +kernel
theorem dX12_rain_0 : decode cX12_rain 0 = .ok (.iload_n 1, 1) := by decide +kernel
theorem dX12_rain_1 : decode cX12_rain 1 = .ok (.invokestatic 213, 3) := by decide +kernel
theorem dX12_rain_4 : decode cX12_rain 4 = .ok (.ifCond .ne 7, 3) := by decide +kernel
theorem dX12_rain_7 : decode cX12_rain 7 = .ok (.sipush (-1002), 3) := by decide +kernel
theorem dX12_rain_10 : decode cX12_rain 10 = .ok (.ireturn, 1) := by decide +kernel
theorem dX12_rain_11 : decode cX12_rain 11 = .ok (.aload_n 0, 1) := by decide +kernel
theorem dX12_rain_12 : decode cX12_rain 12 = .ok (.getfield 41, 3) := by decide +kernel
theorem dX12_rain_15 : decode cX12_rain 15 = .ok (.iload_n 1, 1) := by decide +kernel
theorem dX12_rain_16 : decode cX12_rain 16 = .ok (.baload, 1) := by decide +kernel
theorem dX12_rain_17 : decode cX12_rain 17 = .ok (.ifCond .eq 7, 3) := by decide +kernel
theorem dX12_rain_20 : decode cX12_rain 20 = .ok (.iconst 1, 1) := by decide +kernel
theorem dX12_rain_21 : decode cX12_rain 21 = .ok (.goto 4, 3) := by decide +kernel
theorem dX12_rain_24 : decode cX12_rain 24 = .ok (.iconst 0, 1) := by decide +kernel
theorem dX12_rain_25 : decode cX12_rain 25 = .ok (.istore_n 3, 1) := by decide +kernel
theorem dX12_rain_26 : decode cX12_rain 26 = .ok (.aload_n 0, 1) := by decide +kernel
theorem dX12_rain_27 : decode cX12_rain 27 = .ok (.getfield 41, 3) := by decide +kernel
theorem dX12_rain_30 : decode cX12_rain 30 = .ok (.iload_n 1, 1) := by decide +kernel
theorem dX12_rain_31 : decode cX12_rain 31 = .ok (.iload_n 2, 1) := by decide +kernel
theorem dX12_rain_32 : decode cX12_rain 32 = .ok (.bastore, 1) := by decide +kernel
theorem dX12_rain_33 : decode cX12_rain 33 = .ok (.iload_n 3, 1) := by decide +kernel
theorem dX12_rain_34 : decode cX12_rain 34 = .ok (.ireturn, 1) := by decide +kernel
theorem dX12_sign_0 : decode cX12_sign 0 = .ok (.iload_n 1, 1) := by decide +kernel
theorem dX12_sign_1 : decode cX12_sign 1 = .ok (.invokestatic 282, 3) := by decide +kernel
theorem dX12_sign_4 : decode cX12_sign 4 = .ok (.ifCond .eq 10, 3) := by decide +kernel
theorem dX12_sign_7 : decode cX12_sign 7 = .ok (.iload_n 3, 1) := by decide +kernel
theorem dX12_sign_8 : decode cX12_sign 8 = .ok (.invokestatic 121, 3) := by decide +kernel
theorem dX12_sign_11 : decode cX12_sign 11 = .ok (.ifCond .ne 7, 3) := by decide +kernel
theorem dX12_sign_14 : decode cX12_sign 14 = .ok (.sipush (-1001), 3) := by decide +kernel
theorem dX12_sign_17 : decode cX12_sign 17 = .ok (.ireturn, 1) := by decide +kernel
theorem dX12_sign_18 : decode cX12_sign 18 = .ok (.iload_n 2, 1) := by decide +kernel
theorem dX12_sign_19 : decode cX12_sign 19 = .ok (.invokestatic 213, 3) := by decide +kernel
theorem dX12_sign_22 : decode cX12_sign 22 = .ok (.ifCond .eq 17, 3) := by decide +kernel
theorem dX12_sign_25 : decode cX12_sign 25 = .ok (.iload 4, 2) := by decide +kernel
theorem dX12_sign_27 : decode cX12_sign 27 = .ok (.i2l, 1) := by decide +kernel
theorem dX12_sign_28 : decode cX12_sign 28 = .ok (.iload_n 2, 1) := by decide +kernel
theorem dX12_sign_29 : decode cX12_sign 29 = .ok (.i2l, 1) := by decide +kernel
theorem dX12_sign_30 : decode cX12_sign 30 = .ok (.ldc2_w 111, 3) := by decide +kernel
theorem dX12_sign_33 : decode cX12_sign 33 = .ok (.invokestatic 107, 3) := by decide +kernel
theorem dX12_sign_36 : decode cX12_sign 36 = .ok (.ifCond .ne 7, 3) := by decide +kernel
theorem dX12_sign_39 : decode cX12_sign 39 = .ok (.sipush (-1002), 3) := by decide +kernel
theorem dX12_sign_42 : decode cX12_sign 42 = .ok (.ireturn, 1) := by decide +kernel
theorem dX12_sign_43 : decode cX12_sign 43 = .ok (.aload_n 0, 1) := by decide +kernel
theorem dX12_sign_44 : decode cX12_sign 44 = .ok (.getfield 249, 3) := by decide +kernel
theorem dX12_sign_47 : decode cX12_sign 47 = .ok (.bipush 100, 2) := by decide +kernel
theorem dX12_sign_49 : decode cX12_sign 49 = .ok (.if_icmp .ne 7, 3) := by decide +kernel
theorem dX12_sign_52 : decode cX12_sign 52 = .ok (.sipush (-1004), 3) := by decide +kernel
theorem dX12_sign_55 : decode cX12_sign 55 = .ok (.ireturn, 1) := by decide +kernel
theorem dX12_sign_56 : decode cX12_sign 56 = .ok (.aload_n 0, 1) := by decide +kernel
theorem dX12_sign_57 : decode cX12_sign 57 = .ok (.getfield 45, 3) := by decide +kernel
theorem dX12_sign_60 : decode cX12_sign 60 = .ok (.aload_n 0, 1) := by decide +kernel
theorem dX12_sign_61 : decode cX12_sign 61 = .ok (.getfield 249, 3) := by decide +kernel
theorem dX12_sign_64 : decode cX12_sign 64 = .ok (.iload_n 1, 1) := by decide +kernel
theorem dX12_sign_65 : decode cX12_sign 65 = .ok (.iastore, 1) := by decide +kernel
theorem dX12_sign_66 : decode cX12_sign 66 = .ok (.aload_n 0, 1) := by decide +kernel
theorem dX12_sign_67 : decode cX12_sign 67 = .ok (.getfield 48, 3) := by decide +kernel
theorem dX12_sign_70 : decode cX12_sign 70 = .ok (.aload_n 0, 1) := by decide +kernel
theorem dX12_sign_71 : decode cX12_sign 71 = .ok (.getfield 249, 3) := by decide +kernel
theorem dX12_sign_74 : decode cX12_sign 74 = .ok (.iload_n 2, 1) := by decide +kernel
theorem dX12_sign_75 : decode cX12_sign 75 = .ok (.iastore, 1) := by decide +kernel
theorem dX12_sign_76 : decode cX12_sign 76 = .ok (.aload_n 0, 1) := by decide +kernel
theorem dX12_sign_77 : decode cX12_sign 77 = .ok (.getfield 51, 3) := by decide +kernel
theorem dX12_sign_80 : decode cX12_sign 80 = .ok (.aload_n 0, 1) := by decide +kernel
theorem dX12_sign_81 : decode cX12_sign 81 = .ok (.getfield 249, 3) := by decide +kernel
theorem dX12_sign_84 : decode cX12_sign 84 = .ok (.iload_n 3, 1) := by decide +kernel
theorem dX12_sign_85 : decode cX12_sign 85 = .ok (.iastore, 1) := by decide +kernel
theorem dX12_sign_86 : decode cX12_sign 86 = .ok (.aload_n 0, 1) := by decide +kernel
theorem dX12_sign_87 : decode cX12_sign 87 = .ok (.getfield 54, 3) := by decide +kernel
theorem dX12_sign_90 : decode cX12_sign 90 = .ok (.aload_n 0, 1) := by decide +kernel
theorem dX12_sign_91 : decode cX12_sign 91 = .ok (.getfield 249, 3) := by decide +kernel
theorem dX12_sign_94 : decode cX12_sign 94 = .ok (.iload 4, 2) := by decide +kernel
theorem dX12_sign_96 : decode cX12_sign 96 = .ok (.iastore, 1) := by decide +kernel
theorem dX12_sign_97 : decode cX12_sign 97 = .ok (.aload_n 0, 1) := by decide +kernel
theorem dX12_sign_98 : decode cX12_sign 98 = .ok (.dup, 1) := by decide +kernel
theorem dX12_sign_99 : decode cX12_sign 99 = .ok (.getfield 249, 3) := by decide +kernel
theorem dX12_sign_102 : decode cX12_sign 102 = .ok (.iconst 1, 1) := by decide +kernel
theorem dX12_sign_103 : decode cX12_sign 103 = .ok (.iadd, 1) := by decide +kernel
theorem dX12_sign_104 : decode cX12_sign 104 = .ok (.putfield 249, 3) := by decide +kernel
theorem dX12_sign_107 : decode cX12_sign 107 = .ok (.aload_n 0, 1) := by decide +kernel
theorem dX12_sign_108 : decode cX12_sign 108 = .ok (.getfield 249, 3) := by decide +kernel
theorem dX12_sign_111 : decode cX12_sign 111 = .ok (.iconst 1, 1) := by decide +kernel
theorem dX12_sign_112 : decode cX12_sign 112 = .ok (.isub, 1) := by decide +kernel
theorem dX12_sign_113 : decode cX12_sign 113 = .ok (.ireturn, 1) := by decide +kernel
theorem dX12_owedOf_0 : decode cX12_owedOf 0 = .ok (.aload_n 0, 1) := by decide +kernel
theorem dX12_owedOf_1 : decode cX12_owedOf 1 = .ok (.getfield 48, 3) := by decide +kernel
theorem dX12_owedOf_4 : decode cX12_owedOf 4 = .ok (.iload_n 1, 1) := by decide +kernel
theorem dX12_owedOf_5 : decode cX12_owedOf 5 = .ok (.iaload, 1) := by decide +kernel
theorem dX12_owedOf_6 : decode cX12_owedOf 6 = .ok (.istore_n 2, 1) := by decide +kernel
theorem dX12_owedOf_7 : decode cX12_owedOf 7 = .ok (.aload_n 0, 1) := by decide +kernel
theorem dX12_owedOf_8 : decode cX12_owedOf 8 = .ok (.getfield 7, 3) := by decide +kernel
theorem dX12_owedOf_11 : decode cX12_owedOf 11 = .ok (.iconst 5, 1) := by decide +kernel
theorem dX12_owedOf_12 : decode cX12_owedOf 12 = .ok (.iaload, 1) := by decide +kernel
theorem dX12_owedOf_13 : decode cX12_owedOf 13 = .ok (.istore_n 3, 1) := by decide +kernel
theorem dX12_owedOf_14 : decode cX12_owedOf 14 = .ok (.aload_n 0, 1) := by decide +kernel
theorem dX12_owedOf_15 : decode cX12_owedOf 15 = .ok (.getfield 7, 3) := by decide +kernel
theorem dX12_owedOf_18 : decode cX12_owedOf 18 = .ok (.bipush 6, 2) := by decide +kernel
theorem dX12_owedOf_20 : decode cX12_owedOf 20 = .ok (.iaload, 1) := by decide +kernel
theorem dX12_owedOf_21 : decode cX12_owedOf 21 = .ok (.istore 4, 2) := by decide +kernel
theorem dX12_owedOf_23 : decode cX12_owedOf 23 = .ok (.iload_n 2, 1) := by decide +kernel
theorem dX12_owedOf_24 : decode cX12_owedOf 24 = .ok (.bipush 28, 2) := by decide +kernel
theorem dX12_owedOf_26 : decode cX12_owedOf 26 = .ok (.irem, 1) := by decide +kernel
theorem dX12_owedOf_27 : decode cX12_owedOf 27 = .ok (.istore 5, 2) := by decide +kernel
theorem dX12_owedOf_29 : decode cX12_owedOf 29 = .ok (.iload_n 3, 1) := by decide +kernel
theorem dX12_owedOf_30 : decode cX12_owedOf 30 = .ok (.ifCond .lt 42, 3) := by decide +kernel
theorem dX12_owedOf_33 : decode cX12_owedOf 33 = .ok (.iload_n 3, 1) := by decide +kernel
theorem dX12_owedOf_34 : decode cX12_owedOf 34 = .ok (.iload 4, 2) := by decide +kernel
theorem dX12_owedOf_36 : decode cX12_owedOf 36 = .ok (.if_icmp .gt 19, 3) := by decide +kernel
theorem dX12_owedOf_39 : decode cX12_owedOf 39 = .ok (.iload 5, 2) := by decide +kernel
theorem dX12_owedOf_41 : decode cX12_owedOf 41 = .ok (.iload_n 3, 1) := by decide +kernel
theorem dX12_owedOf_42 : decode cX12_owedOf 42 = .ok (.if_icmp .lt 30, 3) := by decide +kernel
theorem dX12_owedOf_45 : decode cX12_owedOf 45 = .ok (.iload 5, 2) := by decide +kernel
theorem dX12_owedOf_47 : decode cX12_owedOf 47 = .ok (.iload 4, 2) := by decide +kernel
theorem dX12_owedOf_49 : decode cX12_owedOf 49 = .ok (.if_icmp .gt 23, 3) := by decide +kernel
theorem dX12_owedOf_52 : decode cX12_owedOf 52 = .ok (.goto 16, 3) := by decide +kernel
theorem dX12_owedOf_55 : decode cX12_owedOf 55 = .ok (.iload 5, 2) := by decide +kernel
theorem dX12_owedOf_57 : decode cX12_owedOf 57 = .ok (.iload_n 3, 1) := by decide +kernel
theorem dX12_owedOf_58 : decode cX12_owedOf 58 = .ok (.if_icmp .ge 10, 3) := by decide +kernel
theorem dX12_owedOf_61 : decode cX12_owedOf 61 = .ok (.iload 5, 2) := by decide +kernel
theorem dX12_owedOf_63 : decode cX12_owedOf 63 = .ok (.iload 4, 2) := by decide +kernel
theorem dX12_owedOf_65 : decode cX12_owedOf 65 = .ok (.if_icmp .gt 7, 3) := by decide +kernel
theorem dX12_owedOf_68 : decode cX12_owedOf 68 = .ok (.iconst 1, 1) := by decide +kernel
theorem dX12_owedOf_69 : decode cX12_owedOf 69 = .ok (.goto 4, 3) := by decide +kernel
theorem dX12_owedOf_72 : decode cX12_owedOf 72 = .ok (.iconst 0, 1) := by decide +kernel
theorem dX12_owedOf_73 : decode cX12_owedOf 73 = .ok (.istore 6, 2) := by decide +kernel
theorem dX12_owedOf_75 : decode cX12_owedOf 75 = .ok (.iload 6, 2) := by decide +kernel
theorem dX12_owedOf_77 : decode cX12_owedOf 77 = .ok (.ifCond .eq 5, 3) := by decide +kernel
theorem dX12_owedOf_80 : decode cX12_owedOf 80 = .ok (.iconst 1, 1) := by decide +kernel
theorem dX12_owedOf_81 : decode cX12_owedOf 81 = .ok (.ireturn, 1) := by decide +kernel
theorem dX12_owedOf_82 : decode cX12_owedOf 82 = .ok (.iconst 0, 1) := by decide +kernel
theorem dX12_owedOf_83 : decode cX12_owedOf 83 = .ok (.istore 7, 2) := by decide +kernel
theorem dX12_owedOf_85 : decode cX12_owedOf 85 = .ok (.iconst 0, 1) := by decide +kernel
theorem dX12_owedOf_86 : decode cX12_owedOf 86 = .ok (.istore 8, 2) := by decide +kernel
theorem dX12_owedOf_88 : decode cX12_owedOf 88 = .ok (.iload 8, 2) := by decide +kernel
theorem dX12_owedOf_90 : decode cX12_owedOf 90 = .ok (.aload_n 0, 1) := by decide +kernel
theorem dX12_owedOf_91 : decode cX12_owedOf 91 = .ok (.getfield 7, 3) := by decide +kernel
theorem dX12_owedOf_94 : decode cX12_owedOf 94 = .ok (.bipush 7, 2) := by decide +kernel
theorem dX12_owedOf_96 : decode cX12_owedOf 96 = .ok (.iaload, 1) := by decide +kernel
theorem dX12_owedOf_97 : decode cX12_owedOf 97 = .ok (.if_icmp .ge 40, 3) := by decide +kernel
theorem dX12_owedOf_100 : decode cX12_owedOf 100 = .ok (.iload_n 2, 1) := by decide +kernel
theorem dX12_owedOf_101 : decode cX12_owedOf 101 = .ok (.iload 8, 2) := by decide +kernel
theorem dX12_owedOf_103 : decode cX12_owedOf 103 = .ok (.isub, 1) := by decide +kernel
theorem dX12_owedOf_104 : decode cX12_owedOf 104 = .ok (.ifCond .lt 33, 3) := by decide +kernel
theorem dX12_owedOf_107 : decode cX12_owedOf 107 = .ok (.iload 7, 2) := by decide +kernel
theorem dX12_owedOf_109 : decode cX12_owedOf 109 = .ok (.ifCond .ne 15, 3) := by decide +kernel
theorem dX12_owedOf_112 : decode cX12_owedOf 112 = .ok (.aload_n 0, 1) := by decide +kernel
theorem dX12_owedOf_113 : decode cX12_owedOf 113 = .ok (.getfield 41, 3) := by decide +kernel
theorem dX12_owedOf_116 : decode cX12_owedOf 116 = .ok (.iload_n 2, 1) := by decide +kernel
theorem dX12_owedOf_117 : decode cX12_owedOf 117 = .ok (.iload 8, 2) := by decide +kernel
theorem dX12_owedOf_119 : decode cX12_owedOf 119 = .ok (.isub, 1) := by decide +kernel
theorem dX12_owedOf_120 : decode cX12_owedOf 120 = .ok (.baload, 1) := by decide +kernel
theorem dX12_owedOf_121 : decode cX12_owedOf 121 = .ok (.ifCond .eq 7, 3) := by decide +kernel
theorem dX12_owedOf_124 : decode cX12_owedOf 124 = .ok (.iconst 1, 1) := by decide +kernel
theorem dX12_owedOf_125 : decode cX12_owedOf 125 = .ok (.goto 4, 3) := by decide +kernel
theorem dX12_owedOf_128 : decode cX12_owedOf 128 = .ok (.iconst 0, 1) := by decide +kernel
theorem dX12_owedOf_129 : decode cX12_owedOf 129 = .ok (.istore 7, 2) := by decide +kernel
theorem dX12_owedOf_131 : decode cX12_owedOf 131 = .ok (.iinc 8 1, 3) := by decide +kernel
theorem dX12_owedOf_134 : decode cX12_owedOf 134 = .ok (.goto (-46), 3) := by decide +kernel
theorem dX12_owedOf_137 : decode cX12_owedOf 137 = .ok (.iload 7, 2) := by decide +kernel
theorem dX12_owedOf_139 : decode cX12_owedOf 139 = .ok (.ifCond .eq 7, 3) := by decide +kernel
theorem dX12_owedOf_142 : decode cX12_owedOf 142 = .ok (.iconst 2, 1) := by decide +kernel
theorem dX12_owedOf_143 : decode cX12_owedOf 143 = .ok (.goto 4, 3) := by decide +kernel
theorem dX12_owedOf_146 : decode cX12_owedOf 146 = .ok (.iconst 0, 1) := by decide +kernel
theorem dX12_owedOf_147 : decode cX12_owedOf 147 = .ok (.ireturn, 1) := by decide +kernel
theorem dX12_isEven_0 : decode cX12_isEven 0 = .ok (.aload_n 0, 1) := by decide +kernel
theorem dX12_isEven_1 : decode cX12_isEven 1 = .ok (.getfield 45, 3) := by decide +kernel
theorem dX12_isEven_4 : decode cX12_isEven 4 = .ok (.iload_n 1, 1) := by decide +kernel
theorem dX12_isEven_5 : decode cX12_isEven 5 = .ok (.iaload, 1) := by decide +kernel
theorem dX12_isEven_6 : decode cX12_isEven 6 = .ok (.istore_n 2, 1) := by decide +kernel
theorem dX12_isEven_7 : decode cX12_isEven 7 = .ok (.aload_n 0, 1) := by decide +kernel
theorem dX12_isEven_8 : decode cX12_isEven 8 = .ok (.iload_n 2, 1) := by decide +kernel
theorem dX12_isEven_9 : decode cX12_isEven 9 = .ok (.aload_n 0, 1) := by decide +kernel
theorem dX12_isEven_10 : decode cX12_isEven 10 = .ok (.getfield 48, 3) := by decide +kernel
theorem dX12_isEven_13 : decode cX12_isEven 13 = .ok (.iload_n 1, 1) := by decide +kernel
theorem dX12_isEven_14 : decode cX12_isEven 14 = .ok (.iaload, 1) := by decide +kernel
theorem dX12_isEven_15 : decode cX12_isEven 15 = .ok (.invokevirtual 288, 3) := by decide +kernel
theorem dX12_isEven_18 : decode cX12_isEven 18 = .ok (.ifCond .eq 45, 3) := by decide +kernel
theorem dX12_isEven_21 : decode cX12_isEven 21 = .ok (.aload_n 0, 1) := by decide +kernel
theorem dX12_isEven_22 : decode cX12_isEven 22 = .ok (.getfield 51, 3) := by decide +kernel
theorem dX12_isEven_25 : decode cX12_isEven 25 = .ok (.iload_n 1, 1) := by decide +kernel
theorem dX12_isEven_26 : decode cX12_isEven 26 = .ok (.iaload, 1) := by decide +kernel
theorem dX12_isEven_27 : decode cX12_isEven 27 = .ok (.aload_n 0, 1) := by decide +kernel
theorem dX12_isEven_28 : decode cX12_isEven 28 = .ok (.getfield 32, 3) := by decide +kernel
theorem dX12_isEven_31 : decode cX12_isEven 31 = .ok (.iload_n 2, 1) := by decide +kernel
theorem dX12_isEven_32 : decode cX12_isEven 32 = .ok (.iaload, 1) := by decide +kernel
theorem dX12_isEven_33 : decode cX12_isEven 33 = .ok (.if_icmp .ne 30, 3) := by decide +kernel
theorem dX12_isEven_36 : decode cX12_isEven 36 = .ok (.aload_n 0, 1) := by decide +kernel
theorem dX12_isEven_37 : decode cX12_isEven 37 = .ok (.getfield 54, 3) := by decide +kernel
theorem dX12_isEven_40 : decode cX12_isEven 40 = .ok (.iload_n 1, 1) := by decide +kernel
theorem dX12_isEven_41 : decode cX12_isEven 41 = .ok (.iaload, 1) := by decide +kernel
theorem dX12_isEven_42 : decode cX12_isEven 42 = .ok (.aload_n 0, 1) := by decide +kernel
theorem dX12_isEven_43 : decode cX12_isEven 43 = .ok (.getfield 48, 3) := by decide +kernel
theorem dX12_isEven_46 : decode cX12_isEven 46 = .ok (.iload_n 1, 1) := by decide +kernel
theorem dX12_isEven_47 : decode cX12_isEven 47 = .ok (.iaload, 1) := by decide +kernel
theorem dX12_isEven_48 : decode cX12_isEven 48 = .ok (.if_icmp .ne 15, 3) := by decide +kernel
theorem dX12_isEven_51 : decode cX12_isEven 51 = .ok (.aload_n 0, 1) := by decide +kernel
theorem dX12_isEven_52 : decode cX12_isEven 52 = .ok (.iload_n 1, 1) := by decide +kernel
theorem dX12_isEven_53 : decode cX12_isEven 53 = .ok (.invokevirtual 292, 3) := by decide +kernel
theorem dX12_isEven_56 : decode cX12_isEven 56 = .ok (.ifCond .ne 7, 3) := by decide +kernel
theorem dX12_isEven_59 : decode cX12_isEven 59 = .ok (.iconst 1, 1) := by decide +kernel
theorem dX12_isEven_60 : decode cX12_isEven 60 = .ok (.goto 4, 3) := by decide +kernel
theorem dX12_isEven_63 : decode cX12_isEven 63 = .ok (.iconst 0, 1) := by decide +kernel
theorem dX12_isEven_64 : decode cX12_isEven 64 = .ok (.ireturn, 1) := by decide +kernel
theorem dX12_omen_0 : decode cX12_omen 0 = .ok (.iload_n 1, 1) := by decide +kernel
theorem dX12_omen_1 : decode cX12_omen 1 = .ok (.i2l, 1) := by decide +kernel
theorem dX12_omen_2 : decode cX12_omen 2 = .ok (.lconst 0, 1) := by decide +kernel
theorem dX12_omen_3 : decode cX12_omen 3 = .ok (.aload_n 0, 1) := by decide +kernel
theorem dX12_omen_4 : decode cX12_omen 4 = .ok (.getfield 249, 3) := by decide +kernel
theorem dX12_omen_7 : decode cX12_omen 7 = .ok (.iconst 1, 1) := by decide +kernel
theorem dX12_omen_8 : decode cX12_omen 8 = .ok (.isub, 1) := by decide +kernel
theorem dX12_omen_9 : decode cX12_omen 9 = .ok (.i2l, 1) := by decide +kernel
theorem dX12_omen_10 : decode cX12_omen 10 = .ok (.invokestatic 107, 3) := by decide +kernel
theorem dX12_omen_13 : decode cX12_omen 13 = .ok (.ifCond .ne 7, 3) := by decide +kernel
theorem dX12_omen_16 : decode cX12_omen 16 = .ok (.sipush (-1001), 3) := by decide +kernel
theorem dX12_omen_19 : decode cX12_omen 19 = .ok (.ireturn, 1) := by decide +kernel
theorem dX12_omen_20 : decode cX12_omen 20 = .ok (.iload_n 2, 1) := by decide +kernel
theorem dX12_omen_21 : decode cX12_omen 21 = .ok (.tableswitch 87 0 5 #[39, 46, 53, 60, 67, 73], 39) := by decide +kernel
theorem dX12_omen_60 : decode cX12_omen 60 = .ok (.aload_n 0, 1) := by decide +kernel
theorem dX12_omen_61 : decode cX12_omen 61 = .ok (.getfield 45, 3) := by decide +kernel
theorem dX12_omen_64 : decode cX12_omen 64 = .ok (.iload_n 1, 1) := by decide +kernel
theorem dX12_omen_65 : decode cX12_omen 65 = .ok (.iaload, 1) := by decide +kernel
theorem dX12_omen_66 : decode cX12_omen 66 = .ok (.ireturn, 1) := by decide +kernel
theorem dX12_omen_67 : decode cX12_omen 67 = .ok (.aload_n 0, 1) := by decide +kernel
theorem dX12_omen_68 : decode cX12_omen 68 = .ok (.getfield 48, 3) := by decide +kernel
theorem dX12_omen_71 : decode cX12_omen 71 = .ok (.iload_n 1, 1) := by decide +kernel
theorem dX12_omen_72 : decode cX12_omen 72 = .ok (.iaload, 1) := by decide +kernel
theorem dX12_omen_73 : decode cX12_omen 73 = .ok (.ireturn, 1) := by decide +kernel
theorem dX12_omen_74 : decode cX12_omen 74 = .ok (.aload_n 0, 1) := by decide +kernel
theorem dX12_omen_75 : decode cX12_omen 75 = .ok (.getfield 51, 3) := by decide +kernel
theorem dX12_omen_78 : decode cX12_omen 78 = .ok (.iload_n 1, 1) := by decide +kernel
theorem dX12_omen_79 : decode cX12_omen 79 = .ok (.iaload, 1) := by decide +kernel
theorem dX12_omen_80 : decode cX12_omen 80 = .ok (.ireturn, 1) := by decide +kernel
theorem dX12_omen_81 : decode cX12_omen 81 = .ok (.aload_n 0, 1) := by decide +kernel
theorem dX12_omen_82 : decode cX12_omen 82 = .ok (.getfield 54, 3) := by decide +kernel
theorem dX12_omen_85 : decode cX12_omen 85 = .ok (.iload_n 1, 1) := by decide +kernel
theorem dX12_omen_86 : decode cX12_omen 86 = .ok (.iaload, 1) := by decide +kernel
theorem dX12_omen_87 : decode cX12_omen 87 = .ok (.ireturn, 1) := by decide +kernel
theorem dX12_omen_88 : decode cX12_omen 88 = .ok (.aload_n 0, 1) := by decide +kernel
theorem dX12_omen_89 : decode cX12_omen 89 = .ok (.iload_n 1, 1) := by decide +kernel
theorem dX12_omen_90 : decode cX12_omen 90 = .ok (.invokevirtual 292, 3) := by decide +kernel
theorem dX12_omen_93 : decode cX12_omen 93 = .ok (.ireturn, 1) := by decide +kernel
theorem dX12_omen_94 : decode cX12_omen 94 = .ok (.aload_n 0, 1) := by decide +kernel
theorem dX12_omen_95 : decode cX12_omen 95 = .ok (.iload_n 1, 1) := by decide +kernel
theorem dX12_omen_96 : decode cX12_omen 96 = .ok (.invokevirtual 295, 3) := by decide +kernel
theorem dX12_omen_99 : decode cX12_omen 99 = .ok (.ifCond .eq 7, 3) := by decide +kernel
theorem dX12_omen_102 : decode cX12_omen 102 = .ok (.iconst 1, 1) := by decide +kernel
theorem dX12_omen_103 : decode cX12_omen 103 = .ok (.goto 4, 3) := by decide +kernel
theorem dX12_omen_106 : decode cX12_omen 106 = .ok (.iconst 0, 1) := by decide +kernel
theorem dX12_omen_107 : decode cX12_omen 107 = .ok (.ireturn, 1) := by decide +kernel
theorem dX12_omen_108 : decode cX12_omen 108 = .ok (.sipush (-1002), 3) := by decide +kernel
theorem dX12_omen_111 : decode cX12_omen 111 = .ok (.ireturn, 1) := by decide +kernel
theorem dX12_findOdd_0 : decode cX12_findOdd 0 = .ok (.iconst 0, 1) := by decide +kernel
theorem dX12_findOdd_1 : decode cX12_findOdd 1 = .ok (.istore_n 3, 1) := by decide +kernel
theorem dX12_findOdd_2 : decode cX12_findOdd 2 = .ok (.iload_n 3, 1) := by decide +kernel
theorem dX12_findOdd_3 : decode cX12_findOdd 3 = .ok (.sipush 399, 3) := by decide +kernel
theorem dX12_findOdd_6 : decode cX12_findOdd 6 = .ok (.if_icmp .gt 13, 3) := by decide +kernel
theorem dX12_findOdd_9 : decode cX12_findOdd 9 = .ok (.aload_n 2, 1) := by decide +kernel
theorem dX12_findOdd_10 : decode cX12_findOdd 10 = .ok (.iload_n 3, 1) := by decide +kernel
theorem dX12_findOdd_11 : decode cX12_findOdd 11 = .ok (.iconst 0, 1) := by decide +kernel
theorem dX12_findOdd_12 : decode cX12_findOdd 12 = .ok (.bastore, 1) := by decide +kernel
theorem dX12_findOdd_13 : decode cX12_findOdd 13 = .ok (.iinc 3 1, 3) := by decide +kernel
theorem dX12_findOdd_16 : decode cX12_findOdd 16 = .ok (.goto (-14), 3) := by decide +kernel
theorem dX12_findOdd_19 : decode cX12_findOdd 19 = .ok (.iconst 0, 1) := by decide +kernel
theorem dX12_findOdd_20 : decode cX12_findOdd 20 = .ok (.istore_n 3, 1) := by decide +kernel
theorem dX12_findOdd_21 : decode cX12_findOdd 21 = .ok (.iconst 0, 1) := by decide +kernel
theorem dX12_findOdd_22 : decode cX12_findOdd 22 = .ok (.istore 4, 2) := by decide +kernel
theorem dX12_findOdd_24 : decode cX12_findOdd 24 = .ok (.iload 4, 2) := by decide +kernel
theorem dX12_findOdd_26 : decode cX12_findOdd 26 = .ok (.aload_n 0, 1) := by decide +kernel
theorem dX12_findOdd_27 : decode cX12_findOdd 27 = .ok (.getfield 249, 3) := by decide +kernel
theorem dX12_findOdd_30 : decode cX12_findOdd 30 = .ok (.if_icmp .ge 92, 3) := by decide +kernel
theorem dX12_findOdd_33 : decode cX12_findOdd 33 = .ok (.aload_n 0, 1) := by decide +kernel
theorem dX12_findOdd_34 : decode cX12_findOdd 34 = .ok (.getfield 45, 3) := by decide +kernel
theorem dX12_findOdd_37 : decode cX12_findOdd 37 = .ok (.iload 4, 2) := by decide +kernel
theorem dX12_findOdd_39 : decode cX12_findOdd 39 = .ok (.iaload, 1) := by decide +kernel
theorem dX12_findOdd_40 : decode cX12_findOdd 40 = .ok (.iload_n 1, 1) := by decide +kernel
theorem dX12_findOdd_41 : decode cX12_findOdd 41 = .ok (.if_icmp .ne 16, 3) := by decide +kernel
theorem dX12_findOdd_44 : decode cX12_findOdd 44 = .ok (.aload_n 0, 1) := by decide +kernel
theorem dX12_findOdd_45 : decode cX12_findOdd 45 = .ok (.iload 4, 2) := by decide +kernel
theorem dX12_findOdd_47 : decode cX12_findOdd 47 = .ok (.invokevirtual 295, 3) := by decide +kernel
theorem dX12_findOdd_50 : decode cX12_findOdd 50 = .ok (.ifCond .eq 7, 3) := by decide +kernel
theorem dX12_findOdd_53 : decode cX12_findOdd 53 = .ok (.iconst 1, 1) := by decide +kernel
theorem dX12_findOdd_54 : decode cX12_findOdd 54 = .ok (.goto 4, 3) := by decide +kernel
theorem dX12_findOdd_57 : decode cX12_findOdd 57 = .ok (.iconst 0, 1) := by decide +kernel
theorem dX12_findOdd_58 : decode cX12_findOdd 58 = .ok (.istore 5, 2) := by decide +kernel
theorem dX12_findOdd_60 : decode cX12_findOdd 60 = .ok (.iload_n 3, 1) := by decide +kernel
theorem dX12_findOdd_61 : decode cX12_findOdd 61 = .ok (.iload 5, 2) := by decide +kernel
theorem dX12_findOdd_63 : decode cX12_findOdd 63 = .ok (.ifCond .eq 19, 3) := by decide +kernel
theorem dX12_findOdd_66 : decode cX12_findOdd 66 = .ok (.aload_n 2, 1) := by decide +kernel
theorem dX12_findOdd_67 : decode cX12_findOdd 67 = .ok (.aload_n 0, 1) := by decide +kernel
theorem dX12_findOdd_68 : decode cX12_findOdd 68 = .ok (.getfield 48, 3) := by decide +kernel
theorem dX12_findOdd_71 : decode cX12_findOdd 71 = .ok (.iload 4, 2) := by decide +kernel
theorem dX12_findOdd_73 : decode cX12_findOdd 73 = .ok (.iaload, 1) := by decide +kernel
theorem dX12_findOdd_74 : decode cX12_findOdd 74 = .ok (.baload, 1) := by decide +kernel
theorem dX12_findOdd_75 : decode cX12_findOdd 75 = .ok (.ifCond .ne 7, 3) := by decide +kernel
theorem dX12_findOdd_78 : decode cX12_findOdd 78 = .ok (.iconst 1, 1) := by decide +kernel
theorem dX12_findOdd_79 : decode cX12_findOdd 79 = .ok (.goto 4, 3) := by decide +kernel
theorem dX12_findOdd_82 : decode cX12_findOdd 82 = .ok (.iconst 0, 1) := by decide +kernel
theorem dX12_findOdd_83 : decode cX12_findOdd 83 = .ok (.iadd, 1) := by decide +kernel
theorem dX12_findOdd_84 : decode cX12_findOdd 84 = .ok (.istore_n 3, 1) := by decide +kernel
theorem dX12_findOdd_85 : decode cX12_findOdd 85 = .ok (.aload_n 2, 1) := by decide +kernel
theorem dX12_findOdd_86 : decode cX12_findOdd 86 = .ok (.aload_n 0, 1) := by decide +kernel
theorem dX12_findOdd_87 : decode cX12_findOdd 87 = .ok (.getfield 48, 3) := by decide +kernel
theorem dX12_findOdd_90 : decode cX12_findOdd 90 = .ok (.iload 4, 2) := by decide +kernel
theorem dX12_findOdd_92 : decode cX12_findOdd 92 = .ok (.iaload, 1) := by decide +kernel
theorem dX12_findOdd_93 : decode cX12_findOdd 93 = .ok (.aload_n 2, 1) := by decide +kernel
theorem dX12_findOdd_94 : decode cX12_findOdd 94 = .ok (.aload_n 0, 1) := by decide +kernel
theorem dX12_findOdd_95 : decode cX12_findOdd 95 = .ok (.getfield 48, 3) := by decide +kernel
theorem dX12_findOdd_98 : decode cX12_findOdd 98 = .ok (.iload 4, 2) := by decide +kernel
theorem dX12_findOdd_100 : decode cX12_findOdd 100 = .ok (.iaload, 1) := by decide +kernel
theorem dX12_findOdd_101 : decode cX12_findOdd 101 = .ok (.baload, 1) := by decide +kernel
theorem dX12_findOdd_102 : decode cX12_findOdd 102 = .ok (.ifCond .ne 8, 3) := by decide +kernel
theorem dX12_findOdd_105 : decode cX12_findOdd 105 = .ok (.iload 5, 2) := by decide +kernel
theorem dX12_findOdd_107 : decode cX12_findOdd 107 = .ok (.ifCond .eq 7, 3) := by decide +kernel
theorem dX12_findOdd_110 : decode cX12_findOdd 110 = .ok (.iconst 1, 1) := by decide +kernel
theorem dX12_findOdd_111 : decode cX12_findOdd 111 = .ok (.goto 4, 3) := by decide +kernel
theorem dX12_findOdd_114 : decode cX12_findOdd 114 = .ok (.iconst 0, 1) := by decide +kernel
theorem dX12_findOdd_115 : decode cX12_findOdd 115 = .ok (.bastore, 1) := by decide +kernel
theorem dX12_findOdd_116 : decode cX12_findOdd 116 = .ok (.iinc 4 1, 3) := by decide +kernel
theorem dX12_findOdd_119 : decode cX12_findOdd 119 = .ok (.goto (-95), 3) := by decide +kernel
theorem dX12_findOdd_122 : decode cX12_findOdd 122 = .ok (.iload_n 3, 1) := by decide +kernel
theorem dX12_findOdd_123 : decode cX12_findOdd 123 = .ok (.ireturn, 1) := by decide +kernel
theorem dX12_rateOf_0 : decode cX12_rateOf 0 = .ok (.aload_n 0, 1) := by decide +kernel
theorem dX12_rateOf_1 : decode cX12_rateOf 1 = .ok (.iload_n 1, 1) := by decide +kernel
theorem dX12_rateOf_2 : decode cX12_rateOf 2 = .ok (.aload_n 0, 1) := by decide +kernel
theorem dX12_rateOf_3 : decode cX12_rateOf 3 = .ok (.getfield 57, 3) := by decide +kernel
theorem dX12_rateOf_6 : decode cX12_rateOf 6 = .ok (.invokevirtual 298, 3) := by decide +kernel
theorem dX12_rateOf_9 : decode cX12_rateOf 9 = .ok (.i2l, 1) := by decide +kernel
theorem dX12_rateOf_10 : decode cX12_rateOf 10 = .ok (.ldc2_w 258, 3) := by decide +kernel
theorem dX12_rateOf_13 : decode cX12_rateOf 13 = .ok (.lmul, 1) := by decide +kernel
theorem dX12_rateOf_14 : decode cX12_rateOf 14 = .ok (.aload_n 0, 1) := by decide +kernel
theorem dX12_rateOf_15 : decode cX12_rateOf 15 = .ok (.iload_n 1, 1) := by decide +kernel
theorem dX12_rateOf_16 : decode cX12_rateOf 16 = .ok (.invokevirtual 285, 3) := by decide +kernel
theorem dX12_rateOf_19 : decode cX12_rateOf 19 = .ok (.i2l, 1) := by decide +kernel
theorem dX12_rateOf_20 : decode cX12_rateOf 20 = .ok (.ldiv, 1) := by decide +kernel
theorem dX12_rateOf_21 : decode cX12_rateOf 21 = .ok (.l2i, 1) := by decide +kernel
theorem dX12_rateOf_22 : decode cX12_rateOf 22 = .ok (.ireturn, 1) := by decide +kernel
theorem dX12_rate_0 : decode cX12_rate 0 = .ok (.iload_n 1, 1) := by decide +kernel
theorem dX12_rate_1 : decode cX12_rate 1 = .ok (.invokestatic 282, 3) := by decide +kernel
theorem dX12_rate_4 : decode cX12_rate 4 = .ok (.ifCond .ne 7, 3) := by decide +kernel
theorem dX12_rate_7 : decode cX12_rate 7 = .ok (.sipush (-1001), 3) := by decide +kernel
theorem dX12_rate_10 : decode cX12_rate 10 = .ok (.ireturn, 1) := by decide +kernel
theorem dX12_rate_11 : decode cX12_rate 11 = .ok (.iload_n 2, 1) := by decide +kernel
theorem dX12_rate_12 : decode cX12_rate 12 = .ok (.i2l, 1) := by decide +kernel
theorem dX12_rate_13 : decode cX12_rate 13 = .ok (.lconst 0, 1) := by decide +kernel
theorem dX12_rate_14 : decode cX12_rate 14 = .ok (.ldc2_w 302, 3) := by decide +kernel
theorem dX12_rate_17 : decode cX12_rate 17 = .ok (.invokestatic 107, 3) := by decide +kernel
theorem dX12_rate_20 : decode cX12_rate 20 = .ok (.ifCond .ne 7, 3) := by decide +kernel
theorem dX12_rate_23 : decode cX12_rate 23 = .ok (.sipush (-1002), 3) := by decide +kernel
theorem dX12_rate_26 : decode cX12_rate 26 = .ok (.ireturn, 1) := by decide +kernel
theorem dX12_rate_27 : decode cX12_rate 27 = .ok (.iload_n 2, 1) := by decide +kernel
theorem dX12_rate_28 : decode cX12_rate 28 = .ok (.ifCond .ne 15, 3) := by decide +kernel
theorem dX12_rate_31 : decode cX12_rate 31 = .ok (.aload_n 0, 1) := by decide +kernel
theorem dX12_rate_32 : decode cX12_rate 32 = .ok (.iload_n 1, 1) := by decide +kernel
theorem dX12_rate_33 : decode cX12_rate 33 = .ok (.invokevirtual 285, 3) := by decide +kernel
theorem dX12_rate_36 : decode cX12_rate 36 = .ok (.ifCond .ne 7, 3) := by decide +kernel
theorem dX12_rate_39 : decode cX12_rate 39 = .ok (.sipush (-1003), 3) := by decide +kernel
theorem dX12_rate_42 : decode cX12_rate 42 = .ok (.ireturn, 1) := by decide +kernel
theorem dX12_rate_43 : decode cX12_rate 43 = .ok (.iload_n 2, 1) := by decide +kernel
theorem dX12_rate_44 : decode cX12_rate 44 = .ok (.ifCond .ne 11, 3) := by decide +kernel
theorem dX12_rate_47 : decode cX12_rate 47 = .ok (.aload_n 0, 1) := by decide +kernel
theorem dX12_rate_48 : decode cX12_rate 48 = .ok (.iload_n 1, 1) := by decide +kernel
theorem dX12_rate_49 : decode cX12_rate 49 = .ok (.invokevirtual 304, 3) := by decide +kernel
theorem dX12_rate_52 : decode cX12_rate 52 = .ok (.goto 25, 3) := by decide +kernel
theorem dX12_rate_55 : decode cX12_rate 55 = .ok (.iload_n 2, 1) := by decide +kernel
theorem dX12_rate_56 : decode cX12_rate 56 = .ok (.iconst 1, 1) := by decide +kernel
theorem dX12_rate_57 : decode cX12_rate 57 = .ok (.if_icmp .ne 15, 3) := by decide +kernel
theorem dX12_rate_60 : decode cX12_rate 60 = .ok (.aload_n 0, 1) := by decide +kernel
theorem dX12_rate_61 : decode cX12_rate 61 = .ok (.iload_n 1, 1) := by decide +kernel
theorem dX12_rate_62 : decode cX12_rate 62 = .ok (.aload_n 0, 1) := by decide +kernel
theorem dX12_rate_63 : decode cX12_rate 63 = .ok (.getfield 57, 3) := by decide +kernel
theorem dX12_rate_66 : decode cX12_rate 66 = .ok (.invokevirtual 298, 3) := by decide +kernel
theorem dX12_rate_69 : decode cX12_rate 69 = .ok (.goto 8, 3) := by decide +kernel
theorem dX12_rate_72 : decode cX12_rate 72 = .ok (.aload_n 0, 1) := by decide +kernel
theorem dX12_rate_73 : decode cX12_rate 73 = .ok (.iload_n 1, 1) := by decide +kernel
theorem dX12_rate_74 : decode cX12_rate 74 = .ok (.invokevirtual 285, 3) := by decide +kernel
theorem dX12_rate_77 : decode cX12_rate 77 = .ok (.ireturn, 1) := by decide +kernel
theorem dX12_isWide_0 : decode cX12_isWide 0 = .ok (.iload_n 0, 1) := by decide +kernel
theorem dX12_isWide_1 : decode cX12_isWide 1 = .ok (.i2l, 1) := by decide +kernel
theorem dX12_isWide_2 : decode cX12_isWide 2 = .ok (.lconst 1, 1) := by decide +kernel
theorem dX12_isWide_3 : decode cX12_isWide 3 = .ok (.ldc2_w 307, 3) := by decide +kernel
theorem dX12_isWide_6 : decode cX12_isWide 6 = .ok (.invokestatic 107, 3) := by decide +kernel
theorem dX12_isWide_9 : decode cX12_isWide 9 = .ok (.ireturn, 1) := by decide +kernel
theorem dX12_window_0 : decode cX12_window 0 = .ok (.aload_n 0, 1) := by decide +kernel
theorem dX12_window_1 : decode cX12_window 1 = .ok (.iload_n 1, 1) := by decide +kernel
theorem dX12_window_2 : decode cX12_window 2 = .ok (.invokevirtual 246, 3) := by decide +kernel
theorem dX12_window_5 : decode cX12_window 5 = .ok (.ifCond .ne 7, 3) := by decide +kernel
theorem dX12_window_8 : decode cX12_window 8 = .ok (.sipush (-1001), 3) := by decide +kernel
theorem dX12_window_11 : decode cX12_window 11 = .ok (.ireturn, 1) := by decide +kernel
theorem dX12_window_12 : decode cX12_window 12 = .ok (.iload_n 2, 1) := by decide +kernel
theorem dX12_window_13 : decode cX12_window 13 = .ok (.invokestatic 309, 3) := by decide +kernel
theorem dX12_window_16 : decode cX12_window 16 = .ok (.ifCond .eq 23, 3) := by decide +kernel
theorem dX12_window_19 : decode cX12_window 19 = .ok (.iload_n 3, 1) := by decide +kernel
theorem dX12_window_20 : decode cX12_window 20 = .ok (.invokestatic 125, 3) := by decide +kernel
theorem dX12_window_23 : decode cX12_window 23 = .ok (.ifCond .eq 16, 3) := by decide +kernel
theorem dX12_window_26 : decode cX12_window 26 = .ok (.iload 4, 2) := by decide +kernel
theorem dX12_window_28 : decode cX12_window 28 = .ok (.i2l, 1) := by decide +kernel
theorem dX12_window_29 : decode cX12_window 29 = .ok (.lconst 0, 1) := by decide +kernel
theorem dX12_window_30 : decode cX12_window 30 = .ok (.ldc2_w 136, 3) := by decide +kernel
theorem dX12_window_33 : decode cX12_window 33 = .ok (.invokestatic 107, 3) := by decide +kernel
theorem dX12_window_36 : decode cX12_window 36 = .ok (.ifCond .ne 7, 3) := by decide +kernel
theorem dX12_window_39 : decode cX12_window 39 = .ok (.sipush (-1002), 3) := by decide +kernel
theorem dX12_window_42 : decode cX12_window 42 = .ok (.ireturn, 1) := by decide +kernel
theorem dX12_window_43 : decode cX12_window 43 = .ok (.iconst 0, 1) := by decide +kernel
theorem dX12_window_44 : decode cX12_window 44 = .ok (.istore 5, 2) := by decide +kernel
theorem dX12_window_46 : decode cX12_window 46 = .ok (.iconst 0, 1) := by decide +kernel
theorem dX12_window_47 : decode cX12_window 47 = .ok (.istore 6, 2) := by decide +kernel
theorem dX12_window_49 : decode cX12_window 49 = .ok (.iload 6, 2) := by decide +kernel
theorem dX12_window_51 : decode cX12_window 51 = .ok (.aload_n 0, 1) := by decide +kernel
theorem dX12_window_52 : decode cX12_window 52 = .ok (.getfield 249, 3) := by decide +kernel
theorem dX12_window_55 : decode cX12_window 55 = .ok (.if_icmp .ge 91, 3) := by decide +kernel
theorem dX12_window_58 : decode cX12_window 58 = .ok (.iload 4, 2) := by decide +kernel
theorem dX12_window_60 : decode cX12_window 60 = .ok (.aload_n 0, 1) := by decide +kernel
theorem dX12_window_61 : decode cX12_window 61 = .ok (.getfield 45, 3) := by decide +kernel
theorem dX12_window_64 : decode cX12_window 64 = .ok (.iload 6, 2) := by decide +kernel
theorem dX12_window_66 : decode cX12_window 66 = .ok (.iaload, 1) := by decide +kernel
theorem dX12_window_67 : decode cX12_window 67 = .ok (.ishr, 1) := by decide +kernel
theorem dX12_window_68 : decode cX12_window 68 = .ok (.iconst 1, 1) := by decide +kernel
theorem dX12_window_69 : decode cX12_window 69 = .ok (.iand, 1) := by decide +kernel
theorem dX12_window_70 : decode cX12_window 70 = .ok (.iconst 1, 1) := by decide +kernel
theorem dX12_window_71 : decode cX12_window 71 = .ok (.if_icmp .ne 31, 3) := by decide +kernel
theorem dX12_window_74 : decode cX12_window 74 = .ok (.aload_n 0, 1) := by decide +kernel
theorem dX12_window_75 : decode cX12_window 75 = .ok (.getfield 23, 3) := by decide +kernel
theorem dX12_window_78 : decode cX12_window 78 = .ok (.iload_n 1, 1) := by decide +kernel
theorem dX12_window_79 : decode cX12_window 79 = .ok (.iaload, 1) := by decide +kernel
theorem dX12_window_80 : decode cX12_window 80 = .ok (.aload_n 0, 1) := by decide +kernel
theorem dX12_window_81 : decode cX12_window 81 = .ok (.getfield 48, 3) := by decide +kernel
theorem dX12_window_84 : decode cX12_window 84 = .ok (.iload 6, 2) := by decide +kernel
theorem dX12_window_86 : decode cX12_window 86 = .ok (.iaload, 1) := by decide +kernel
theorem dX12_window_87 : decode cX12_window 87 = .ok (.isub, 1) := by decide +kernel
theorem dX12_window_88 : decode cX12_window 88 = .ok (.i2l, 1) := by decide +kernel
theorem dX12_window_89 : decode cX12_window 89 = .ok (.lconst 1, 1) := by decide +kernel
theorem dX12_window_90 : decode cX12_window 90 = .ok (.iload_n 2, 1) := by decide +kernel
theorem dX12_window_91 : decode cX12_window 91 = .ok (.i2l, 1) := by decide +kernel
theorem dX12_window_92 : decode cX12_window 92 = .ok (.invokestatic 107, 3) := by decide +kernel
theorem dX12_window_95 : decode cX12_window 95 = .ok (.ifCond .eq 7, 3) := by decide +kernel
theorem dX12_window_98 : decode cX12_window 98 = .ok (.iconst 1, 1) := by decide +kernel
theorem dX12_window_99 : decode cX12_window 99 = .ok (.goto 4, 3) := by decide +kernel
theorem dX12_window_102 : decode cX12_window 102 = .ok (.iconst 0, 1) := by decide +kernel
theorem dX12_window_103 : decode cX12_window 103 = .ok (.istore 7, 2) := by decide +kernel
theorem dX12_window_105 : decode cX12_window 105 = .ok (.iload 5, 2) := by decide +kernel
theorem dX12_window_107 : decode cX12_window 107 = .ok (.iload 7, 2) := by decide +kernel
theorem dX12_window_109 : decode cX12_window 109 = .ok (.ifCond .eq 27, 3) := by decide +kernel
theorem dX12_window_112 : decode cX12_window 112 = .ok (.aload_n 0, 1) := by decide +kernel
theorem dX12_window_113 : decode cX12_window 113 = .ok (.getfield 51, 3) := by decide +kernel
theorem dX12_window_116 : decode cX12_window 116 = .ok (.iload 6, 2) := by decide +kernel
theorem dX12_window_118 : decode cX12_window 118 = .ok (.iaload, 1) := by decide +kernel
theorem dX12_window_119 : decode cX12_window 119 = .ok (.aload_n 0, 1) := by decide +kernel
theorem dX12_window_120 : decode cX12_window 120 = .ok (.getfield 26, 3) := by decide +kernel
theorem dX12_window_123 : decode cX12_window 123 = .ok (.iload_n 1, 1) := by decide +kernel
theorem dX12_window_124 : decode cX12_window 124 = .ok (.iaload, 1) := by decide +kernel
theorem dX12_window_125 : decode cX12_window 125 = .ok (.invokestatic 117, 3) := by decide +kernel
theorem dX12_window_128 : decode cX12_window 128 = .ok (.iload_n 3, 1) := by decide +kernel
theorem dX12_window_129 : decode cX12_window 129 = .ok (.if_icmp .gt 7, 3) := by decide +kernel
theorem dX12_window_132 : decode cX12_window 132 = .ok (.iconst 1, 1) := by decide +kernel
theorem dX12_window_133 : decode cX12_window 133 = .ok (.goto 4, 3) := by decide +kernel
theorem dX12_window_136 : decode cX12_window 136 = .ok (.iconst 0, 1) := by decide +kernel
theorem dX12_window_137 : decode cX12_window 137 = .ok (.iadd, 1) := by decide +kernel
theorem dX12_window_138 : decode cX12_window 138 = .ok (.istore 5, 2) := by decide +kernel
theorem dX12_window_140 : decode cX12_window 140 = .ok (.iinc 6 1, 3) := by decide +kernel
theorem dX12_window_143 : decode cX12_window 143 = .ok (.goto (-94), 3) := by decide +kernel
theorem dX12_window_146 : decode cX12_window 146 = .ok (.iload 5, 2) := by decide +kernel
theorem dX12_window_148 : decode cX12_window 148 = .ok (.ireturn, 1) := by decide +kernel
theorem dX12_chance_0 : decode cX12_chance 0 = .ok (.iload_n 1, 1) := by decide +kernel
theorem dX12_chance_1 : decode cX12_chance 1 = .ok (.invokestatic 309, 3) := by decide +kernel
theorem dX12_chance_4 : decode cX12_chance 4 = .ok (.ifCond .eq 15, 3) := by decide +kernel
theorem dX12_chance_7 : decode cX12_chance 7 = .ok (.iload_n 2, 1) := by decide +kernel
theorem dX12_chance_8 : decode cX12_chance 8 = .ok (.i2l, 1) := by decide +kernel
theorem dX12_chance_9 : decode cX12_chance 9 = .ok (.lconst 0, 1) := by decide +kernel
theorem dX12_chance_10 : decode cX12_chance 10 = .ok (.ldc2_w 136, 3) := by decide +kernel
theorem dX12_chance_13 : decode cX12_chance 13 = .ok (.invokestatic 107, 3) := by decide +kernel
theorem dX12_chance_16 : decode cX12_chance 16 = .ok (.ifCond .ne 7, 3) := by decide +kernel
theorem dX12_chance_19 : decode cX12_chance 19 = .ok (.sipush (-1002), 3) := by decide +kernel
theorem dX12_chance_22 : decode cX12_chance 22 = .ok (.ireturn, 1) := by decide +kernel
theorem dX12_chance_23 : decode cX12_chance 23 = .ok (.ldc 201, 2) := by decide +kernel
theorem dX12_chance_25 : decode cX12_chance 25 = .ok (.istore_n 3, 1) := by decide +kernel
theorem dX12_chance_26 : decode cX12_chance 26 = .ok (.iconst 0, 1) := by decide +kernel
theorem dX12_chance_27 : decode cX12_chance 27 = .ok (.istore 4, 2) := by decide +kernel
theorem dX12_chance_29 : decode cX12_chance 29 = .ok (.iload 4, 2) := by decide +kernel
theorem dX12_chance_31 : decode cX12_chance 31 = .ok (.bipush 8, 2) := by decide +kernel
theorem dX12_chance_33 : decode cX12_chance 33 = .ok (.if_icmp .ge 62, 3) := by decide +kernel
theorem dX12_chance_36 : decode cX12_chance 36 = .ok (.iload_n 2, 1) := by decide +kernel
theorem dX12_chance_37 : decode cX12_chance 37 = .ok (.iload 4, 2) := by decide +kernel
theorem dX12_chance_39 : decode cX12_chance 39 = .ok (.ishr, 1) := by decide +kernel
theorem dX12_chance_40 : decode cX12_chance 40 = .ok (.iconst 1, 1) := by decide +kernel
theorem dX12_chance_41 : decode cX12_chance 41 = .ok (.iand, 1) := by decide +kernel
theorem dX12_chance_42 : decode cX12_chance 42 = .ok (.iconst 1, 1) := by decide +kernel
theorem dX12_chance_43 : decode cX12_chance 43 = .ok (.if_icmp .ne 46, 3) := by decide +kernel
theorem dX12_chance_46 : decode cX12_chance 46 = .ok (.aload_n 0, 1) := by decide +kernel
theorem dX12_chance_47 : decode cX12_chance 47 = .ok (.iload 4, 2) := by decide +kernel
theorem dX12_chance_49 : decode cX12_chance 49 = .ok (.invokevirtual 285, 3) := by decide +kernel
theorem dX12_chance_52 : decode cX12_chance 52 = .ok (.ifCond .ne 7, 3) := by decide +kernel
theorem dX12_chance_55 : decode cX12_chance 55 = .ok (.sipush (-1003), 3) := by decide +kernel
theorem dX12_chance_58 : decode cX12_chance 58 = .ok (.ireturn, 1) := by decide +kernel
theorem dX12_chance_59 : decode cX12_chance 59 = .ok (.aload_n 0, 1) := by decide +kernel
theorem dX12_chance_60 : decode cX12_chance 60 = .ok (.iload 4, 2) := by decide +kernel
theorem dX12_chance_62 : decode cX12_chance 62 = .ok (.invokevirtual 304, 3) := by decide +kernel
theorem dX12_chance_65 : decode cX12_chance 65 = .ok (.istore 5, 2) := by decide +kernel
theorem dX12_chance_67 : decode cX12_chance 67 = .ok (.iconst 0, 1) := by decide +kernel
theorem dX12_chance_68 : decode cX12_chance 68 = .ok (.istore 6, 2) := by decide +kernel
theorem dX12_chance_70 : decode cX12_chance 70 = .ok (.iload 6, 2) := by decide +kernel
theorem dX12_chance_72 : decode cX12_chance 72 = .ok (.iload_n 1, 1) := by decide +kernel
theorem dX12_chance_73 : decode cX12_chance 73 = .ok (.if_icmp .ge 16, 3) := by decide +kernel
theorem dX12_chance_76 : decode cX12_chance 76 = .ok (.iload_n 3, 1) := by decide +kernel
theorem dX12_chance_77 : decode cX12_chance 77 = .ok (.iload 5, 2) := by decide +kernel
theorem dX12_chance_79 : decode cX12_chance 79 = .ok (.invokestatic 268, 3) := by decide +kernel
theorem dX12_chance_82 : decode cX12_chance 82 = .ok (.istore_n 3, 1) := by decide +kernel
theorem dX12_chance_83 : decode cX12_chance 83 = .ok (.iinc 6 1, 3) := by decide +kernel
theorem dX12_chance_86 : decode cX12_chance 86 = .ok (.goto (-16), 3) := by decide +kernel
theorem dX12_chance_89 : decode cX12_chance 89 = .ok (.iinc 4 1, 3) := by decide +kernel
theorem dX12_chance_92 : decode cX12_chance 92 = .ok (.goto (-63), 3) := by decide +kernel
theorem dX12_chance_95 : decode cX12_chance 95 = .ok (.ldc 201, 2) := by decide +kernel
theorem dX12_chance_97 : decode cX12_chance 97 = .ok (.iload_n 3, 1) := by decide +kernel
theorem dX12_chance_98 : decode cX12_chance 98 = .ok (.isub, 1) := by decide +kernel
theorem dX12_chance_99 : decode cX12_chance 99 = .ok (.ireturn, 1) := by decide +kernel
theorem dX12_isShaken_0 : decode cX12_isShaken 0 = .ok (.iconst 0, 1) := by decide +kernel
theorem dX12_isShaken_1 : decode cX12_isShaken 1 = .ok (.istore 6, 2) := by decide +kernel
theorem dX12_isShaken_3 : decode cX12_isShaken 3 = .ok (.iconst 0, 1) := by decide +kernel
theorem dX12_isShaken_4 : decode cX12_isShaken 4 = .ok (.istore 7, 2) := by decide +kernel
theorem dX12_isShaken_6 : decode cX12_isShaken 6 = .ok (.iload 7, 2) := by decide +kernel
theorem dX12_isShaken_8 : decode cX12_isShaken 8 = .ok (.aload_n 0, 1) := by decide +kernel
theorem dX12_isShaken_9 : decode cX12_isShaken 9 = .ok (.getfield 210, 3) := by decide +kernel
theorem dX12_isShaken_12 : decode cX12_isShaken 12 = .ok (.if_icmp .ge 67, 3) := by decide +kernel
theorem dX12_isShaken_15 : decode cX12_isShaken 15 = .ok (.iload 6, 2) := by decide +kernel
theorem dX12_isShaken_17 : decode cX12_isShaken 17 = .ok (.ifCond .ne 49, 3) := by decide +kernel
theorem dX12_isShaken_20 : decode cX12_isShaken 20 = .ok (.aload_n 0, 1) := by decide +kernel
theorem dX12_isShaken_21 : decode cX12_isShaken 21 = .ok (.getfield 23, 3) := by decide +kernel
theorem dX12_isShaken_24 : decode cX12_isShaken 24 = .ok (.iload 7, 2) := by decide +kernel
theorem dX12_isShaken_26 : decode cX12_isShaken 26 = .ok (.iaload, 1) := by decide +kernel
theorem dX12_isShaken_27 : decode cX12_isShaken 27 = .ok (.i2l, 1) := by decide +kernel
theorem dX12_isShaken_28 : decode cX12_isShaken 28 = .ok (.iload 4, 2) := by decide +kernel
theorem dX12_isShaken_30 : decode cX12_isShaken 30 = .ok (.i2l, 1) := by decide +kernel
theorem dX12_isShaken_31 : decode cX12_isShaken 31 = .ok (.iload 5, 2) := by decide +kernel
theorem dX12_isShaken_33 : decode cX12_isShaken 33 = .ok (.i2l, 1) := by decide +kernel
theorem dX12_isShaken_34 : decode cX12_isShaken 34 = .ok (.invokestatic 107, 3) := by decide +kernel
theorem dX12_isShaken_37 : decode cX12_isShaken 37 = .ok (.ifCond .eq 33, 3) := by decide +kernel
theorem dX12_isShaken_40 : decode cX12_isShaken 40 = .ok (.aload_n 0, 1) := by decide +kernel
theorem dX12_isShaken_41 : decode cX12_isShaken 41 = .ok (.getfield 29, 3) := by decide +kernel
theorem dX12_isShaken_44 : decode cX12_isShaken 44 = .ok (.iload 7, 2) := by decide +kernel
theorem dX12_isShaken_46 : decode cX12_isShaken 46 = .ok (.iaload, 1) := by decide +kernel
theorem dX12_isShaken_47 : decode cX12_isShaken 47 = .ok (.iload_n 3, 1) := by decide +kernel
theorem dX12_isShaken_48 : decode cX12_isShaken 48 = .ok (.if_icmp .lt 22, 3) := by decide +kernel
theorem dX12_isShaken_51 : decode cX12_isShaken 51 = .ok (.iload_n 1, 1) := by decide +kernel
theorem dX12_isShaken_52 : decode cX12_isShaken 52 = .ok (.aload_n 0, 1) := by decide +kernel
theorem dX12_isShaken_53 : decode cX12_isShaken 53 = .ok (.getfield 26, 3) := by decide +kernel
theorem dX12_isShaken_56 : decode cX12_isShaken 56 = .ok (.iload 7, 2) := by decide +kernel
theorem dX12_isShaken_58 : decode cX12_isShaken 58 = .ok (.iaload, 1) := by decide +kernel
theorem dX12_isShaken_59 : decode cX12_isShaken 59 = .ok (.invokestatic 117, 3) := by decide +kernel
theorem dX12_isShaken_62 : decode cX12_isShaken 62 = .ok (.iload_n 2, 1) := by decide +kernel
theorem dX12_isShaken_63 : decode cX12_isShaken 63 = .ok (.if_icmp .gt 7, 3) := by decide +kernel
theorem dX12_isShaken_66 : decode cX12_isShaken 66 = .ok (.iconst 1, 1) := by decide +kernel
theorem dX12_isShaken_67 : decode cX12_isShaken 67 = .ok (.goto 4, 3) := by decide +kernel
theorem dX12_isShaken_70 : decode cX12_isShaken 70 = .ok (.iconst 0, 1) := by decide +kernel
theorem dX12_isShaken_71 : decode cX12_isShaken 71 = .ok (.istore 6, 2) := by decide +kernel
theorem dX12_isShaken_73 : decode cX12_isShaken 73 = .ok (.iinc 7 1, 3) := by decide +kernel
theorem dX12_isShaken_76 : decode cX12_isShaken 76 = .ok (.goto (-70), 3) := by decide +kernel
theorem dX12_isShaken_79 : decode cX12_isShaken 79 = .ok (.iload 6, 2) := by decide +kernel
theorem dX12_isShaken_81 : decode cX12_isShaken 81 = .ok (.ireturn, 1) := by decide +kernel
theorem dX12_table_0 : decode cX12_table 0 = .ok (.iload_n 1, 1) := by decide +kernel
theorem dX12_table_1 : decode cX12_table 1 = .ok (.invokestatic 282, 3) := by decide +kernel
theorem dX12_table_4 : decode cX12_table 4 = .ok (.ifCond .ne 7, 3) := by decide +kernel
theorem dX12_table_7 : decode cX12_table 7 = .ok (.sipush (-1001), 3) := by decide +kernel
theorem dX12_table_10 : decode cX12_table 10 = .ok (.ireturn, 1) := by decide +kernel
theorem dX12_table_11 : decode cX12_table 11 = .ok (.iload_n 2, 1) := by decide +kernel
theorem dX12_table_12 : decode cX12_table 12 = .ok (.invokestatic 309, 3) := by decide +kernel
theorem dX12_table_15 : decode cX12_table 15 = .ok (.ifCond .eq 31, 3) := by decide +kernel
theorem dX12_table_18 : decode cX12_table 18 = .ok (.iload_n 3, 1) := by decide +kernel
theorem dX12_table_19 : decode cX12_table 19 = .ok (.invokestatic 125, 3) := by decide +kernel
theorem dX12_table_22 : decode cX12_table 22 = .ok (.ifCond .eq 24, 3) := by decide +kernel
theorem dX12_table_25 : decode cX12_table 25 = .ok (.iload 4, 2) := by decide +kernel
theorem dX12_table_27 : decode cX12_table 27 = .ok (.invokestatic 204, 3) := by decide +kernel
theorem dX12_table_30 : decode cX12_table 30 = .ok (.ifCond .eq 16, 3) := by decide +kernel
theorem dX12_table_33 : decode cX12_table 33 = .ok (.iload 5, 2) := by decide +kernel
theorem dX12_table_35 : decode cX12_table 35 = .ok (.i2l, 1) := by decide +kernel
theorem dX12_table_36 : decode cX12_table 36 = .ok (.lconst 0, 1) := by decide +kernel
theorem dX12_table_37 : decode cX12_table 37 = .ok (.ldc2_w 312, 3) := by decide +kernel
theorem dX12_table_40 : decode cX12_table 40 = .ok (.invokestatic 107, 3) := by decide +kernel
theorem dX12_table_43 : decode cX12_table 43 = .ok (.ifCond .ne 7, 3) := by decide +kernel
theorem dX12_table_46 : decode cX12_table 46 = .ok (.sipush (-1002), 3) := by decide +kernel
theorem dX12_table_49 : decode cX12_table 49 = .ok (.ireturn, 1) := by decide +kernel
theorem dX12_table_50 : decode cX12_table 50 = .ok (.aload_n 0, 1) := by decide +kernel
theorem dX12_table_51 : decode cX12_table 51 = .ok (.iload_n 1, 1) := by decide +kernel
theorem dX12_table_52 : decode cX12_table 52 = .ok (.invokevirtual 285, 3) := by decide +kernel
theorem dX12_table_55 : decode cX12_table 55 = .ok (.iload_n 2, 1) := by decide +kernel
theorem dX12_table_56 : decode cX12_table 56 = .ok (.if_icmp .gt 7, 3) := by decide +kernel
theorem dX12_table_59 : decode cX12_table 59 = .ok (.sipush (-1003), 3) := by decide +kernel
theorem dX12_table_62 : decode cX12_table 62 = .ok (.ireturn, 1) := by decide +kernel
theorem dX12_table_63 : decode cX12_table 63 = .ok (.aload_n 0, 1) := by decide +kernel
theorem dX12_table_64 : decode cX12_table 64 = .ok (.iload_n 1, 1) := by decide +kernel
theorem dX12_table_65 : decode cX12_table 65 = .ok (.aload_n 0, 1) := by decide +kernel
theorem dX12_table_66 : decode cX12_table 66 = .ok (.getfield 57, 3) := by decide +kernel
theorem dX12_table_69 : decode cX12_table 69 = .ok (.invokevirtual 298, 3) := by decide +kernel
theorem dX12_table_72 : decode cX12_table 72 = .ok (.istore 6, 2) := by decide +kernel
theorem dX12_table_74 : decode cX12_table 74 = .ok (.iconst 0, 1) := by decide +kernel
theorem dX12_table_75 : decode cX12_table 75 = .ok (.istore 7, 2) := by decide +kernel
theorem dX12_table_77 : decode cX12_table 77 = .ok (.iload 7, 2) := by decide +kernel
theorem dX12_table_79 : decode cX12_table 79 = .ok (.iconst 4, 1) := by decide +kernel
theorem dX12_table_80 : decode cX12_table 80 = .ok (.if_icmp .ge 17, 3) := by decide +kernel
theorem dX12_table_83 : decode cX12_table 83 = .ok (.aload_n 0, 1) := by decide +kernel
theorem dX12_table_84 : decode cX12_table 84 = .ok (.getfield 63, 3) := by decide +kernel
theorem dX12_table_87 : decode cX12_table 87 = .ok (.iload 7, 2) := by decide +kernel
theorem dX12_table_89 : decode cX12_table 89 = .ok (.iconst 0, 1) := by decide +kernel
theorem dX12_table_90 : decode cX12_table 90 = .ok (.iastore, 1) := by decide +kernel
theorem dX12_table_91 : decode cX12_table 91 = .ok (.iinc 7 1, 3) := by decide +kernel
theorem dX12_table_94 : decode cX12_table 94 = .ok (.goto (-17), 3) := by decide +kernel
theorem dX12_table_97 : decode cX12_table 97 = .ok (.aload_n 0, 1) := by decide +kernel
theorem dX12_table_98 : decode cX12_table 98 = .ok (.getfield 35, 3) := by decide +kernel
theorem dX12_table_101 : decode cX12_table 101 = .ok (.iload_n 1, 1) := by decide +kernel
theorem dX12_table_102 : decode cX12_table 102 = .ok (.iaload, 1) := by decide +kernel
theorem dX12_table_103 : decode cX12_table 103 = .ok (.istore 7, 2) := by decide +kernel
theorem dX12_table_105 : decode cX12_table 105 = .ok (.iload 7, 2) := by decide +kernel
theorem dX12_table_107 : decode cX12_table 107 = .ok (.aload_n 0, 1) := by decide +kernel
theorem dX12_table_108 : decode cX12_table 108 = .ok (.getfield 38, 3) := by decide +kernel
theorem dX12_table_111 : decode cX12_table 111 = .ok (.iload_n 1, 1) := by decide +kernel
theorem dX12_table_112 : decode cX12_table 112 = .ok (.iaload, 1) := by decide +kernel
theorem dX12_table_113 : decode cX12_table 113 = .ok (.iload_n 2, 1) := by decide +kernel
theorem dX12_table_114 : decode cX12_table 114 = .ok (.isub, 1) := by decide +kernel
theorem dX12_table_115 : decode cX12_table 115 = .ok (.if_icmp .gt 79, 3) := by decide +kernel
theorem dX12_table_118 : decode cX12_table 118 = .ok (.aload_n 0, 1) := by decide +kernel
theorem dX12_table_119 : decode cX12_table 119 = .ok (.aload_n 0, 1) := by decide +kernel
theorem dX12_table_120 : decode cX12_table 120 = .ok (.getfield 32, 3) := by decide +kernel
theorem dX12_table_123 : decode cX12_table 123 = .ok (.iload_n 1, 1) := by decide +kernel
theorem dX12_table_124 : decode cX12_table 124 = .ok (.iaload, 1) := by decide +kernel
theorem dX12_table_125 : decode cX12_table 125 = .ok (.iload_n 3, 1) := by decide +kernel
theorem dX12_table_126 : decode cX12_table 126 = .ok (.iload 4, 2) := by decide +kernel
theorem dX12_table_128 : decode cX12_table 128 = .ok (.iload 7, 2) := by decide +kernel
theorem dX12_table_130 : decode cX12_table 130 = .ok (.iconst 1, 1) := by decide +kernel
theorem dX12_table_131 : decode cX12_table 131 = .ok (.iadd, 1) := by decide +kernel
theorem dX12_table_132 : decode cX12_table 132 = .ok (.iload 7, 2) := by decide +kernel
theorem dX12_table_134 : decode cX12_table 134 = .ok (.iload_n 2, 1) := by decide +kernel
theorem dX12_table_135 : decode cX12_table 135 = .ok (.iadd, 1) := by decide +kernel
theorem dX12_table_136 : decode cX12_table 136 = .ok (.invokevirtual 314, 3) := by decide +kernel
theorem dX12_table_139 : decode cX12_table 139 = .ok (.istore 8, 2) := by decide +kernel
theorem dX12_table_141 : decode cX12_table 141 = .ok (.aload_n 0, 1) := by decide +kernel
theorem dX12_table_142 : decode cX12_table 142 = .ok (.getfield 63, 3) := by decide +kernel
theorem dX12_table_145 : decode cX12_table 145 = .ok (.iload 6, 2) := by decide +kernel
theorem dX12_table_147 : decode cX12_table 147 = .ok (.ifCond .le 26, 3) := by decide +kernel
theorem dX12_table_150 : decode cX12_table 150 = .ok (.aload_n 0, 1) := by decide +kernel
theorem dX12_table_151 : decode cX12_table 151 = .ok (.getfield 57, 3) := by decide +kernel
theorem dX12_table_154 : decode cX12_table 154 = .ok (.iload 7, 2) := by decide +kernel
theorem dX12_table_156 : decode cX12_table 156 = .ok (.baload, 1) := by decide +kernel
theorem dX12_table_157 : decode cX12_table 157 = .ok (.ifCond .eq 16, 3) := by decide +kernel
theorem dX12_table_160 : decode cX12_table 160 = .ok (.iload 8, 2) := by decide +kernel
theorem dX12_table_162 : decode cX12_table 162 = .ok (.ifCond .eq 7, 3) := by decide +kernel
theorem dX12_table_165 : decode cX12_table 165 = .ok (.iconst 0, 1) := by decide +kernel
theorem dX12_table_166 : decode cX12_table 166 = .ok (.goto 17, 3) := by decide +kernel
theorem dX12_table_169 : decode cX12_table 169 = .ok (.iconst 1, 1) := by decide +kernel
theorem dX12_table_170 : decode cX12_table 170 = .ok (.goto 13, 3) := by decide +kernel
theorem dX12_table_173 : decode cX12_table 173 = .ok (.iload 8, 2) := by decide +kernel
theorem dX12_table_175 : decode cX12_table 175 = .ok (.ifCond .eq 7, 3) := by decide +kernel
theorem dX12_table_178 : decode cX12_table 178 = .ok (.iconst 2, 1) := by decide +kernel
theorem dX12_table_179 : decode cX12_table 179 = .ok (.goto 4, 3) := by decide +kernel
theorem dX12_table_182 : decode cX12_table 182 = .ok (.iconst 3, 1) := by decide +kernel
theorem dX12_table_183 : decode cX12_table 183 = .ok (.dup2, 1) := by decide +kernel
theorem dX12_table_184 : decode cX12_table 184 = .ok (.iaload, 1) := by decide +kernel
theorem dX12_table_185 : decode cX12_table 185 = .ok (.iconst 1, 1) := by decide +kernel
theorem dX12_table_186 : decode cX12_table 186 = .ok (.iadd, 1) := by decide +kernel
theorem dX12_table_187 : decode cX12_table 187 = .ok (.iastore, 1) := by decide +kernel
theorem dX12_table_188 : decode cX12_table 188 = .ok (.iinc 7 1, 3) := by decide +kernel
theorem dX12_table_191 : decode cX12_table 191 = .ok (.goto (-86), 3) := by decide +kernel
theorem dX12_table_194 : decode cX12_table 194 = .ok (.aload_n 0, 1) := by decide +kernel
theorem dX12_table_195 : decode cX12_table 195 = .ok (.getfield 63, 3) := by decide +kernel
theorem dX12_table_198 : decode cX12_table 198 = .ok (.iconst 0, 1) := by decide +kernel
theorem dX12_table_199 : decode cX12_table 199 = .ok (.iaload, 1) := by decide +kernel
theorem dX12_table_200 : decode cX12_table 200 = .ok (.aload_n 0, 1) := by decide +kernel
theorem dX12_table_201 : decode cX12_table 201 = .ok (.getfield 63, 3) := by decide +kernel
theorem dX12_table_204 : decode cX12_table 204 = .ok (.iconst 1, 1) := by decide +kernel
theorem dX12_table_205 : decode cX12_table 205 = .ok (.iaload, 1) := by decide +kernel
theorem dX12_table_206 : decode cX12_table 206 = .ok (.iadd, 1) := by decide +kernel
theorem dX12_table_207 : decode cX12_table 207 = .ok (.istore 7, 2) := by decide +kernel
theorem dX12_table_209 : decode cX12_table 209 = .ok (.aload_n 0, 1) := by decide +kernel
theorem dX12_table_210 : decode cX12_table 210 = .ok (.getfield 63, 3) := by decide +kernel
theorem dX12_table_213 : decode cX12_table 213 = .ok (.iconst 2, 1) := by decide +kernel
theorem dX12_table_214 : decode cX12_table 214 = .ok (.iaload, 1) := by decide +kernel
theorem dX12_table_215 : decode cX12_table 215 = .ok (.aload_n 0, 1) := by decide +kernel
theorem dX12_table_216 : decode cX12_table 216 = .ok (.getfield 63, 3) := by decide +kernel
theorem dX12_table_219 : decode cX12_table 219 = .ok (.iconst 3, 1) := by decide +kernel
theorem dX12_table_220 : decode cX12_table 220 = .ok (.iaload, 1) := by decide +kernel
theorem dX12_table_221 : decode cX12_table 221 = .ok (.iadd, 1) := by decide +kernel
theorem dX12_table_222 : decode cX12_table 222 = .ok (.istore 8, 2) := by decide +kernel
theorem dX12_table_224 : decode cX12_table 224 = .ok (.iload 7, 2) := by decide +kernel
theorem dX12_table_226 : decode cX12_table 226 = .ok (.ifCond .ne 7, 3) := by decide +kernel
theorem dX12_table_229 : decode cX12_table 229 = .ok (.iconst 0, 1) := by decide +kernel
theorem dX12_table_230 : decode cX12_table 230 = .ok (.goto 16, 3) := by decide +kernel
theorem dX12_table_233 : decode cX12_table 233 = .ok (.sipush 1000, 3) := by decide +kernel
theorem dX12_table_236 : decode cX12_table 236 = .ok (.aload_n 0, 1) := by decide +kernel
theorem dX12_table_237 : decode cX12_table 237 = .ok (.getfield 63, 3) := by decide +kernel
theorem dX12_table_240 : decode cX12_table 240 = .ok (.iconst 0, 1) := by decide +kernel
theorem dX12_table_241 : decode cX12_table 241 = .ok (.iaload, 1) := by decide +kernel
theorem dX12_table_242 : decode cX12_table 242 = .ok (.imul, 1) := by decide +kernel
theorem dX12_table_243 : decode cX12_table 243 = .ok (.iload 7, 2) := by decide +kernel
theorem dX12_table_245 : decode cX12_table 245 = .ok (.idiv, 1) := by decide +kernel
theorem dX12_table_246 : decode cX12_table 246 = .ok (.iload 8, 2) := by decide +kernel
theorem dX12_table_248 : decode cX12_table 248 = .ok (.ifCond .ne 7, 3) := by decide +kernel
theorem dX12_table_251 : decode cX12_table 251 = .ok (.iconst 0, 1) := by decide +kernel
theorem dX12_table_252 : decode cX12_table 252 = .ok (.goto 16, 3) := by decide +kernel
theorem dX12_table_255 : decode cX12_table 255 = .ok (.sipush 1000, 3) := by decide +kernel
theorem dX12_table_258 : decode cX12_table 258 = .ok (.aload_n 0, 1) := by decide +kernel
theorem dX12_table_259 : decode cX12_table 259 = .ok (.getfield 63, 3) := by decide +kernel
theorem dX12_table_262 : decode cX12_table 262 = .ok (.iconst 2, 1) := by decide +kernel
theorem dX12_table_263 : decode cX12_table 263 = .ok (.iaload, 1) := by decide +kernel
theorem dX12_table_264 : decode cX12_table 264 = .ok (.imul, 1) := by decide +kernel
theorem dX12_table_265 : decode cX12_table 265 = .ok (.iload 8, 2) := by decide +kernel
theorem dX12_table_267 : decode cX12_table 267 = .ok (.idiv, 1) := by decide +kernel
theorem dX12_table_268 : decode cX12_table 268 = .ok (.isub, 1) := by decide +kernel
theorem dX12_table_269 : decode cX12_table 269 = .ok (.istore 9, 2) := by decide +kernel
theorem dX12_table_271 : decode cX12_table 271 = .ok (.iload 5, 2) := by decide +kernel
theorem dX12_table_273 : decode cX12_table 273 = .ok (.iconst 4, 1) := by decide +kernel
theorem dX12_table_274 : decode cX12_table 274 = .ok (.if_icmp .ne 8, 3) := by decide +kernel
theorem dX12_table_277 : decode cX12_table 277 = .ok (.iload 9, 2) := by decide +kernel
theorem dX12_table_279 : decode cX12_table 279 = .ok (.goto 10, 3) := by decide +kernel
theorem dX12_table_282 : decode cX12_table 282 = .ok (.aload_n 0, 1) := by decide +kernel
theorem dX12_table_283 : decode cX12_table 283 = .ok (.getfield 63, 3) := by decide +kernel
theorem dX12_table_286 : decode cX12_table 286 = .ok (.iload 5, 2) := by decide +kernel
theorem dX12_table_288 : decode cX12_table 288 = .ok (.iaload, 1) := by decide +kernel
theorem dX12_table_289 : decode cX12_table 289 = .ok (.ireturn, 1) := by decide +kernel
theorem dX12_story_0 : decode cX12_story 0 = .ok (.iload_n 1, 1) := by decide +kernel
theorem dX12_story_1 : decode cX12_story 1 = .ok (.invokestatic 282, 3) := by decide +kernel
theorem dX12_story_4 : decode cX12_story 4 = .ok (.ifCond .eq 10, 3) := by decide +kernel
theorem dX12_story_7 : decode cX12_story 7 = .ok (.iload_n 2, 1) := by decide +kernel
theorem dX12_story_8 : decode cX12_story 8 = .ok (.invokestatic 282, 3) := by decide +kernel
theorem dX12_story_11 : decode cX12_story 11 = .ok (.ifCond .ne 7, 3) := by decide +kernel
theorem dX12_story_14 : decode cX12_story 14 = .ok (.sipush (-1001), 3) := by decide +kernel
theorem dX12_story_17 : decode cX12_story 17 = .ok (.ireturn, 1) := by decide +kernel
theorem dX12_story_18 : decode cX12_story 18 = .ok (.iload_n 3, 1) := by decide +kernel
theorem dX12_story_19 : decode cX12_story 19 = .ok (.i2l, 1) := by decide +kernel
theorem dX12_story_20 : decode cX12_story 20 = .ok (.lconst 0, 1) := by decide +kernel
theorem dX12_story_21 : decode cX12_story 21 = .ok (.ldc2_w 307, 3) := by decide +kernel
theorem dX12_story_24 : decode cX12_story 24 = .ok (.invokestatic 107, 3) := by decide +kernel
theorem dX12_story_27 : decode cX12_story 27 = .ok (.ifCond .ne 7, 3) := by decide +kernel
theorem dX12_story_30 : decode cX12_story 30 = .ok (.sipush (-1002), 3) := by decide +kernel
theorem dX12_story_33 : decode cX12_story 33 = .ok (.ireturn, 1) := by decide +kernel
theorem dX12_story_34 : decode cX12_story 34 = .ok (.aload_n 0, 1) := by decide +kernel
theorem dX12_story_35 : decode cX12_story 35 = .ok (.iload_n 1, 1) := by decide +kernel
theorem dX12_story_36 : decode cX12_story 36 = .ok (.invokevirtual 285, 3) := by decide +kernel
theorem dX12_story_39 : decode cX12_story 39 = .ok (.ifCond .eq 11, 3) := by decide +kernel
theorem dX12_story_42 : decode cX12_story 42 = .ok (.aload_n 0, 1) := by decide +kernel
theorem dX12_story_43 : decode cX12_story 43 = .ok (.iload_n 2, 1) := by decide +kernel
theorem dX12_story_44 : decode cX12_story 44 = .ok (.invokevirtual 285, 3) := by decide +kernel
theorem dX12_story_47 : decode cX12_story 47 = .ok (.ifCond .ne 7, 3) := by decide +kernel
theorem dX12_story_50 : decode cX12_story 50 = .ok (.sipush (-1003), 3) := by decide +kernel
theorem dX12_story_53 : decode cX12_story 53 = .ok (.ireturn, 1) := by decide +kernel
theorem dX12_story_54 : decode cX12_story 54 = .ok (.aload_n 0, 1) := by decide +kernel
theorem dX12_story_55 : decode cX12_story 55 = .ok (.iload_n 1, 1) := by decide +kernel
theorem dX12_story_56 : decode cX12_story 56 = .ok (.aload_n 0, 1) := by decide +kernel
theorem dX12_story_57 : decode cX12_story 57 = .ok (.getfield 57, 3) := by decide +kernel
theorem dX12_story_60 : decode cX12_story 60 = .ok (.invokevirtual 298, 3) := by decide +kernel
theorem dX12_story_63 : decode cX12_story 63 = .ok (.aload_n 0, 1) := by decide +kernel
theorem dX12_story_64 : decode cX12_story 64 = .ok (.iload_n 2, 1) := by decide +kernel
theorem dX12_story_65 : decode cX12_story 65 = .ok (.aload_n 0, 1) := by decide +kernel
theorem dX12_story_66 : decode cX12_story 66 = .ok (.getfield 60, 3) := by decide +kernel
theorem dX12_story_69 : decode cX12_story 69 = .ok (.invokevirtual 298, 3) := by decide +kernel
theorem dX12_story_72 : decode cX12_story 72 = .ok (.iadd, 1) := by decide +kernel
theorem dX12_story_73 : decode cX12_story 73 = .ok (.istore 4, 2) := by decide +kernel
theorem dX12_story_75 : decode cX12_story 75 = .ok (.iconst 0, 1) := by decide +kernel
theorem dX12_story_76 : decode cX12_story 76 = .ok (.istore 5, 2) := by decide +kernel
theorem dX12_story_78 : decode cX12_story 78 = .ok (.iconst 0, 1) := by decide +kernel
theorem dX12_story_79 : decode cX12_story 79 = .ok (.istore 6, 2) := by decide +kernel
theorem dX12_story_81 : decode cX12_story 81 = .ok (.iload 6, 2) := by decide +kernel
theorem dX12_story_83 : decode cX12_story 83 = .ok (.sipush 399, 3) := by decide +kernel
theorem dX12_story_86 : decode cX12_story 86 = .ok (.if_icmp .gt 89, 3) := by decide +kernel
theorem dX12_story_89 : decode cX12_story 89 = .ok (.iload 4, 2) := by decide +kernel
theorem dX12_story_91 : decode cX12_story 91 = .ok (.ifCond .le 84, 3) := by decide +kernel
theorem dX12_story_94 : decode cX12_story 94 = .ok (.aload_n 0, 1) := by decide +kernel
theorem dX12_story_95 : decode cX12_story 95 = .ok (.getfield 57, 3) := by decide +kernel
theorem dX12_story_98 : decode cX12_story 98 = .ok (.iload 6, 2) := by decide +kernel
theorem dX12_story_100 : decode cX12_story 100 = .ok (.baload, 1) := by decide +kernel
theorem dX12_story_101 : decode cX12_story 101 = .ok (.istore 7, 2) := by decide +kernel
theorem dX12_story_103 : decode cX12_story 103 = .ok (.iload 6, 2) := by decide +kernel
theorem dX12_story_105 : decode cX12_story 105 = .ok (.istore 8, 2) := by decide +kernel
theorem dX12_story_107 : decode cX12_story 107 = .ok (.iload 8, 2) := by decide +kernel
theorem dX12_story_109 : decode cX12_story 109 = .ok (.iload 6, 2) := by decide +kernel
theorem dX12_story_111 : decode cX12_story 111 = .ok (.iload_n 3, 1) := by decide +kernel
theorem dX12_story_112 : decode cX12_story 112 = .ok (.iadd, 1) := by decide +kernel
theorem dX12_story_113 : decode cX12_story 113 = .ok (.if_icmp .gt 41, 3) := by decide +kernel
theorem dX12_story_116 : decode cX12_story 116 = .ok (.iload 7, 2) := by decide +kernel
theorem dX12_story_118 : decode cX12_story 118 = .ok (.ifCond .eq 36, 3) := by decide +kernel
theorem dX12_story_121 : decode cX12_story 121 = .ok (.aload_n 0, 1) := by decide +kernel
theorem dX12_story_122 : decode cX12_story 122 = .ok (.iload_n 2, 1) := by decide +kernel
theorem dX12_story_123 : decode cX12_story 123 = .ok (.iload 8, 2) := by decide +kernel
theorem dX12_story_125 : decode cX12_story 125 = .ok (.invokevirtual 288, 3) := by decide +kernel
theorem dX12_story_128 : decode cX12_story 128 = .ok (.ifCond .eq 17, 3) := by decide +kernel
theorem dX12_story_131 : decode cX12_story 131 = .ok (.aload_n 0, 1) := by decide +kernel
theorem dX12_story_132 : decode cX12_story 132 = .ok (.getfield 60, 3) := by decide +kernel
theorem dX12_story_135 : decode cX12_story 135 = .ok (.iload 8, 2) := by decide +kernel
theorem dX12_story_137 : decode cX12_story 137 = .ok (.baload, 1) := by decide +kernel
theorem dX12_story_138 : decode cX12_story 138 = .ok (.ifCond .ne 7, 3) := by decide +kernel
theorem dX12_story_141 : decode cX12_story 141 = .ok (.iconst 1, 1) := by decide +kernel
theorem dX12_story_142 : decode cX12_story 142 = .ok (.goto 4, 3) := by decide +kernel
theorem dX12_story_145 : decode cX12_story 145 = .ok (.iconst 0, 1) := by decide +kernel
theorem dX12_story_146 : decode cX12_story 146 = .ok (.istore 7, 2) := by decide +kernel
theorem dX12_story_148 : decode cX12_story 148 = .ok (.iinc 8 1, 3) := by decide +kernel
theorem dX12_story_151 : decode cX12_story 151 = .ok (.goto (-44), 3) := by decide +kernel
theorem dX12_story_154 : decode cX12_story 154 = .ok (.iload 5, 2) := by decide +kernel
theorem dX12_story_156 : decode cX12_story 156 = .ok (.iload 7, 2) := by decide +kernel
theorem dX12_story_158 : decode cX12_story 158 = .ok (.ifCond .eq 7, 3) := by decide +kernel
theorem dX12_story_161 : decode cX12_story 161 = .ok (.iconst 1, 1) := by decide +kernel
theorem dX12_story_162 : decode cX12_story 162 = .ok (.goto 4, 3) := by decide +kernel
theorem dX12_story_165 : decode cX12_story 165 = .ok (.iconst 0, 1) := by decide +kernel
theorem dX12_story_166 : decode cX12_story 166 = .ok (.iadd, 1) := by decide +kernel
theorem dX12_story_167 : decode cX12_story 167 = .ok (.istore 5, 2) := by decide +kernel
theorem dX12_story_169 : decode cX12_story 169 = .ok (.iinc 6 1, 3) := by decide +kernel
theorem dX12_story_172 : decode cX12_story 172 = .ok (.goto (-91), 3) := by decide +kernel
theorem dX12_story_175 : decode cX12_story 175 = .ok (.iload 5, 2) := by decide +kernel
theorem dX12_story_177 : decode cX12_story 177 = .ok (.ireturn, 1) := by decide +kernel
theorem dX12_claim_0 : decode cX12_claim 0 = .ok (.iload_n 2, 1) := by decide +kernel
theorem dX12_claim_1 : decode cX12_claim 1 = .ok (.invokestatic 121, 3) := by decide +kernel
theorem dX12_claim_4 : decode cX12_claim 4 = .ok (.ifCond .ne 7, 3) := by decide +kernel
theorem dX12_claim_7 : decode cX12_claim 7 = .ok (.sipush (-1001), 3) := by decide +kernel
theorem dX12_claim_10 : decode cX12_claim 10 = .ok (.ireturn, 1) := by decide +kernel
theorem dX12_claim_11 : decode cX12_claim 11 = .ok (.iload_n 1, 1) := by decide +kernel
theorem dX12_claim_12 : decode cX12_claim 12 = .ok (.invokestatic 213, 3) := by decide +kernel
theorem dX12_claim_15 : decode cX12_claim 15 = .ok (.ifCond .eq 62, 3) := by decide +kernel
theorem dX12_claim_18 : decode cX12_claim 18 = .ok (.iload 5, 2) := by decide +kernel
theorem dX12_claim_20 : decode cX12_claim 20 = .ok (.i2l, 1) := by decide +kernel
theorem dX12_claim_21 : decode cX12_claim 21 = .ok (.iload_n 1, 1) := by decide +kernel
theorem dX12_claim_22 : decode cX12_claim 22 = .ok (.iconst 1, 1) := by decide +kernel
theorem dX12_claim_23 : decode cX12_claim 23 = .ok (.iadd, 1) := by decide +kernel
theorem dX12_claim_24 : decode cX12_claim 24 = .ok (.i2l, 1) := by decide +kernel
theorem dX12_claim_25 : decode cX12_claim 25 = .ok (.ldc2_w 111, 3) := by decide +kernel
theorem dX12_claim_28 : decode cX12_claim 28 = .ok (.invokestatic 107, 3) := by decide +kernel
theorem dX12_claim_31 : decode cX12_claim 31 = .ok (.ifCond .eq 46, 3) := by decide +kernel
theorem dX12_claim_34 : decode cX12_claim 34 = .ok (.iload 6, 2) := by decide +kernel
theorem dX12_claim_36 : decode cX12_claim 36 = .ok (.i2l, 1) := by decide +kernel
theorem dX12_claim_37 : decode cX12_claim 37 = .ok (.iload 5, 2) := by decide +kernel
theorem dX12_claim_39 : decode cX12_claim 39 = .ok (.i2l, 1) := by decide +kernel
theorem dX12_claim_40 : decode cX12_claim 40 = .ok (.ldc2_w 111, 3) := by decide +kernel
theorem dX12_claim_43 : decode cX12_claim 43 = .ok (.invokestatic 107, 3) := by decide +kernel
theorem dX12_claim_46 : decode cX12_claim 46 = .ok (.ifCond .eq 31, 3) := by decide +kernel
theorem dX12_claim_49 : decode cX12_claim 49 = .ok (.iload_n 3, 1) := by decide +kernel
theorem dX12_claim_50 : decode cX12_claim 50 = .ok (.invokestatic 125, 3) := by decide +kernel
theorem dX12_claim_53 : decode cX12_claim 53 = .ok (.ifCond .eq 24, 3) := by decide +kernel
theorem dX12_claim_56 : decode cX12_claim 56 = .ok (.iload 4, 2) := by decide +kernel
theorem dX12_claim_58 : decode cX12_claim 58 = .ok (.invokestatic 204, 3) := by decide +kernel
theorem dX12_claim_61 : decode cX12_claim 61 = .ok (.ifCond .eq 16, 3) := by decide +kernel
theorem dX12_claim_64 : decode cX12_claim 64 = .ok (.iload 7, 2) := by decide +kernel
theorem dX12_claim_66 : decode cX12_claim 66 = .ok (.i2l, 1) := by decide +kernel
theorem dX12_claim_67 : decode cX12_claim 67 = .ok (.lconst 0, 1) := by decide +kernel
theorem dX12_claim_68 : decode cX12_claim 68 = .ok (.ldc2_w 202, 3) := by decide +kernel
theorem dX12_claim_71 : decode cX12_claim 71 = .ok (.invokestatic 107, 3) := by decide +kernel
theorem dX12_claim_74 : decode cX12_claim 74 = .ok (.ifCond .ne 7, 3) := by decide +kernel
theorem dX12_claim_77 : decode cX12_claim 77 = .ok (.sipush (-1002), 3) := by decide +kernel
theorem dX12_claim_80 : decode cX12_claim 80 = .ok (.ireturn, 1) := by decide +kernel
theorem dX12_claim_81 : decode cX12_claim 81 = .ok (.aload_n 0, 1) := by decide +kernel
theorem dX12_claim_82 : decode cX12_claim 82 = .ok (.getfield 252, 3) := by decide +kernel
theorem dX12_claim_85 : decode cX12_claim 85 = .ok (.bipush 12, 2) := by decide +kernel
theorem dX12_claim_87 : decode cX12_claim 87 = .ok (.if_icmp .ne 7, 3) := by decide +kernel
theorem dX12_claim_90 : decode cX12_claim 90 = .ok (.sipush (-1004), 3) := by decide +kernel
theorem dX12_claim_93 : decode cX12_claim 93 = .ok (.ireturn, 1) := by decide +kernel
theorem dX12_claim_94 : decode cX12_claim 94 = .ok (.bipush 7, 2) := by decide +kernel
theorem dX12_claim_96 : decode cX12_claim 96 = .ok (.aload_n 0, 1) := by decide +kernel
theorem dX12_claim_97 : decode cX12_claim 97 = .ok (.getfield 252, 3) := by decide +kernel
theorem dX12_claim_100 : decode cX12_claim 100 = .ok (.imul, 1) := by decide +kernel
theorem dX12_claim_101 : decode cX12_claim 101 = .ok (.istore 8, 2) := by decide +kernel
theorem dX12_claim_103 : decode cX12_claim 103 = .ok (.aload_n 0, 1) := by decide +kernel
theorem dX12_claim_104 : decode cX12_claim 104 = .ok (.getfield 66, 3) := by decide +kernel
theorem dX12_claim_107 : decode cX12_claim 107 = .ok (.iload 8, 2) := by decide +kernel
theorem dX12_claim_109 : decode cX12_claim 109 = .ok (.iload_n 1, 1) := by decide +kernel
theorem dX12_claim_110 : decode cX12_claim 110 = .ok (.iastore, 1) := by decide +kernel
theorem dX12_claim_111 : decode cX12_claim 111 = .ok (.aload_n 0, 1) := by decide +kernel
theorem dX12_claim_112 : decode cX12_claim 112 = .ok (.getfield 66, 3) := by decide +kernel
theorem dX12_claim_115 : decode cX12_claim 115 = .ok (.iload 8, 2) := by decide +kernel
theorem dX12_claim_117 : decode cX12_claim 117 = .ok (.iconst 1, 1) := by decide +kernel
theorem dX12_claim_118 : decode cX12_claim 118 = .ok (.iadd, 1) := by decide +kernel
theorem dX12_claim_119 : decode cX12_claim 119 = .ok (.iload_n 2, 1) := by decide +kernel
theorem dX12_claim_120 : decode cX12_claim 120 = .ok (.iastore, 1) := by decide +kernel
theorem dX12_claim_121 : decode cX12_claim 121 = .ok (.aload_n 0, 1) := by decide +kernel
theorem dX12_claim_122 : decode cX12_claim 122 = .ok (.getfield 66, 3) := by decide +kernel
theorem dX12_claim_125 : decode cX12_claim 125 = .ok (.iload 8, 2) := by decide +kernel
theorem dX12_claim_127 : decode cX12_claim 127 = .ok (.iconst 2, 1) := by decide +kernel
theorem dX12_claim_128 : decode cX12_claim 128 = .ok (.iadd, 1) := by decide +kernel
theorem dX12_claim_129 : decode cX12_claim 129 = .ok (.iload_n 3, 1) := by decide +kernel
theorem dX12_claim_130 : decode cX12_claim 130 = .ok (.iastore, 1) := by decide +kernel
theorem dX12_claim_131 : decode cX12_claim 131 = .ok (.aload_n 0, 1) := by decide +kernel
theorem dX12_claim_132 : decode cX12_claim 132 = .ok (.getfield 66, 3) := by decide +kernel
theorem dX12_claim_135 : decode cX12_claim 135 = .ok (.iload 8, 2) := by decide +kernel
theorem dX12_claim_137 : decode cX12_claim 137 = .ok (.iconst 3, 1) := by decide +kernel
theorem dX12_claim_138 : decode cX12_claim 138 = .ok (.iadd, 1) := by decide +kernel
theorem dX12_claim_139 : decode cX12_claim 139 = .ok (.iload 4, 2) := by decide +kernel
theorem dX12_claim_141 : decode cX12_claim 141 = .ok (.iastore, 1) := by decide +kernel
theorem dX12_claim_142 : decode cX12_claim 142 = .ok (.aload_n 0, 1) := by decide +kernel
theorem dX12_claim_143 : decode cX12_claim 143 = .ok (.getfield 66, 3) := by decide +kernel
theorem dX12_claim_146 : decode cX12_claim 146 = .ok (.iload 8, 2) := by decide +kernel
theorem dX12_claim_148 : decode cX12_claim 148 = .ok (.iconst 4, 1) := by decide +kernel
theorem dX12_claim_149 : decode cX12_claim 149 = .ok (.iadd, 1) := by decide +kernel
theorem dX12_claim_150 : decode cX12_claim 150 = .ok (.iload 5, 2) := by decide +kernel
theorem dX12_claim_152 : decode cX12_claim 152 = .ok (.iastore, 1) := by decide +kernel
theorem dX12_claim_153 : decode cX12_claim 153 = .ok (.aload_n 0, 1) := by decide +kernel
theorem dX12_claim_154 : decode cX12_claim 154 = .ok (.getfield 66, 3) := by decide +kernel
theorem dX12_claim_157 : decode cX12_claim 157 = .ok (.iload 8, 2) := by decide +kernel
theorem dX12_claim_159 : decode cX12_claim 159 = .ok (.iconst 5, 1) := by decide +kernel
theorem dX12_claim_160 : decode cX12_claim 160 = .ok (.iadd, 1) := by decide +kernel
theorem dX12_claim_161 : decode cX12_claim 161 = .ok (.iload 6, 2) := by decide +kernel
theorem dX12_claim_163 : decode cX12_claim 163 = .ok (.iastore, 1) := by decide +kernel
theorem dX12_claim_164 : decode cX12_claim 164 = .ok (.aload_n 0, 1) := by decide +kernel
theorem dX12_claim_165 : decode cX12_claim 165 = .ok (.getfield 66, 3) := by decide +kernel
theorem dX12_claim_168 : decode cX12_claim 168 = .ok (.iload 8, 2) := by decide +kernel
theorem dX12_claim_170 : decode cX12_claim 170 = .ok (.bipush 6, 2) := by decide +kernel
theorem dX12_claim_172 : decode cX12_claim 172 = .ok (.iadd, 1) := by decide +kernel
theorem dX12_claim_173 : decode cX12_claim 173 = .ok (.iload 7, 2) := by decide +kernel
theorem dX12_claim_175 : decode cX12_claim 175 = .ok (.iastore, 1) := by decide +kernel
theorem dX12_claim_176 : decode cX12_claim 176 = .ok (.aload_n 0, 1) := by decide +kernel
theorem dX12_claim_177 : decode cX12_claim 177 = .ok (.dup, 1) := by decide +kernel
theorem dX12_claim_178 : decode cX12_claim 178 = .ok (.getfield 252, 3) := by decide +kernel
theorem dX12_claim_181 : decode cX12_claim 181 = .ok (.iconst 1, 1) := by decide +kernel
theorem dX12_claim_182 : decode cX12_claim 182 = .ok (.iadd, 1) := by decide +kernel
theorem dX12_claim_183 : decode cX12_claim 183 = .ok (.putfield 252, 3) := by decide +kernel
theorem dX12_claim_186 : decode cX12_claim 186 = .ok (.aload_n 0, 1) := by decide +kernel
theorem dX12_claim_187 : decode cX12_claim 187 = .ok (.getfield 252, 3) := by decide +kernel
theorem dX12_claim_190 : decode cX12_claim 190 = .ok (.iconst 1, 1) := by decide +kernel
theorem dX12_claim_191 : decode cX12_claim 191 = .ok (.isub, 1) := by decide +kernel
theorem dX12_claim_192 : decode cX12_claim 192 = .ok (.ireturn, 1) := by decide +kernel
theorem dX12_hitOf_0 : decode cX12_hitOf 0 = .ok (.bipush 7, 2) := by decide +kernel
theorem dX12_hitOf_2 : decode cX12_hitOf 2 = .ok (.iload_n 1, 1) := by decide +kernel
theorem dX12_hitOf_3 : decode cX12_hitOf 3 = .ok (.imul, 1) := by decide +kernel
theorem dX12_hitOf_4 : decode cX12_hitOf 4 = .ok (.istore_n 2, 1) := by decide +kernel
theorem dX12_hitOf_5 : decode cX12_hitOf 5 = .ok (.iconst (-1), 1) := by decide +kernel
theorem dX12_hitOf_6 : decode cX12_hitOf 6 = .ok (.istore_n 3, 1) := by decide +kernel
theorem dX12_hitOf_7 : decode cX12_hitOf 7 = .ok (.aload_n 0, 1) := by decide +kernel
theorem dX12_hitOf_8 : decode cX12_hitOf 8 = .ok (.getfield 210, 3) := by decide +kernel
theorem dX12_hitOf_11 : decode cX12_hitOf 11 = .ok (.iconst 1, 1) := by decide +kernel
theorem dX12_hitOf_12 : decode cX12_hitOf 12 = .ok (.isub, 1) := by decide +kernel
theorem dX12_hitOf_13 : decode cX12_hitOf 13 = .ok (.istore 4, 2) := by decide +kernel
theorem dX12_hitOf_15 : decode cX12_hitOf 15 = .ok (.iload 4, 2) := by decide +kernel
theorem dX12_hitOf_17 : decode cX12_hitOf 17 = .ok (.ifCond .lt 107, 3) := by decide +kernel
theorem dX12_hitOf_20 : decode cX12_hitOf 20 = .ok (.aload_n 0, 1) := by decide +kernel
theorem dX12_hitOf_21 : decode cX12_hitOf 21 = .ok (.getfield 23, 3) := by decide +kernel
theorem dX12_hitOf_24 : decode cX12_hitOf 24 = .ok (.iload 4, 2) := by decide +kernel
theorem dX12_hitOf_26 : decode cX12_hitOf 26 = .ok (.iaload, 1) := by decide +kernel
theorem dX12_hitOf_27 : decode cX12_hitOf 27 = .ok (.i2l, 1) := by decide +kernel
theorem dX12_hitOf_28 : decode cX12_hitOf 28 = .ok (.aload_n 0, 1) := by decide +kernel
theorem dX12_hitOf_29 : decode cX12_hitOf 29 = .ok (.getfield 66, 3) := by decide +kernel
theorem dX12_hitOf_32 : decode cX12_hitOf 32 = .ok (.iload_n 2, 1) := by decide +kernel
theorem dX12_hitOf_33 : decode cX12_hitOf 33 = .ok (.iconst 4, 1) := by decide +kernel
theorem dX12_hitOf_34 : decode cX12_hitOf 34 = .ok (.iadd, 1) := by decide +kernel
theorem dX12_hitOf_35 : decode cX12_hitOf 35 = .ok (.iaload, 1) := by decide +kernel
theorem dX12_hitOf_36 : decode cX12_hitOf 36 = .ok (.i2l, 1) := by decide +kernel
theorem dX12_hitOf_37 : decode cX12_hitOf 37 = .ok (.aload_n 0, 1) := by decide +kernel
theorem dX12_hitOf_38 : decode cX12_hitOf 38 = .ok (.getfield 66, 3) := by decide +kernel
theorem dX12_hitOf_41 : decode cX12_hitOf 41 = .ok (.iload_n 2, 1) := by decide +kernel
theorem dX12_hitOf_42 : decode cX12_hitOf 42 = .ok (.iconst 5, 1) := by decide +kernel
theorem dX12_hitOf_43 : decode cX12_hitOf 43 = .ok (.iadd, 1) := by decide +kernel
theorem dX12_hitOf_44 : decode cX12_hitOf 44 = .ok (.iaload, 1) := by decide +kernel
theorem dX12_hitOf_45 : decode cX12_hitOf 45 = .ok (.i2l, 1) := by decide +kernel
theorem dX12_hitOf_46 : decode cX12_hitOf 46 = .ok (.invokestatic 107, 3) := by decide +kernel
theorem dX12_hitOf_49 : decode cX12_hitOf 49 = .ok (.ifCond .eq 25, 3) := by decide +kernel
theorem dX12_hitOf_52 : decode cX12_hitOf 52 = .ok (.aload_n 0, 1) := by decide +kernel
theorem dX12_hitOf_53 : decode cX12_hitOf 53 = .ok (.getfield 29, 3) := by decide +kernel
theorem dX12_hitOf_56 : decode cX12_hitOf 56 = .ok (.iload 4, 2) := by decide +kernel
theorem dX12_hitOf_58 : decode cX12_hitOf 58 = .ok (.iaload, 1) := by decide +kernel
theorem dX12_hitOf_59 : decode cX12_hitOf 59 = .ok (.aload_n 0, 1) := by decide +kernel
theorem dX12_hitOf_60 : decode cX12_hitOf 60 = .ok (.getfield 66, 3) := by decide +kernel
theorem dX12_hitOf_63 : decode cX12_hitOf 63 = .ok (.iload_n 2, 1) := by decide +kernel
theorem dX12_hitOf_64 : decode cX12_hitOf 64 = .ok (.iconst 3, 1) := by decide +kernel
theorem dX12_hitOf_65 : decode cX12_hitOf 65 = .ok (.iadd, 1) := by decide +kernel
theorem dX12_hitOf_66 : decode cX12_hitOf 66 = .ok (.iaload, 1) := by decide +kernel
theorem dX12_hitOf_67 : decode cX12_hitOf 67 = .ok (.if_icmp .lt 7, 3) := by decide +kernel
theorem dX12_hitOf_70 : decode cX12_hitOf 70 = .ok (.iconst 1, 1) := by decide +kernel
theorem dX12_hitOf_71 : decode cX12_hitOf 71 = .ok (.goto 4, 3) := by decide +kernel
theorem dX12_hitOf_74 : decode cX12_hitOf 74 = .ok (.iconst 0, 1) := by decide +kernel
theorem dX12_hitOf_75 : decode cX12_hitOf 75 = .ok (.istore 5, 2) := by decide +kernel
theorem dX12_hitOf_77 : decode cX12_hitOf 77 = .ok (.iload 5, 2) := by decide +kernel
theorem dX12_hitOf_79 : decode cX12_hitOf 79 = .ok (.ifCond .eq 37, 3) := by decide +kernel
theorem dX12_hitOf_82 : decode cX12_hitOf 82 = .ok (.aload_n 0, 1) := by decide +kernel
theorem dX12_hitOf_83 : decode cX12_hitOf 83 = .ok (.getfield 26, 3) := by decide +kernel
theorem dX12_hitOf_86 : decode cX12_hitOf 86 = .ok (.iload 4, 2) := by decide +kernel
theorem dX12_hitOf_88 : decode cX12_hitOf 88 = .ok (.iaload, 1) := by decide +kernel
theorem dX12_hitOf_89 : decode cX12_hitOf 89 = .ok (.aload_n 0, 1) := by decide +kernel
theorem dX12_hitOf_90 : decode cX12_hitOf 90 = .ok (.getfield 66, 3) := by decide +kernel
theorem dX12_hitOf_93 : decode cX12_hitOf 93 = .ok (.iload_n 2, 1) := by decide +kernel
theorem dX12_hitOf_94 : decode cX12_hitOf 94 = .ok (.iconst 1, 1) := by decide +kernel
theorem dX12_hitOf_95 : decode cX12_hitOf 95 = .ok (.iadd, 1) := by decide +kernel
theorem dX12_hitOf_96 : decode cX12_hitOf 96 = .ok (.iaload, 1) := by decide +kernel
theorem dX12_hitOf_97 : decode cX12_hitOf 97 = .ok (.invokestatic 117, 3) := by decide +kernel
theorem dX12_hitOf_100 : decode cX12_hitOf 100 = .ok (.aload_n 0, 1) := by decide +kernel
theorem dX12_hitOf_101 : decode cX12_hitOf 101 = .ok (.getfield 66, 3) := by decide +kernel
theorem dX12_hitOf_104 : decode cX12_hitOf 104 = .ok (.iload_n 2, 1) := by decide +kernel
theorem dX12_hitOf_105 : decode cX12_hitOf 105 = .ok (.iconst 2, 1) := by decide +kernel
theorem dX12_hitOf_106 : decode cX12_hitOf 106 = .ok (.iadd, 1) := by decide +kernel
theorem dX12_hitOf_107 : decode cX12_hitOf 107 = .ok (.iaload, 1) := by decide +kernel
theorem dX12_hitOf_108 : decode cX12_hitOf 108 = .ok (.if_icmp .gt 8, 3) := by decide +kernel
theorem dX12_hitOf_111 : decode cX12_hitOf 111 = .ok (.iload 4, 2) := by decide +kernel
theorem dX12_hitOf_113 : decode cX12_hitOf 113 = .ok (.goto 4, 3) := by decide +kernel
theorem dX12_hitOf_116 : decode cX12_hitOf 116 = .ok (.iload_n 3, 1) := by decide +kernel
theorem dX12_hitOf_117 : decode cX12_hitOf 117 = .ok (.istore_n 3, 1) := by decide +kernel
theorem dX12_hitOf_118 : decode cX12_hitOf 118 = .ok (.iinc 4 (-1), 3) := by decide +kernel
theorem dX12_hitOf_121 : decode cX12_hitOf 121 = .ok (.goto (-106), 3) := by decide +kernel
theorem dX12_hitOf_124 : decode cX12_hitOf 124 = .ok (.iload_n 3, 1) := by decide +kernel
theorem dX12_hitOf_125 : decode cX12_hitOf 125 = .ok (.ireturn, 1) := by decide +kernel
theorem dX12_aloneOf_0 : decode cX12_aloneOf 0 = .ok (.bipush 7, 2) := by decide +kernel
theorem dX12_aloneOf_2 : decode cX12_aloneOf 2 = .ok (.iload_n 1, 1) := by decide +kernel
theorem dX12_aloneOf_3 : decode cX12_aloneOf 3 = .ok (.imul, 1) := by decide +kernel
theorem dX12_aloneOf_4 : decode cX12_aloneOf 4 = .ok (.istore_n 2, 1) := by decide +kernel
theorem dX12_aloneOf_5 : decode cX12_aloneOf 5 = .ok (.aload_n 0, 1) := by decide +kernel
theorem dX12_aloneOf_6 : decode cX12_aloneOf 6 = .ok (.aload_n 0, 1) := by decide +kernel
theorem dX12_aloneOf_7 : decode cX12_aloneOf 7 = .ok (.aload_n 0, 1) := by decide +kernel
theorem dX12_aloneOf_8 : decode cX12_aloneOf 8 = .ok (.getfield 66, 3) := by decide +kernel
theorem dX12_aloneOf_11 : decode cX12_aloneOf 11 = .ok (.iload_n 2, 1) := by decide +kernel
theorem dX12_aloneOf_12 : decode cX12_aloneOf 12 = .ok (.iaload, 1) := by decide +kernel
theorem dX12_aloneOf_13 : decode cX12_aloneOf 13 = .ok (.invokevirtual 275, 3) := by decide +kernel
theorem dX12_aloneOf_16 : decode cX12_aloneOf 16 = .ok (.aload_n 0, 1) := by decide +kernel
theorem dX12_aloneOf_17 : decode cX12_aloneOf 17 = .ok (.getfield 66, 3) := by decide +kernel
theorem dX12_aloneOf_20 : decode cX12_aloneOf 20 = .ok (.iload_n 2, 1) := by decide +kernel
theorem dX12_aloneOf_21 : decode cX12_aloneOf 21 = .ok (.iconst 1, 1) := by decide +kernel
theorem dX12_aloneOf_22 : decode cX12_aloneOf 22 = .ok (.iadd, 1) := by decide +kernel
theorem dX12_aloneOf_23 : decode cX12_aloneOf 23 = .ok (.iaload, 1) := by decide +kernel
theorem dX12_aloneOf_24 : decode cX12_aloneOf 24 = .ok (.aload_n 0, 1) := by decide +kernel
theorem dX12_aloneOf_25 : decode cX12_aloneOf 25 = .ok (.getfield 66, 3) := by decide +kernel
theorem dX12_aloneOf_28 : decode cX12_aloneOf 28 = .ok (.iload_n 2, 1) := by decide +kernel
theorem dX12_aloneOf_29 : decode cX12_aloneOf 29 = .ok (.iconst 2, 1) := by decide +kernel
theorem dX12_aloneOf_30 : decode cX12_aloneOf 30 = .ok (.iadd, 1) := by decide +kernel
theorem dX12_aloneOf_31 : decode cX12_aloneOf 31 = .ok (.iaload, 1) := by decide +kernel
theorem dX12_aloneOf_32 : decode cX12_aloneOf 32 = .ok (.aload_n 0, 1) := by decide +kernel
theorem dX12_aloneOf_33 : decode cX12_aloneOf 33 = .ok (.getfield 66, 3) := by decide +kernel
theorem dX12_aloneOf_36 : decode cX12_aloneOf 36 = .ok (.iload_n 2, 1) := by decide +kernel
theorem dX12_aloneOf_37 : decode cX12_aloneOf 37 = .ok (.iconst 3, 1) := by decide +kernel
theorem dX12_aloneOf_38 : decode cX12_aloneOf 38 = .ok (.iadd, 1) := by decide +kernel
theorem dX12_aloneOf_39 : decode cX12_aloneOf 39 = .ok (.iaload, 1) := by decide +kernel
theorem dX12_aloneOf_40 : decode cX12_aloneOf 40 = .ok (.aload_n 0, 1) := by decide +kernel
theorem dX12_aloneOf_41 : decode cX12_aloneOf 41 = .ok (.getfield 66, 3) := by decide +kernel
theorem dX12_aloneOf_44 : decode cX12_aloneOf 44 = .ok (.iload_n 2, 1) := by decide +kernel
theorem dX12_aloneOf_45 : decode cX12_aloneOf 45 = .ok (.iconst 4, 1) := by decide +kernel
theorem dX12_aloneOf_46 : decode cX12_aloneOf 46 = .ok (.iadd, 1) := by decide +kernel
theorem dX12_aloneOf_47 : decode cX12_aloneOf 47 = .ok (.iaload, 1) := by decide +kernel
theorem dX12_aloneOf_48 : decode cX12_aloneOf 48 = .ok (.aload_n 0, 1) := by decide +kernel
theorem dX12_aloneOf_49 : decode cX12_aloneOf 49 = .ok (.getfield 66, 3) := by decide +kernel
theorem dX12_aloneOf_52 : decode cX12_aloneOf 52 = .ok (.iload_n 2, 1) := by decide +kernel
theorem dX12_aloneOf_53 : decode cX12_aloneOf 53 = .ok (.iconst 5, 1) := by decide +kernel
theorem dX12_aloneOf_54 : decode cX12_aloneOf 54 = .ok (.iadd, 1) := by decide +kernel
theorem dX12_aloneOf_55 : decode cX12_aloneOf 55 = .ok (.iaload, 1) := by decide +kernel
theorem dX12_aloneOf_56 : decode cX12_aloneOf 56 = .ok (.invokevirtual 278, 3) := by decide +kernel
theorem dX12_aloneOf_59 : decode cX12_aloneOf 59 = .ok (.sipush 10000, 3) := by decide +kernel
theorem dX12_aloneOf_62 : decode cX12_aloneOf 62 = .ok (.idiv, 1) := by decide +kernel
theorem dX12_aloneOf_63 : decode cX12_aloneOf 63 = .ok (.ireturn, 1) := by decide +kernel
theorem dX12_scoreOf_0 : decode cX12_scoreOf 0 = .ok (.aload_n 0, 1) := by decide +kernel
theorem dX12_scoreOf_1 : decode cX12_scoreOf 1 = .ok (.iload_n 1, 1) := by decide +kernel
theorem dX12_scoreOf_2 : decode cX12_scoreOf 2 = .ok (.invokevirtual 318, 3) := by decide +kernel
theorem dX12_scoreOf_5 : decode cX12_scoreOf 5 = .ok (.ifCond .lt 8, 3) := by decide +kernel
theorem dX12_scoreOf_8 : decode cX12_scoreOf 8 = .ok (.bipush 100, 2) := by decide +kernel
theorem dX12_scoreOf_10 : decode cX12_scoreOf 10 = .ok (.goto 4, 3) := by decide +kernel
theorem dX12_scoreOf_13 : decode cX12_scoreOf 13 = .ok (.iconst 0, 1) := by decide +kernel
theorem dX12_scoreOf_14 : decode cX12_scoreOf 14 = .ok (.istore_n 2, 1) := by decide +kernel
theorem dX12_scoreOf_15 : decode cX12_scoreOf 15 = .ok (.aload_n 0, 1) := by decide +kernel
theorem dX12_scoreOf_16 : decode cX12_scoreOf 16 = .ok (.iload_n 1, 1) := by decide +kernel
theorem dX12_scoreOf_17 : decode cX12_scoreOf 17 = .ok (.invokevirtual 321, 3) := by decide +kernel
theorem dX12_scoreOf_20 : decode cX12_scoreOf 20 = .ok (.iload_n 2, 1) := by decide +kernel
theorem dX12_scoreOf_21 : decode cX12_scoreOf 21 = .ok (.isub, 1) := by decide +kernel
theorem dX12_scoreOf_22 : decode cX12_scoreOf 22 = .ok (.istore_n 3, 1) := by decide +kernel
theorem dX12_scoreOf_23 : decode cX12_scoreOf 23 = .ok (.aload_n 0, 1) := by decide +kernel
theorem dX12_scoreOf_24 : decode cX12_scoreOf 24 = .ok (.getfield 66, 3) := by decide +kernel
theorem dX12_scoreOf_27 : decode cX12_scoreOf 27 = .ok (.bipush 7, 2) := by decide +kernel
theorem dX12_scoreOf_29 : decode cX12_scoreOf 29 = .ok (.iload_n 1, 1) := by decide +kernel
theorem dX12_scoreOf_30 : decode cX12_scoreOf 30 = .ok (.imul, 1) := by decide +kernel
theorem dX12_scoreOf_31 : decode cX12_scoreOf 31 = .ok (.bipush 6, 2) := by decide +kernel
theorem dX12_scoreOf_33 : decode cX12_scoreOf 33 = .ok (.iadd, 1) := by decide +kernel
theorem dX12_scoreOf_34 : decode cX12_scoreOf 34 = .ok (.iaload, 1) := by decide +kernel
theorem dX12_scoreOf_35 : decode cX12_scoreOf 35 = .ok (.iload_n 2, 1) := by decide +kernel
theorem dX12_scoreOf_36 : decode cX12_scoreOf 36 = .ok (.isub, 1) := by decide +kernel
theorem dX12_scoreOf_37 : decode cX12_scoreOf 37 = .ok (.istore 4, 2) := by decide +kernel
theorem dX12_scoreOf_39 : decode cX12_scoreOf 39 = .ok (.iload_n 3, 1) := by decide +kernel
theorem dX12_scoreOf_40 : decode cX12_scoreOf 40 = .ok (.iload_n 3, 1) := by decide +kernel
theorem dX12_scoreOf_41 : decode cX12_scoreOf 41 = .ok (.imul, 1) := by decide +kernel
theorem dX12_scoreOf_42 : decode cX12_scoreOf 42 = .ok (.iload 4, 2) := by decide +kernel
theorem dX12_scoreOf_44 : decode cX12_scoreOf 44 = .ok (.iload 4, 2) := by decide +kernel
theorem dX12_scoreOf_46 : decode cX12_scoreOf 46 = .ok (.imul, 1) := by decide +kernel
theorem dX12_scoreOf_47 : decode cX12_scoreOf 47 = .ok (.isub, 1) := by decide +kernel
theorem dX12_scoreOf_48 : decode cX12_scoreOf 48 = .ok (.ireturn, 1) := by decide +kernel
theorem dX12_score_0 : decode cX12_score 0 = .ok (.iload_n 1, 1) := by decide +kernel
theorem dX12_score_1 : decode cX12_score 1 = .ok (.i2l, 1) := by decide +kernel
theorem dX12_score_2 : decode cX12_score 2 = .ok (.lconst 0, 1) := by decide +kernel
theorem dX12_score_3 : decode cX12_score 3 = .ok (.aload_n 0, 1) := by decide +kernel
theorem dX12_score_4 : decode cX12_score 4 = .ok (.getfield 252, 3) := by decide +kernel
theorem dX12_score_7 : decode cX12_score 7 = .ok (.iconst 1, 1) := by decide +kernel
theorem dX12_score_8 : decode cX12_score 8 = .ok (.isub, 1) := by decide +kernel
theorem dX12_score_9 : decode cX12_score 9 = .ok (.i2l, 1) := by decide +kernel
theorem dX12_score_10 : decode cX12_score 10 = .ok (.invokestatic 107, 3) := by decide +kernel
theorem dX12_score_13 : decode cX12_score 13 = .ok (.ifCond .ne 7, 3) := by decide +kernel
theorem dX12_score_16 : decode cX12_score 16 = .ok (.sipush (-1001), 3) := by decide +kernel
theorem dX12_score_19 : decode cX12_score 19 = .ok (.ireturn, 1) := by decide +kernel
theorem dX12_score_20 : decode cX12_score 20 = .ok (.iload_n 2, 1) := by decide +kernel
theorem dX12_score_21 : decode cX12_score 21 = .ok (.ifCond .ne 11, 3) := by decide +kernel
theorem dX12_score_24 : decode cX12_score 24 = .ok (.aload_n 0, 1) := by decide +kernel
theorem dX12_score_25 : decode cX12_score 25 = .ok (.iload_n 1, 1) := by decide +kernel
theorem dX12_score_26 : decode cX12_score 26 = .ok (.invokevirtual 318, 3) := by decide +kernel
theorem dX12_score_29 : decode cX12_score 29 = .ok (.goto 32, 3) := by decide +kernel
theorem dX12_score_32 : decode cX12_score 32 = .ok (.iload_n 2, 1) := by decide +kernel
theorem dX12_score_33 : decode cX12_score 33 = .ok (.iconst 1, 1) := by decide +kernel
theorem dX12_score_34 : decode cX12_score 34 = .ok (.if_icmp .ne 11, 3) := by decide +kernel
theorem dX12_score_37 : decode cX12_score 37 = .ok (.aload_n 0, 1) := by decide +kernel
theorem dX12_score_38 : decode cX12_score 38 = .ok (.iload_n 1, 1) := by decide +kernel
theorem dX12_score_39 : decode cX12_score 39 = .ok (.invokevirtual 321, 3) := by decide +kernel
theorem dX12_score_42 : decode cX12_score 42 = .ok (.goto 19, 3) := by decide +kernel
theorem dX12_score_45 : decode cX12_score 45 = .ok (.iload_n 2, 1) := by decide +kernel
theorem dX12_score_46 : decode cX12_score 46 = .ok (.iconst 2, 1) := by decide +kernel
theorem dX12_score_47 : decode cX12_score 47 = .ok (.if_icmp .ne 11, 3) := by decide +kernel
theorem dX12_score_50 : decode cX12_score 50 = .ok (.aload_n 0, 1) := by decide +kernel
theorem dX12_score_51 : decode cX12_score 51 = .ok (.iload_n 1, 1) := by decide +kernel
theorem dX12_score_52 : decode cX12_score 52 = .ok (.invokevirtual 324, 3) := by decide +kernel
theorem dX12_score_55 : decode cX12_score 55 = .ok (.goto 6, 3) := by decide +kernel
theorem dX12_score_58 : decode cX12_score 58 = .ok (.sipush (-1002), 3) := by decide +kernel
theorem dX12_score_61 : decode cX12_score 61 = .ok (.ireturn, 1) := by decide +kernel
theorem dX12_scores_0 : decode cX12_scores 0 = .ok (.iconst 0, 1) := by decide +kernel
theorem dX12_scores_1 : decode cX12_scores 1 = .ok (.istore_n 1, 1) := by decide +kernel
theorem dX12_scores_2 : decode cX12_scores 2 = .ok (.iconst 0, 1) := by decide +kernel
theorem dX12_scores_3 : decode cX12_scores 3 = .ok (.istore_n 2, 1) := by decide +kernel
theorem dX12_scores_4 : decode cX12_scores 4 = .ok (.iload_n 2, 1) := by decide +kernel
theorem dX12_scores_5 : decode cX12_scores 5 = .ok (.aload_n 0, 1) := by decide +kernel
theorem dX12_scores_6 : decode cX12_scores 6 = .ok (.getfield 252, 3) := by decide +kernel
theorem dX12_scores_9 : decode cX12_scores 9 = .ok (.if_icmp .ge 17, 3) := by decide +kernel
theorem dX12_scores_12 : decode cX12_scores 12 = .ok (.iload_n 1, 1) := by decide +kernel
theorem dX12_scores_13 : decode cX12_scores 13 = .ok (.aload_n 0, 1) := by decide +kernel
theorem dX12_scores_14 : decode cX12_scores 14 = .ok (.iload_n 2, 1) := by decide +kernel
theorem dX12_scores_15 : decode cX12_scores 15 = .ok (.invokevirtual 324, 3) := by decide +kernel
theorem dX12_scores_18 : decode cX12_scores 18 = .ok (.iadd, 1) := by decide +kernel
theorem dX12_scores_19 : decode cX12_scores 19 = .ok (.istore_n 1, 1) := by decide +kernel
theorem dX12_scores_20 : decode cX12_scores 20 = .ok (.iinc 2 1, 3) := by decide +kernel
theorem dX12_scores_23 : decode cX12_scores 23 = .ok (.goto (-19), 3) := by decide +kernel
theorem dX12_scores_26 : decode cX12_scores 26 = .ok (.iload_n 1, 1) := by decide +kernel
theorem dX12_scores_27 : decode cX12_scores 27 = .ok (.ireturn, 1) := by decide +kernel
theorem dX12_findDays_0 : decode cX12_findDays 0 = .ok (.iload_n 3, 1) := by decide +kernel
theorem dX12_findDays_1 : decode cX12_findDays 1 = .ok (.istore 5, 2) := by decide +kernel
theorem dX12_findDays_3 : decode cX12_findDays 3 = .ok (.iload 5, 2) := by decide +kernel
theorem dX12_findDays_5 : decode cX12_findDays 5 = .ok (.iload 4, 2) := by decide +kernel
theorem dX12_findDays_7 : decode cX12_findDays 7 = .ok (.if_icmp .gt 43, 3) := by decide +kernel
theorem dX12_findDays_10 : decode cX12_findDays 10 = .ok (.aload_n 0, 1) := by decide +kernel
theorem dX12_findDays_11 : decode cX12_findDays 11 = .ok (.getfield 69, 3) := by decide +kernel
theorem dX12_findDays_14 : decode cX12_findDays 14 = .ok (.iload 5, 2) := by decide +kernel
theorem dX12_findDays_16 : decode cX12_findDays 16 = .ok (.aload_n 0, 1) := by decide +kernel
theorem dX12_findDays_17 : decode cX12_findDays 17 = .ok (.aload_n 0, 1) := by decide +kernel
theorem dX12_findDays_18 : decode cX12_findDays 18 = .ok (.iload 5, 2) := by decide +kernel
theorem dX12_findDays_20 : decode cX12_findDays 20 = .ok (.iconst 1, 1) := by decide +kernel
theorem dX12_findDays_21 : decode cX12_findDays 21 = .ok (.isub, 1) := by decide +kernel
theorem dX12_findDays_22 : decode cX12_findDays 22 = .ok (.invokevirtual 275, 3) := by decide +kernel
theorem dX12_findDays_25 : decode cX12_findDays 25 = .ok (.iload_n 1, 1) := by decide +kernel
theorem dX12_findDays_26 : decode cX12_findDays 26 = .ok (.iconst 1, 1) := by decide +kernel
theorem dX12_findDays_27 : decode cX12_findDays 27 = .ok (.iload_n 2, 1) := by decide +kernel
theorem dX12_findDays_28 : decode cX12_findDays 28 = .ok (.iload 5, 2) := by decide +kernel
theorem dX12_findDays_30 : decode cX12_findDays 30 = .ok (.iload 5, 2) := by decide +kernel
theorem dX12_findDays_32 : decode cX12_findDays 32 = .ok (.invokevirtual 278, 3) := by decide +kernel
theorem dX12_findDays_35 : decode cX12_findDays 35 = .ok (.iastore, 1) := by decide +kernel
theorem dX12_findDays_36 : decode cX12_findDays 36 = .ok (.aload_n 0, 1) := by decide +kernel
theorem dX12_findDays_37 : decode cX12_findDays 37 = .ok (.getfield 72, 3) := by decide +kernel
theorem dX12_findDays_40 : decode cX12_findDays 40 = .ok (.iload 5, 2) := by decide +kernel
theorem dX12_findDays_42 : decode cX12_findDays 42 = .ok (.iconst 0, 1) := by decide +kernel
theorem dX12_findDays_43 : decode cX12_findDays 43 = .ok (.iastore, 1) := by decide +kernel
theorem dX12_findDays_44 : decode cX12_findDays 44 = .ok (.iinc 5 1, 3) := by decide +kernel
theorem dX12_findDays_47 : decode cX12_findDays 47 = .ok (.goto (-44), 3) := by decide +kernel
theorem dX12_findDays_50 : decode cX12_findDays 50 = .ok (.iconst 0, 1) := by decide +kernel
theorem dX12_findDays_51 : decode cX12_findDays 51 = .ok (.istore 5, 2) := by decide +kernel
theorem dX12_findDays_53 : decode cX12_findDays 53 = .ok (.iload 5, 2) := by decide +kernel
theorem dX12_findDays_55 : decode cX12_findDays 55 = .ok (.aload_n 0, 1) := by decide +kernel
theorem dX12_findDays_56 : decode cX12_findDays 56 = .ok (.getfield 210, 3) := by decide +kernel
theorem dX12_findDays_59 : decode cX12_findDays 59 = .ok (.if_icmp .ge 86, 3) := by decide +kernel
theorem dX12_findDays_62 : decode cX12_findDays 62 = .ok (.aload_n 0, 1) := by decide +kernel
theorem dX12_findDays_63 : decode cX12_findDays 63 = .ok (.getfield 23, 3) := by decide +kernel
theorem dX12_findDays_66 : decode cX12_findDays 66 = .ok (.iload 5, 2) := by decide +kernel
theorem dX12_findDays_68 : decode cX12_findDays 68 = .ok (.iaload, 1) := by decide +kernel
theorem dX12_findDays_69 : decode cX12_findDays 69 = .ok (.i2l, 1) := by decide +kernel
theorem dX12_findDays_70 : decode cX12_findDays 70 = .ok (.iload_n 3, 1) := by decide +kernel
theorem dX12_findDays_71 : decode cX12_findDays 71 = .ok (.i2l, 1) := by decide +kernel
theorem dX12_findDays_72 : decode cX12_findDays 72 = .ok (.iload 4, 2) := by decide +kernel
theorem dX12_findDays_74 : decode cX12_findDays 74 = .ok (.i2l, 1) := by decide +kernel
theorem dX12_findDays_75 : decode cX12_findDays 75 = .ok (.invokestatic 107, 3) := by decide +kernel
theorem dX12_findDays_78 : decode cX12_findDays 78 = .ok (.ifCond .eq 33, 3) := by decide +kernel
theorem dX12_findDays_81 : decode cX12_findDays 81 = .ok (.aload_n 0, 1) := by decide +kernel
theorem dX12_findDays_82 : decode cX12_findDays 82 = .ok (.getfield 29, 3) := by decide +kernel
theorem dX12_findDays_85 : decode cX12_findDays 85 = .ok (.iload 5, 2) := by decide +kernel
theorem dX12_findDays_87 : decode cX12_findDays 87 = .ok (.iaload, 1) := by decide +kernel
theorem dX12_findDays_88 : decode cX12_findDays 88 = .ok (.iload_n 2, 1) := by decide +kernel
theorem dX12_findDays_89 : decode cX12_findDays 89 = .ok (.if_icmp .lt 22, 3) := by decide +kernel
theorem dX12_findDays_92 : decode cX12_findDays 92 = .ok (.iload_n 1, 1) := by decide +kernel
theorem dX12_findDays_93 : decode cX12_findDays 93 = .ok (.aload_n 0, 1) := by decide +kernel
theorem dX12_findDays_94 : decode cX12_findDays 94 = .ok (.getfield 26, 3) := by decide +kernel
theorem dX12_findDays_97 : decode cX12_findDays 97 = .ok (.iload 5, 2) := by decide +kernel
theorem dX12_findDays_99 : decode cX12_findDays 99 = .ok (.iaload, 1) := by decide +kernel
theorem dX12_findDays_100 : decode cX12_findDays 100 = .ok (.invokestatic 117, 3) := by decide +kernel
theorem dX12_findDays_103 : decode cX12_findDays 103 = .ok (.iconst 1, 1) := by decide +kernel
theorem dX12_findDays_104 : decode cX12_findDays 104 = .ok (.if_icmp .gt 7, 3) := by decide +kernel
theorem dX12_findDays_107 : decode cX12_findDays 107 = .ok (.iconst 1, 1) := by decide +kernel
theorem dX12_findDays_108 : decode cX12_findDays 108 = .ok (.goto 4, 3) := by decide +kernel
theorem dX12_findDays_111 : decode cX12_findDays 111 = .ok (.iconst 0, 1) := by decide +kernel
theorem dX12_findDays_112 : decode cX12_findDays 112 = .ok (.istore 6, 2) := by decide +kernel
theorem dX12_findDays_114 : decode cX12_findDays 114 = .ok (.aload_n 0, 1) := by decide +kernel
theorem dX12_findDays_115 : decode cX12_findDays 115 = .ok (.getfield 72, 3) := by decide +kernel
theorem dX12_findDays_118 : decode cX12_findDays 118 = .ok (.aload_n 0, 1) := by decide +kernel
theorem dX12_findDays_119 : decode cX12_findDays 119 = .ok (.getfield 23, 3) := by decide +kernel
theorem dX12_findDays_122 : decode cX12_findDays 122 = .ok (.iload 5, 2) := by decide +kernel
theorem dX12_findDays_124 : decode cX12_findDays 124 = .ok (.iaload, 1) := by decide +kernel
theorem dX12_findDays_125 : decode cX12_findDays 125 = .ok (.dup2, 1) := by decide +kernel
theorem dX12_findDays_126 : decode cX12_findDays 126 = .ok (.iaload, 1) := by decide +kernel
theorem dX12_findDays_127 : decode cX12_findDays 127 = .ok (.iload 6, 2) := by decide +kernel
theorem dX12_findDays_129 : decode cX12_findDays 129 = .ok (.ifCond .eq 7, 3) := by decide +kernel
theorem dX12_findDays_132 : decode cX12_findDays 132 = .ok (.iconst 1, 1) := by decide +kernel
theorem dX12_findDays_133 : decode cX12_findDays 133 = .ok (.goto 4, 3) := by decide +kernel
theorem dX12_findDays_136 : decode cX12_findDays 136 = .ok (.iconst 0, 1) := by decide +kernel
theorem dX12_findDays_137 : decode cX12_findDays 137 = .ok (.iadd, 1) := by decide +kernel
theorem dX12_findDays_138 : decode cX12_findDays 138 = .ok (.iastore, 1) := by decide +kernel
theorem dX12_findDays_139 : decode cX12_findDays 139 = .ok (.iinc 5 1, 3) := by decide +kernel
theorem dX12_findDays_142 : decode cX12_findDays 142 = .ok (.goto (-89), 3) := by decide +kernel
theorem dX12_findDays_145 : decode cX12_findDays 145 = .ok (.return_, 1) := by decide +kernel
theorem dX12_runTown_0 : decode cX12_runTown 0 = .ok (.iconst 0, 1) := by decide +kernel
theorem dX12_runTown_1 : decode cX12_runTown 1 = .ok (.istore 6, 2) := by decide +kernel
theorem dX12_runTown_3 : decode cX12_runTown 3 = .ok (.iload 6, 2) := by decide +kernel
theorem dX12_runTown_5 : decode cX12_runTown 5 = .ok (.iconst 4, 1) := by decide +kernel
theorem dX12_runTown_6 : decode cX12_runTown 6 = .ok (.if_icmp .ge 17, 3) := by decide +kernel
theorem dX12_runTown_9 : decode cX12_runTown 9 = .ok (.aload_n 0, 1) := by decide +kernel
theorem dX12_runTown_10 : decode cX12_runTown 10 = .ok (.getfield 75, 3) := by decide +kernel
theorem dX12_runTown_13 : decode cX12_runTown 13 = .ok (.iload 6, 2) := by decide +kernel
theorem dX12_runTown_15 : decode cX12_runTown 15 = .ok (.iconst 0, 1) := by decide +kernel
theorem dX12_runTown_16 : decode cX12_runTown 16 = .ok (.iastore, 1) := by decide +kernel
theorem dX12_runTown_17 : decode cX12_runTown 17 = .ok (.iinc 6 1, 3) := by decide +kernel
theorem dX12_runTown_20 : decode cX12_runTown 20 = .ok (.goto (-17), 3) := by decide +kernel
theorem dX12_runTown_23 : decode cX12_runTown 23 = .ok (.iload 4, 2) := by decide +kernel
theorem dX12_runTown_25 : decode cX12_runTown 25 = .ok (.istore 6, 2) := by decide +kernel
theorem dX12_runTown_27 : decode cX12_runTown 27 = .ok (.iload 6, 2) := by decide +kernel
theorem dX12_runTown_29 : decode cX12_runTown 29 = .ok (.iload 5, 2) := by decide +kernel
theorem dX12_runTown_31 : decode cX12_runTown 31 = .ok (.if_icmp .gt 100, 3) := by decide +kernel
theorem dX12_runTown_34 : decode cX12_runTown 34 = .ok (.aload_n 0, 1) := by decide +kernel
theorem dX12_runTown_35 : decode cX12_runTown 35 = .ok (.getfield 69, 3) := by decide +kernel
theorem dX12_runTown_38 : decode cX12_runTown 38 = .ok (.iload 6, 2) := by decide +kernel
theorem dX12_runTown_40 : decode cX12_runTown 40 = .ok (.iaload, 1) := by decide +kernel
theorem dX12_runTown_41 : decode cX12_runTown 41 = .ok (.iload_n 3, 1) := by decide +kernel
theorem dX12_runTown_42 : decode cX12_runTown 42 = .ok (.if_icmp .lt 7, 3) := by decide +kernel
theorem dX12_runTown_45 : decode cX12_runTown 45 = .ok (.iconst 1, 1) := by decide +kernel
theorem dX12_runTown_46 : decode cX12_runTown 46 = .ok (.goto 4, 3) := by decide +kernel
theorem dX12_runTown_49 : decode cX12_runTown 49 = .ok (.iconst 0, 1) := by decide +kernel
theorem dX12_runTown_50 : decode cX12_runTown 50 = .ok (.istore 7, 2) := by decide +kernel
theorem dX12_runTown_52 : decode cX12_runTown 52 = .ok (.aload_n 0, 1) := by decide +kernel
theorem dX12_runTown_53 : decode cX12_runTown 53 = .ok (.getfield 75, 3) := by decide +kernel
theorem dX12_runTown_56 : decode cX12_runTown 56 = .ok (.iconst 0, 1) := by decide +kernel
theorem dX12_runTown_57 : decode cX12_runTown 57 = .ok (.dup2, 1) := by decide +kernel
theorem dX12_runTown_58 : decode cX12_runTown 58 = .ok (.iaload, 1) := by decide +kernel
theorem dX12_runTown_59 : decode cX12_runTown 59 = .ok (.iload 7, 2) := by decide +kernel
theorem dX12_runTown_61 : decode cX12_runTown 61 = .ok (.ifCond .eq 7, 3) := by decide +kernel
theorem dX12_runTown_64 : decode cX12_runTown 64 = .ok (.iconst 1, 1) := by decide +kernel
theorem dX12_runTown_65 : decode cX12_runTown 65 = .ok (.goto 4, 3) := by decide +kernel
theorem dX12_runTown_68 : decode cX12_runTown 68 = .ok (.iconst 0, 1) := by decide +kernel
theorem dX12_runTown_69 : decode cX12_runTown 69 = .ok (.iadd, 1) := by decide +kernel
theorem dX12_runTown_70 : decode cX12_runTown 70 = .ok (.iastore, 1) := by decide +kernel
theorem dX12_runTown_71 : decode cX12_runTown 71 = .ok (.aload_n 0, 1) := by decide +kernel
theorem dX12_runTown_72 : decode cX12_runTown 72 = .ok (.getfield 75, 3) := by decide +kernel
theorem dX12_runTown_75 : decode cX12_runTown 75 = .ok (.iconst 1, 1) := by decide +kernel
theorem dX12_runTown_76 : decode cX12_runTown 76 = .ok (.dup2, 1) := by decide +kernel
theorem dX12_runTown_77 : decode cX12_runTown 77 = .ok (.iaload, 1) := by decide +kernel
theorem dX12_runTown_78 : decode cX12_runTown 78 = .ok (.iload 7, 2) := by decide +kernel
theorem dX12_runTown_80 : decode cX12_runTown 80 = .ok (.ifCond .eq 17, 3) := by decide +kernel
theorem dX12_runTown_83 : decode cX12_runTown 83 = .ok (.aload_n 0, 1) := by decide +kernel
theorem dX12_runTown_84 : decode cX12_runTown 84 = .ok (.getfield 72, 3) := by decide +kernel
theorem dX12_runTown_87 : decode cX12_runTown 87 = .ok (.iload 6, 2) := by decide +kernel
theorem dX12_runTown_89 : decode cX12_runTown 89 = .ok (.iaload, 1) := by decide +kernel
theorem dX12_runTown_90 : decode cX12_runTown 90 = .ok (.ifCond .ne 7, 3) := by decide +kernel
theorem dX12_runTown_93 : decode cX12_runTown 93 = .ok (.iconst 1, 1) := by decide +kernel
theorem dX12_runTown_94 : decode cX12_runTown 94 = .ok (.goto 4, 3) := by decide +kernel
theorem dX12_runTown_97 : decode cX12_runTown 97 = .ok (.iconst 0, 1) := by decide +kernel
theorem dX12_runTown_98 : decode cX12_runTown 98 = .ok (.iadd, 1) := by decide +kernel
theorem dX12_runTown_99 : decode cX12_runTown 99 = .ok (.iastore, 1) := by decide +kernel
theorem dX12_runTown_100 : decode cX12_runTown 100 = .ok (.aload_n 0, 1) := by decide +kernel
theorem dX12_runTown_101 : decode cX12_runTown 101 = .ok (.getfield 75, 3) := by decide +kernel
theorem dX12_runTown_104 : decode cX12_runTown 104 = .ok (.iconst 2, 1) := by decide +kernel
theorem dX12_runTown_105 : decode cX12_runTown 105 = .ok (.dup2, 1) := by decide +kernel
theorem dX12_runTown_106 : decode cX12_runTown 106 = .ok (.iaload, 1) := by decide +kernel
theorem dX12_runTown_107 : decode cX12_runTown 107 = .ok (.iload 7, 2) := by decide +kernel
theorem dX12_runTown_109 : decode cX12_runTown 109 = .ok (.ifCond .eq 7, 3) := by decide +kernel
theorem dX12_runTown_112 : decode cX12_runTown 112 = .ok (.iconst 0, 1) := by decide +kernel
theorem dX12_runTown_113 : decode cX12_runTown 113 = .ok (.goto 10, 3) := by decide +kernel
theorem dX12_runTown_116 : decode cX12_runTown 116 = .ok (.aload_n 0, 1) := by decide +kernel
theorem dX12_runTown_117 : decode cX12_runTown 117 = .ok (.getfield 72, 3) := by decide +kernel
theorem dX12_runTown_120 : decode cX12_runTown 120 = .ok (.iload 6, 2) := by decide +kernel
theorem dX12_runTown_122 : decode cX12_runTown 122 = .ok (.iaload, 1) := by decide +kernel
theorem dX12_runTown_123 : decode cX12_runTown 123 = .ok (.iadd, 1) := by decide +kernel
theorem dX12_runTown_124 : decode cX12_runTown 124 = .ok (.iastore, 1) := by decide +kernel
theorem dX12_runTown_125 : decode cX12_runTown 125 = .ok (.iinc 6 1, 3) := by decide +kernel
theorem dX12_runTown_128 : decode cX12_runTown 128 = .ok (.goto (-101), 3) := by decide +kernel
theorem dX12_runTown_131 : decode cX12_runTown 131 = .ok (.aload_n 0, 1) := by decide +kernel
theorem dX12_runTown_132 : decode cX12_runTown 132 = .ok (.getfield 75, 3) := by decide +kernel
theorem dX12_runTown_135 : decode cX12_runTown 135 = .ok (.iconst 3, 1) := by decide +kernel
theorem dX12_runTown_136 : decode cX12_runTown 136 = .ok (.iload_n 1, 1) := by decide +kernel
theorem dX12_runTown_137 : decode cX12_runTown 137 = .ok (.aload_n 0, 1) := by decide +kernel
theorem dX12_runTown_138 : decode cX12_runTown 138 = .ok (.getfield 75, 3) := by decide +kernel
theorem dX12_runTown_141 : decode cX12_runTown 141 = .ok (.iconst 0, 1) := by decide +kernel
theorem dX12_runTown_142 : decode cX12_runTown 142 = .ok (.iaload, 1) := by decide +kernel
theorem dX12_runTown_143 : decode cX12_runTown 143 = .ok (.imul, 1) := by decide +kernel
theorem dX12_runTown_144 : decode cX12_runTown 144 = .ok (.iload_n 2, 1) := by decide +kernel
theorem dX12_runTown_145 : decode cX12_runTown 145 = .ok (.aload_n 0, 1) := by decide +kernel
theorem dX12_runTown_146 : decode cX12_runTown 146 = .ok (.getfield 75, 3) := by decide +kernel
theorem dX12_runTown_149 : decode cX12_runTown 149 = .ok (.iconst 2, 1) := by decide +kernel
theorem dX12_runTown_150 : decode cX12_runTown 150 = .ok (.iaload, 1) := by decide +kernel
theorem dX12_runTown_151 : decode cX12_runTown 151 = .ok (.imul, 1) := by decide +kernel
theorem dX12_runTown_152 : decode cX12_runTown 152 = .ok (.iadd, 1) := by decide +kernel
theorem dX12_runTown_153 : decode cX12_runTown 153 = .ok (.iastore, 1) := by decide +kernel
theorem dX12_runTown_154 : decode cX12_runTown 154 = .ok (.aload_n 0, 1) := by decide +kernel
theorem dX12_runTown_155 : decode cX12_runTown 155 = .ok (.getfield 75, 3) := by decide +kernel
theorem dX12_runTown_158 : decode cX12_runTown 158 = .ok (.iconst 3, 1) := by decide +kernel
theorem dX12_runTown_159 : decode cX12_runTown 159 = .ok (.iaload, 1) := by decide +kernel
theorem dX12_runTown_160 : decode cX12_runTown 160 = .ok (.ireturn, 1) := by decide +kernel
theorem dX12_isTown_0 : decode cX12_isTown 0 = .ok (.iload_n 0, 1) := by decide +kernel
theorem dX12_isTown_1 : decode cX12_isTown 1 = .ok (.invokestatic 204, 3) := by decide +kernel
theorem dX12_isTown_4 : decode cX12_isTown 4 = .ok (.ifCond .eq 57, 3) := by decide +kernel
theorem dX12_isTown_7 : decode cX12_isTown 7 = .ok (.iload_n 1, 1) := by decide +kernel
theorem dX12_isTown_8 : decode cX12_isTown 8 = .ok (.i2l, 1) := by decide +kernel
theorem dX12_isTown_9 : decode cX12_isTown 9 = .ok (.lconst 1, 1) := by decide +kernel
theorem dX12_isTown_10 : decode cX12_isTown 10 = .ok (.ldc2_w 327, 3) := by decide +kernel
theorem dX12_isTown_13 : decode cX12_isTown 13 = .ok (.invokestatic 107, 3) := by decide +kernel
theorem dX12_isTown_16 : decode cX12_isTown 16 = .ok (.ifCond .eq 45, 3) := by decide +kernel
theorem dX12_isTown_19 : decode cX12_isTown 19 = .ok (.iload_n 2, 1) := by decide +kernel
theorem dX12_isTown_20 : decode cX12_isTown 20 = .ok (.i2l, 1) := by decide +kernel
theorem dX12_isTown_21 : decode cX12_isTown 21 = .ok (.lconst 1, 1) := by decide +kernel
theorem dX12_isTown_22 : decode cX12_isTown 22 = .ok (.ldc2_w 329, 3) := by decide +kernel
theorem dX12_isTown_25 : decode cX12_isTown 25 = .ok (.invokestatic 107, 3) := by decide +kernel
theorem dX12_isTown_28 : decode cX12_isTown 28 = .ok (.ifCond .eq 33, 3) := by decide +kernel
theorem dX12_isTown_31 : decode cX12_isTown 31 = .ok (.iload_n 3, 1) := by decide +kernel
theorem dX12_isTown_32 : decode cX12_isTown 32 = .ok (.i2l, 1) := by decide +kernel
theorem dX12_isTown_33 : decode cX12_isTown 33 = .ok (.lconst 1, 1) := by decide +kernel
theorem dX12_isTown_34 : decode cX12_isTown 34 = .ok (.ldc2_w 111, 3) := by decide +kernel
theorem dX12_isTown_37 : decode cX12_isTown 37 = .ok (.invokestatic 107, 3) := by decide +kernel
theorem dX12_isTown_40 : decode cX12_isTown 40 = .ok (.ifCond .eq 21, 3) := by decide +kernel
theorem dX12_isTown_43 : decode cX12_isTown 43 = .ok (.iload 4, 2) := by decide +kernel
theorem dX12_isTown_45 : decode cX12_isTown 45 = .ok (.i2l, 1) := by decide +kernel
theorem dX12_isTown_46 : decode cX12_isTown 46 = .ok (.iload_n 3, 1) := by decide +kernel
theorem dX12_isTown_47 : decode cX12_isTown 47 = .ok (.i2l, 1) := by decide +kernel
theorem dX12_isTown_48 : decode cX12_isTown 48 = .ok (.ldc2_w 111, 3) := by decide +kernel
theorem dX12_isTown_51 : decode cX12_isTown 51 = .ok (.invokestatic 107, 3) := by decide +kernel
theorem dX12_isTown_54 : decode cX12_isTown 54 = .ok (.ifCond .eq 7, 3) := by decide +kernel
theorem dX12_isTown_57 : decode cX12_isTown 57 = .ok (.iconst 1, 1) := by decide +kernel
theorem dX12_isTown_58 : decode cX12_isTown 58 = .ok (.goto 4, 3) := by decide +kernel
theorem dX12_isTown_61 : decode cX12_isTown 61 = .ok (.iconst 0, 1) := by decide +kernel
theorem dX12_isTown_62 : decode cX12_isTown 62 = .ok (.ireturn, 1) := by decide +kernel
theorem dX12_town_0 : decode cX12_town 0 = .ok (.iload_n 1, 1) := by decide +kernel
theorem dX12_town_1 : decode cX12_town 1 = .ok (.invokestatic 121, 3) := by decide +kernel
theorem dX12_town_4 : decode cX12_town 4 = .ok (.ifCond .ne 7, 3) := by decide +kernel
theorem dX12_town_7 : decode cX12_town 7 = .ok (.sipush (-1001), 3) := by decide +kernel
theorem dX12_town_10 : decode cX12_town 10 = .ok (.ireturn, 1) := by decide +kernel
theorem dX12_town_11 : decode cX12_town 11 = .ok (.iload_n 2, 1) := by decide +kernel
theorem dX12_town_12 : decode cX12_town 12 = .ok (.iload_n 3, 1) := by decide +kernel
theorem dX12_town_13 : decode cX12_town 13 = .ok (.iload 4, 2) := by decide +kernel
theorem dX12_town_15 : decode cX12_town 15 = .ok (.iload 6, 2) := by decide +kernel
theorem dX12_town_17 : decode cX12_town 17 = .ok (.iload 7, 2) := by decide +kernel
theorem dX12_town_19 : decode cX12_town 19 = .ok (.invokestatic 331, 3) := by decide +kernel
theorem dX12_town_22 : decode cX12_town 22 = .ok (.ifCond .eq 29, 3) := by decide +kernel
theorem dX12_town_25 : decode cX12_town 25 = .ok (.iload 5, 2) := by decide +kernel
theorem dX12_town_27 : decode cX12_town 27 = .ok (.i2l, 1) := by decide +kernel
theorem dX12_town_28 : decode cX12_town 28 = .ok (.lconst 0, 1) := by decide +kernel
theorem dX12_town_29 : decode cX12_town 29 = .ok (.ldc2_w 334, 3) := by decide +kernel
theorem dX12_town_32 : decode cX12_town 32 = .ok (.invokestatic 107, 3) := by decide +kernel
theorem dX12_town_35 : decode cX12_town 35 = .ok (.ifCond .eq 16, 3) := by decide +kernel
theorem dX12_town_38 : decode cX12_town 38 = .ok (.iload 8, 2) := by decide +kernel
theorem dX12_town_40 : decode cX12_town 40 = .ok (.i2l, 1) := by decide +kernel
theorem dX12_town_41 : decode cX12_town 41 = .ok (.lconst 0, 1) := by decide +kernel
theorem dX12_town_42 : decode cX12_town 42 = .ok (.ldc2_w 336, 3) := by decide +kernel
theorem dX12_town_45 : decode cX12_town 45 = .ok (.invokestatic 107, 3) := by decide +kernel
theorem dX12_town_48 : decode cX12_town 48 = .ok (.ifCond .ne 7, 3) := by decide +kernel
theorem dX12_town_51 : decode cX12_town 51 = .ok (.sipush (-1002), 3) := by decide +kernel
theorem dX12_town_54 : decode cX12_town 54 = .ok (.ireturn, 1) := by decide +kernel
theorem dX12_town_55 : decode cX12_town 55 = .ok (.aload_n 0, 1) := by decide +kernel
theorem dX12_town_56 : decode cX12_town 56 = .ok (.iload_n 1, 1) := by decide +kernel
theorem dX12_town_57 : decode cX12_town 57 = .ok (.iload_n 2, 1) := by decide +kernel
theorem dX12_town_58 : decode cX12_town 58 = .ok (.iload 6, 2) := by decide +kernel
theorem dX12_town_60 : decode cX12_town 60 = .ok (.iload 7, 2) := by decide +kernel
theorem dX12_town_62 : decode cX12_town 62 = .ok (.invokevirtual 338, 3) := by decide +kernel
theorem dX12_town_65 : decode cX12_town 65 = .ok (.aload_n 0, 1) := by decide +kernel
theorem dX12_town_66 : decode cX12_town 66 = .ok (.iload_n 3, 1) := by decide +kernel
theorem dX12_town_67 : decode cX12_town 67 = .ok (.iload 4, 2) := by decide +kernel
theorem dX12_town_69 : decode cX12_town 69 = .ok (.iload 5, 2) := by decide +kernel
theorem dX12_town_71 : decode cX12_town 71 = .ok (.iload 6, 2) := by decide +kernel
theorem dX12_town_73 : decode cX12_town 73 = .ok (.iload 7, 2) := by decide +kernel
theorem dX12_town_75 : decode cX12_town 75 = .ok (.invokevirtual 342, 3) := by decide +kernel
theorem dX12_town_78 : decode cX12_town 78 = .ok (.istore 9, 2) := by decide +kernel
theorem dX12_town_80 : decode cX12_town 80 = .ok (.iload 8, 2) := by decide +kernel
theorem dX12_town_82 : decode cX12_town 82 = .ok (.iconst 3, 1) := by decide +kernel
theorem dX12_town_83 : decode cX12_town 83 = .ok (.if_icmp .ne 8, 3) := by decide +kernel
theorem dX12_town_86 : decode cX12_town 86 = .ok (.iload 9, 2) := by decide +kernel
theorem dX12_town_88 : decode cX12_town 88 = .ok (.goto 10, 3) := by decide +kernel
theorem dX12_town_91 : decode cX12_town 91 = .ok (.aload_n 0, 1) := by decide +kernel
theorem dX12_town_92 : decode cX12_town 92 = .ok (.getfield 75, 3) := by decide +kernel
theorem dX12_town_95 : decode cX12_town 95 = .ok (.iload 8, 2) := by decide +kernel
theorem dX12_town_97 : decode cX12_town 97 = .ok (.iaload, 1) := by decide +kernel
theorem dX12_town_98 : decode cX12_town 98 = .ok (.ireturn, 1) := by decide +kernel
theorem dX12_bestLine_0 : decode cX12_bestLine 0 = .ok (.iload_n 1, 1) := by decide +kernel
theorem dX12_bestLine_1 : decode cX12_bestLine 1 = .ok (.invokestatic 121, 3) := by decide +kernel
theorem dX12_bestLine_4 : decode cX12_bestLine 4 = .ok (.ifCond .ne 7, 3) := by decide +kernel
theorem dX12_bestLine_7 : decode cX12_bestLine 7 = .ok (.sipush (-1001), 3) := by decide +kernel
theorem dX12_bestLine_10 : decode cX12_bestLine 10 = .ok (.ireturn, 1) := by decide +kernel
theorem dX12_bestLine_11 : decode cX12_bestLine 11 = .ok (.iload_n 2, 1) := by decide +kernel
theorem dX12_bestLine_12 : decode cX12_bestLine 12 = .ok (.iload_n 3, 1) := by decide +kernel
theorem dX12_bestLine_13 : decode cX12_bestLine 13 = .ok (.iload 4, 2) := by decide +kernel
theorem dX12_bestLine_15 : decode cX12_bestLine 15 = .ok (.iload 5, 2) := by decide +kernel
theorem dX12_bestLine_17 : decode cX12_bestLine 17 = .ok (.iload 6, 2) := by decide +kernel
theorem dX12_bestLine_19 : decode cX12_bestLine 19 = .ok (.invokestatic 331, 3) := by decide +kernel
theorem dX12_bestLine_22 : decode cX12_bestLine 22 = .ok (.ifCond .ne 7, 3) := by decide +kernel
theorem dX12_bestLine_25 : decode cX12_bestLine 25 = .ok (.sipush (-1002), 3) := by decide +kernel
theorem dX12_bestLine_28 : decode cX12_bestLine 28 = .ok (.ireturn, 1) := by decide +kernel
theorem dX12_bestLine_29 : decode cX12_bestLine 29 = .ok (.aload_n 0, 1) := by decide +kernel
theorem dX12_bestLine_30 : decode cX12_bestLine 30 = .ok (.iload_n 1, 1) := by decide +kernel
theorem dX12_bestLine_31 : decode cX12_bestLine 31 = .ok (.iload_n 2, 1) := by decide +kernel
theorem dX12_bestLine_32 : decode cX12_bestLine 32 = .ok (.iload 5, 2) := by decide +kernel
theorem dX12_bestLine_34 : decode cX12_bestLine 34 = .ok (.iload 6, 2) := by decide +kernel
theorem dX12_bestLine_36 : decode cX12_bestLine 36 = .ok (.invokevirtual 338, 3) := by decide +kernel
theorem dX12_bestLine_39 : decode cX12_bestLine 39 = .ok (.iconst 0, 1) := by decide +kernel
theorem dX12_bestLine_40 : decode cX12_bestLine 40 = .ok (.istore 7, 2) := by decide +kernel
theorem dX12_bestLine_42 : decode cX12_bestLine 42 = .ok (.aload_n 0, 1) := by decide +kernel
theorem dX12_bestLine_43 : decode cX12_bestLine 43 = .ok (.iload_n 3, 1) := by decide +kernel
theorem dX12_bestLine_44 : decode cX12_bestLine 44 = .ok (.iload 4, 2) := by decide +kernel
theorem dX12_bestLine_46 : decode cX12_bestLine 46 = .ok (.iconst 0, 1) := by decide +kernel
theorem dX12_bestLine_47 : decode cX12_bestLine 47 = .ok (.iload 5, 2) := by decide +kernel
theorem dX12_bestLine_49 : decode cX12_bestLine 49 = .ok (.iload 6, 2) := by decide +kernel
theorem dX12_bestLine_51 : decode cX12_bestLine 51 = .ok (.invokevirtual 342, 3) := by decide +kernel
theorem dX12_bestLine_54 : decode cX12_bestLine 54 = .ok (.istore 8, 2) := by decide +kernel
theorem dX12_bestLine_56 : decode cX12_bestLine 56 = .ok (.iconst 1, 1) := by decide +kernel
theorem dX12_bestLine_57 : decode cX12_bestLine 57 = .ok (.istore 9, 2) := by decide +kernel
theorem dX12_bestLine_59 : decode cX12_bestLine 59 = .ok (.iload 9, 2) := by decide +kernel
theorem dX12_bestLine_61 : decode cX12_bestLine 61 = .ok (.bipush 51, 2) := by decide +kernel
theorem dX12_bestLine_63 : decode cX12_bestLine 63 = .ok (.if_icmp .gt 77, 3) := by decide +kernel
theorem dX12_bestLine_66 : decode cX12_bestLine 66 = .ok (.iload 9, 2) := by decide +kernel
theorem dX12_bestLine_68 : decode cX12_bestLine 68 = .ok (.bipush 51, 2) := by decide +kernel
theorem dX12_bestLine_70 : decode cX12_bestLine 70 = .ok (.if_icmp .ne 9, 3) := by decide +kernel
theorem dX12_bestLine_73 : decode cX12_bestLine 73 = .ok (.ldc_w 345, 3) := by decide +kernel
theorem dX12_bestLine_76 : decode cX12_bestLine 76 = .ok (.goto 9, 3) := by decide +kernel
theorem dX12_bestLine_79 : decode cX12_bestLine 79 = .ok (.sipush 1000, 3) := by decide +kernel
theorem dX12_bestLine_82 : decode cX12_bestLine 82 = .ok (.iload 9, 2) := by decide +kernel
theorem dX12_bestLine_84 : decode cX12_bestLine 84 = .ok (.imul, 1) := by decide +kernel
theorem dX12_bestLine_85 : decode cX12_bestLine 85 = .ok (.istore 10, 2) := by decide +kernel
theorem dX12_bestLine_87 : decode cX12_bestLine 87 = .ok (.aload_n 0, 1) := by decide +kernel
theorem dX12_bestLine_88 : decode cX12_bestLine 88 = .ok (.iload_n 3, 1) := by decide +kernel
theorem dX12_bestLine_89 : decode cX12_bestLine 89 = .ok (.iload 4, 2) := by decide +kernel
theorem dX12_bestLine_91 : decode cX12_bestLine 91 = .ok (.iload 10, 2) := by decide +kernel
theorem dX12_bestLine_93 : decode cX12_bestLine 93 = .ok (.iload 5, 2) := by decide +kernel
theorem dX12_bestLine_95 : decode cX12_bestLine 95 = .ok (.iload 6, 2) := by decide +kernel
theorem dX12_bestLine_97 : decode cX12_bestLine 97 = .ok (.invokevirtual 342, 3) := by decide +kernel
theorem dX12_bestLine_100 : decode cX12_bestLine 100 = .ok (.istore 11, 2) := by decide +kernel
theorem dX12_bestLine_102 : decode cX12_bestLine 102 = .ok (.iload 11, 2) := by decide +kernel
theorem dX12_bestLine_104 : decode cX12_bestLine 104 = .ok (.iload 8, 2) := by decide +kernel
theorem dX12_bestLine_106 : decode cX12_bestLine 106 = .ok (.if_icmp .ge 8, 3) := by decide +kernel
theorem dX12_bestLine_109 : decode cX12_bestLine 109 = .ok (.iload 10, 2) := by decide +kernel
theorem dX12_bestLine_111 : decode cX12_bestLine 111 = .ok (.goto 5, 3) := by decide +kernel
theorem dX12_bestLine_114 : decode cX12_bestLine 114 = .ok (.iload 7, 2) := by decide +kernel
theorem dX12_bestLine_116 : decode cX12_bestLine 116 = .ok (.istore 7, 2) := by decide +kernel
theorem dX12_bestLine_118 : decode cX12_bestLine 118 = .ok (.iload 11, 2) := by decide +kernel
theorem dX12_bestLine_120 : decode cX12_bestLine 120 = .ok (.iload 8, 2) := by decide +kernel
theorem dX12_bestLine_122 : decode cX12_bestLine 122 = .ok (.if_icmp .ge 8, 3) := by decide +kernel
theorem dX12_bestLine_125 : decode cX12_bestLine 125 = .ok (.iload 11, 2) := by decide +kernel
theorem dX12_bestLine_127 : decode cX12_bestLine 127 = .ok (.goto 5, 3) := by decide +kernel
theorem dX12_bestLine_130 : decode cX12_bestLine 130 = .ok (.iload 8, 2) := by decide +kernel
theorem dX12_bestLine_132 : decode cX12_bestLine 132 = .ok (.istore 8, 2) := by decide +kernel
theorem dX12_bestLine_134 : decode cX12_bestLine 134 = .ok (.iinc 9 1, 3) := by decide +kernel
theorem dX12_bestLine_137 : decode cX12_bestLine 137 = .ok (.goto (-78), 3) := by decide +kernel
theorem dX12_bestLine_140 : decode cX12_bestLine 140 = .ok (.iload 7, 2) := by decide +kernel
theorem dX12_bestLine_142 : decode cX12_bestLine 142 = .ok (.ireturn, 1) := by decide +kernel
theorem dX12_oneMore_0 : decode cX12_oneMore 0 = .ok (.iload_n 1, 1) := by decide +kernel
theorem dX12_oneMore_1 : decode cX12_oneMore 1 = .ok (.istore_n 3, 1) := by decide +kernel
theorem dX12_oneMore_2 : decode cX12_oneMore 2 = .ok (.iload_n 3, 1) := by decide +kernel
theorem dX12_oneMore_3 : decode cX12_oneMore 3 = .ok (.ifCond .lt 59, 3) := by decide +kernel
theorem dX12_oneMore_6 : decode cX12_oneMore 6 = .ok (.iload_n 3, 1) := by decide +kernel
theorem dX12_oneMore_7 : decode cX12_oneMore 7 = .ok (.ifCond .ne 7, 3) := by decide +kernel
theorem dX12_oneMore_10 : decode cX12_oneMore 10 = .ok (.iconst 0, 1) := by decide +kernel
theorem dX12_oneMore_11 : decode cX12_oneMore 11 = .ok (.goto 11, 3) := by decide +kernel
theorem dX12_oneMore_14 : decode cX12_oneMore 14 = .ok (.aload_n 0, 1) := by decide +kernel
theorem dX12_oneMore_15 : decode cX12_oneMore 15 = .ok (.getfield 78, 3) := by decide +kernel
theorem dX12_oneMore_18 : decode cX12_oneMore 18 = .ok (.iload_n 3, 1) := by decide +kernel
theorem dX12_oneMore_19 : decode cX12_oneMore 19 = .ok (.iconst 1, 1) := by decide +kernel
theorem dX12_oneMore_20 : decode cX12_oneMore 20 = .ok (.isub, 1) := by decide +kernel
theorem dX12_oneMore_21 : decode cX12_oneMore 21 = .ok (.iaload, 1) := by decide +kernel
theorem dX12_oneMore_22 : decode cX12_oneMore 22 = .ok (.istore 4, 2) := by decide +kernel
theorem dX12_oneMore_24 : decode cX12_oneMore 24 = .ok (.aload_n 0, 1) := by decide +kernel
theorem dX12_oneMore_25 : decode cX12_oneMore 25 = .ok (.getfield 78, 3) := by decide +kernel
theorem dX12_oneMore_28 : decode cX12_oneMore 28 = .ok (.iload_n 3, 1) := by decide +kernel
theorem dX12_oneMore_29 : decode cX12_oneMore 29 = .ok (.aload_n 0, 1) := by decide +kernel
theorem dX12_oneMore_30 : decode cX12_oneMore 30 = .ok (.getfield 78, 3) := by decide +kernel
theorem dX12_oneMore_33 : decode cX12_oneMore 33 = .ok (.iload_n 3, 1) := by decide +kernel
theorem dX12_oneMore_34 : decode cX12_oneMore 34 = .ok (.iaload, 1) := by decide +kernel
theorem dX12_oneMore_35 : decode cX12_oneMore 35 = .ok (.i2l, 1) := by decide +kernel
theorem dX12_oneMore_36 : decode cX12_oneMore 36 = .ok (.sipush 1000, 3) := by decide +kernel
theorem dX12_oneMore_39 : decode cX12_oneMore 39 = .ok (.iload_n 2, 1) := by decide +kernel
theorem dX12_oneMore_40 : decode cX12_oneMore 40 = .ok (.isub, 1) := by decide +kernel
theorem dX12_oneMore_41 : decode cX12_oneMore 41 = .ok (.i2l, 1) := by decide +kernel
theorem dX12_oneMore_42 : decode cX12_oneMore 42 = .ok (.lmul, 1) := by decide +kernel
theorem dX12_oneMore_43 : decode cX12_oneMore 43 = .ok (.iload 4, 2) := by decide +kernel
theorem dX12_oneMore_45 : decode cX12_oneMore 45 = .ok (.i2l, 1) := by decide +kernel
theorem dX12_oneMore_46 : decode cX12_oneMore 46 = .ok (.iload_n 2, 1) := by decide +kernel
theorem dX12_oneMore_47 : decode cX12_oneMore 47 = .ok (.i2l, 1) := by decide +kernel
theorem dX12_oneMore_48 : decode cX12_oneMore 48 = .ok (.lmul, 1) := by decide +kernel
theorem dX12_oneMore_49 : decode cX12_oneMore 49 = .ok (.ladd, 1) := by decide +kernel
theorem dX12_oneMore_50 : decode cX12_oneMore 50 = .ok (.ldc2_w 346, 3) := by decide +kernel
theorem dX12_oneMore_53 : decode cX12_oneMore 53 = .ok (.ldiv, 1) := by decide +kernel
theorem dX12_oneMore_54 : decode cX12_oneMore 54 = .ok (.l2i, 1) := by decide +kernel
theorem dX12_oneMore_55 : decode cX12_oneMore 55 = .ok (.iastore, 1) := by decide +kernel
theorem dX12_oneMore_56 : decode cX12_oneMore 56 = .ok (.iinc 3 (-1), 3) := by decide +kernel
theorem dX12_oneMore_59 : decode cX12_oneMore 59 = .ok (.goto (-57), 3) := by decide +kernel
theorem dX12_oneMore_62 : decode cX12_oneMore 62 = .ok (.return_, 1) := by decide +kernel
theorem dX12_beginDist_0 : decode cX12_beginDist 0 = .ok (.iconst 0, 1) := by decide +kernel
theorem dX12_beginDist_1 : decode cX12_beginDist 1 = .ok (.istore_n 1, 1) := by decide +kernel
theorem dX12_beginDist_2 : decode cX12_beginDist 2 = .ok (.iload_n 1, 1) := by decide +kernel
theorem dX12_beginDist_3 : decode cX12_beginDist 3 = .ok (.sipush 200, 3) := by decide +kernel
theorem dX12_beginDist_6 : decode cX12_beginDist 6 = .ok (.if_icmp .gt 25, 3) := by decide +kernel
theorem dX12_beginDist_9 : decode cX12_beginDist 9 = .ok (.aload_n 0, 1) := by decide +kernel
theorem dX12_beginDist_10 : decode cX12_beginDist 10 = .ok (.getfield 78, 3) := by decide +kernel
theorem dX12_beginDist_13 : decode cX12_beginDist 13 = .ok (.iload_n 1, 1) := by decide +kernel
theorem dX12_beginDist_14 : decode cX12_beginDist 14 = .ok (.iload_n 1, 1) := by decide +kernel
theorem dX12_beginDist_15 : decode cX12_beginDist 15 = .ok (.ifCond .ne 8, 3) := by decide +kernel
theorem dX12_beginDist_18 : decode cX12_beginDist 18 = .ok (.ldc 201, 2) := by decide +kernel
theorem dX12_beginDist_20 : decode cX12_beginDist 20 = .ok (.goto 4, 3) := by decide +kernel
theorem dX12_beginDist_23 : decode cX12_beginDist 23 = .ok (.iconst 0, 1) := by decide +kernel
theorem dX12_beginDist_24 : decode cX12_beginDist 24 = .ok (.iastore, 1) := by decide +kernel
theorem dX12_beginDist_25 : decode cX12_beginDist 25 = .ok (.iinc 1 1, 3) := by decide +kernel
theorem dX12_beginDist_28 : decode cX12_beginDist 28 = .ok (.goto (-26), 3) := by decide +kernel
theorem dX12_beginDist_31 : decode cX12_beginDist 31 = .ok (.return_, 1) := by decide +kernel
theorem dX12_fromOn_0 : decode cX12_fromOn 0 = .ok (.iconst 0, 1) := by decide +kernel
theorem dX12_fromOn_1 : decode cX12_fromOn 1 = .ok (.istore_n 3, 1) := by decide +kernel
theorem dX12_fromOn_2 : decode cX12_fromOn 2 = .ok (.iload_n 1, 1) := by decide +kernel
theorem dX12_fromOn_3 : decode cX12_fromOn 3 = .ok (.istore 4, 2) := by decide +kernel
theorem dX12_fromOn_5 : decode cX12_fromOn 5 = .ok (.iload 4, 2) := by decide +kernel
theorem dX12_fromOn_7 : decode cX12_fromOn 7 = .ok (.iload_n 2, 1) := by decide +kernel
theorem dX12_fromOn_8 : decode cX12_fromOn 8 = .ok (.if_icmp .gt 19, 3) := by decide +kernel
theorem dX12_fromOn_11 : decode cX12_fromOn 11 = .ok (.iload_n 3, 1) := by decide +kernel
theorem dX12_fromOn_12 : decode cX12_fromOn 12 = .ok (.aload_n 0, 1) := by decide +kernel
theorem dX12_fromOn_13 : decode cX12_fromOn 13 = .ok (.getfield 78, 3) := by decide +kernel
theorem dX12_fromOn_16 : decode cX12_fromOn 16 = .ok (.iload 4, 2) := by decide +kernel
theorem dX12_fromOn_18 : decode cX12_fromOn 18 = .ok (.iaload, 1) := by decide +kernel
theorem dX12_fromOn_19 : decode cX12_fromOn 19 = .ok (.iadd, 1) := by decide +kernel
theorem dX12_fromOn_20 : decode cX12_fromOn 20 = .ok (.istore_n 3, 1) := by decide +kernel
theorem dX12_fromOn_21 : decode cX12_fromOn 21 = .ok (.iinc 4 1, 3) := by decide +kernel
theorem dX12_fromOn_24 : decode cX12_fromOn 24 = .ok (.goto (-19), 3) := by decide +kernel
theorem dX12_fromOn_27 : decode cX12_fromOn 27 = .ok (.iload_n 3, 1) := by decide +kernel
theorem dX12_fromOn_28 : decode cX12_fromOn 28 = .ok (.ireturn, 1) := by decide +kernel
theorem dX12_luck_0 : decode cX12_luck 0 = .ok (.iload_n 1, 1) := by decide +kernel
theorem dX12_luck_1 : decode cX12_luck 1 = .ok (.i2l, 1) := by decide +kernel
theorem dX12_luck_2 : decode cX12_luck 2 = .ok (.lconst 1, 1) := by decide +kernel
theorem dX12_luck_3 : decode cX12_luck 3 = .ok (.ldc2_w 348, 3) := by decide +kernel
theorem dX12_luck_6 : decode cX12_luck 6 = .ok (.invokestatic 107, 3) := by decide +kernel
theorem dX12_luck_9 : decode cX12_luck 9 = .ok (.ifCond .eq 26, 3) := by decide +kernel
theorem dX12_luck_12 : decode cX12_luck 12 = .ok (.iload_n 2, 1) := by decide +kernel
theorem dX12_luck_13 : decode cX12_luck 13 = .ok (.i2l, 1) := by decide +kernel
theorem dX12_luck_14 : decode cX12_luck 14 = .ok (.lconst 0, 1) := by decide +kernel
theorem dX12_luck_15 : decode cX12_luck 15 = .ok (.ldc2_w 346, 3) := by decide +kernel
theorem dX12_luck_18 : decode cX12_luck 18 = .ok (.invokestatic 107, 3) := by decide +kernel
theorem dX12_luck_21 : decode cX12_luck 21 = .ok (.ifCond .eq 14, 3) := by decide +kernel
theorem dX12_luck_24 : decode cX12_luck 24 = .ok (.iload_n 3, 1) := by decide +kernel
theorem dX12_luck_25 : decode cX12_luck 25 = .ok (.i2l, 1) := by decide +kernel
theorem dX12_luck_26 : decode cX12_luck 26 = .ok (.lconst 0, 1) := by decide +kernel
theorem dX12_luck_27 : decode cX12_luck 27 = .ok (.iload_n 1, 1) := by decide +kernel
theorem dX12_luck_28 : decode cX12_luck 28 = .ok (.i2l, 1) := by decide +kernel
theorem dX12_luck_29 : decode cX12_luck 29 = .ok (.invokestatic 107, 3) := by decide +kernel
theorem dX12_luck_32 : decode cX12_luck 32 = .ok (.ifCond .ne 7, 3) := by decide +kernel
theorem dX12_luck_35 : decode cX12_luck 35 = .ok (.sipush (-1002), 3) := by decide +kernel
theorem dX12_luck_38 : decode cX12_luck 38 = .ok (.ireturn, 1) := by decide +kernel
theorem dX12_luck_39 : decode cX12_luck 39 = .ok (.aload_n 0, 1) := by decide +kernel
theorem dX12_luck_40 : decode cX12_luck 40 = .ok (.invokevirtual 350, 3) := by decide +kernel
theorem dX12_luck_43 : decode cX12_luck 43 = .ok (.iconst 1, 1) := by decide +kernel
theorem dX12_luck_44 : decode cX12_luck 44 = .ok (.istore 4, 2) := by decide +kernel
theorem dX12_luck_46 : decode cX12_luck 46 = .ok (.iload 4, 2) := by decide +kernel
theorem dX12_luck_48 : decode cX12_luck 48 = .ok (.iload_n 1, 1) := by decide +kernel
theorem dX12_luck_49 : decode cX12_luck 49 = .ok (.if_icmp .gt 16, 3) := by decide +kernel
theorem dX12_luck_52 : decode cX12_luck 52 = .ok (.aload_n 0, 1) := by decide +kernel
theorem dX12_luck_53 : decode cX12_luck 53 = .ok (.iload 4, 2) := by decide +kernel
theorem dX12_luck_55 : decode cX12_luck 55 = .ok (.iload_n 2, 1) := by decide +kernel
theorem dX12_luck_56 : decode cX12_luck 56 = .ok (.invokevirtual 353, 3) := by decide +kernel
theorem dX12_luck_59 : decode cX12_luck 59 = .ok (.iinc 4 1, 3) := by decide +kernel
theorem dX12_luck_62 : decode cX12_luck 62 = .ok (.goto (-16), 3) := by decide +kernel
theorem dX12_luck_65 : decode cX12_luck 65 = .ok (.aload_n 0, 1) := by decide +kernel
theorem dX12_luck_66 : decode cX12_luck 66 = .ok (.iload_n 3, 1) := by decide +kernel
theorem dX12_luck_67 : decode cX12_luck 67 = .ok (.iload_n 1, 1) := by decide +kernel
theorem dX12_luck_68 : decode cX12_luck 68 = .ok (.invokevirtual 357, 3) := by decide +kernel
theorem dX12_luck_71 : decode cX12_luck 71 = .ok (.ireturn, 1) := by decide +kernel
theorem dX12_fillChance_0 : decode cX12_fillChance 0 = .ok (.aload_n 0, 1) := by decide +kernel
theorem dX12_fillChance_1 : decode cX12_fillChance 1 = .ok (.invokevirtual 350, 3) := by decide +kernel
theorem dX12_fillChance_4 : decode cX12_fillChance 4 = .ok (.iconst 1, 1) := by decide +kernel
theorem dX12_fillChance_5 : decode cX12_fillChance 5 = .ok (.istore_n 2, 1) := by decide +kernel
theorem dX12_fillChance_6 : decode cX12_fillChance 6 = .ok (.iload_n 2, 1) := by decide +kernel
theorem dX12_fillChance_7 : decode cX12_fillChance 7 = .ok (.bipush 60, 2) := by decide +kernel
theorem dX12_fillChance_9 : decode cX12_fillChance 9 = .ok (.if_icmp .gt 45, 3) := by decide +kernel
theorem dX12_fillChance_12 : decode cX12_fillChance 12 = .ok (.aload_n 0, 1) := by decide +kernel
theorem dX12_fillChance_13 : decode cX12_fillChance 13 = .ok (.iload_n 2, 1) := by decide +kernel
theorem dX12_fillChance_14 : decode cX12_fillChance 14 = .ok (.iload_n 1, 1) := by decide +kernel
theorem dX12_fillChance_15 : decode cX12_fillChance 15 = .ok (.invokevirtual 353, 3) := by decide +kernel
theorem dX12_fillChance_18 : decode cX12_fillChance 18 = .ok (.iconst 0, 1) := by decide +kernel
theorem dX12_fillChance_19 : decode cX12_fillChance 19 = .ok (.istore_n 3, 1) := by decide +kernel
theorem dX12_fillChance_20 : decode cX12_fillChance 20 = .ok (.iload_n 3, 1) := by decide +kernel
theorem dX12_fillChance_21 : decode cX12_fillChance 21 = .ok (.iload_n 2, 1) := by decide +kernel
theorem dX12_fillChance_22 : decode cX12_fillChance 22 = .ok (.if_icmp .gt 26, 3) := by decide +kernel
theorem dX12_fillChance_25 : decode cX12_fillChance 25 = .ok (.aload_n 0, 1) := by decide +kernel
theorem dX12_fillChance_26 : decode cX12_fillChance 26 = .ok (.getfield 81, 3) := by decide +kernel
theorem dX12_fillChance_29 : decode cX12_fillChance 29 = .ok (.bipush 61, 2) := by decide +kernel
theorem dX12_fillChance_31 : decode cX12_fillChance 31 = .ok (.iload_n 2, 1) := by decide +kernel
theorem dX12_fillChance_32 : decode cX12_fillChance 32 = .ok (.imul, 1) := by decide +kernel
theorem dX12_fillChance_33 : decode cX12_fillChance 33 = .ok (.iload_n 3, 1) := by decide +kernel
theorem dX12_fillChance_34 : decode cX12_fillChance 34 = .ok (.iadd, 1) := by decide +kernel
theorem dX12_fillChance_35 : decode cX12_fillChance 35 = .ok (.aload_n 0, 1) := by decide +kernel
theorem dX12_fillChance_36 : decode cX12_fillChance 36 = .ok (.iload_n 3, 1) := by decide +kernel
theorem dX12_fillChance_37 : decode cX12_fillChance 37 = .ok (.iload_n 2, 1) := by decide +kernel
theorem dX12_fillChance_38 : decode cX12_fillChance 38 = .ok (.invokevirtual 357, 3) := by decide +kernel
theorem dX12_fillChance_41 : decode cX12_fillChance 41 = .ok (.iastore, 1) := by decide +kernel
theorem dX12_fillChance_42 : decode cX12_fillChance 42 = .ok (.iinc 3 1, 3) := by decide +kernel
theorem dX12_fillChance_45 : decode cX12_fillChance 45 = .ok (.goto (-25), 3) := by decide +kernel
theorem dX12_fillChance_48 : decode cX12_fillChance 48 = .ok (.iinc 2 1, 3) := by decide +kernel
theorem dX12_fillChance_51 : decode cX12_fillChance 51 = .ok (.goto (-45), 3) := by decide +kernel
theorem dX12_fillChance_54 : decode cX12_fillChance 54 = .ok (.return_, 1) := by decide +kernel
theorem dX12_lake_0 : decode cX12_lake 0 = .ok (.iload_n 1, 1) := by decide +kernel
theorem dX12_lake_1 : decode cX12_lake 1 = .ok (.i2l, 1) := by decide +kernel
theorem dX12_lake_2 : decode cX12_lake 2 = .ok (.lconst 0, 1) := by decide +kernel
theorem dX12_lake_3 : decode cX12_lake 3 = .ok (.ldc2_w 346, 3) := by decide +kernel
theorem dX12_lake_6 : decode cX12_lake 6 = .ok (.invokestatic 107, 3) := by decide +kernel
theorem dX12_lake_9 : decode cX12_lake 9 = .ok (.ifCond .eq 51, 3) := by decide +kernel
theorem dX12_lake_12 : decode cX12_lake 12 = .ok (.iload_n 2, 1) := by decide +kernel
theorem dX12_lake_13 : decode cX12_lake 13 = .ok (.i2l, 1) := by decide +kernel
theorem dX12_lake_14 : decode cX12_lake 14 = .ok (.lconst 0, 1) := by decide +kernel
theorem dX12_lake_15 : decode cX12_lake 15 = .ok (.ldc2_w 346, 3) := by decide +kernel
theorem dX12_lake_18 : decode cX12_lake 18 = .ok (.invokestatic 107, 3) := by decide +kernel
theorem dX12_lake_21 : decode cX12_lake 21 = .ok (.ifCond .eq 39, 3) := by decide +kernel
theorem dX12_lake_24 : decode cX12_lake 24 = .ok (.iload_n 3, 1) := by decide +kernel
theorem dX12_lake_25 : decode cX12_lake 25 = .ok (.i2l, 1) := by decide +kernel
theorem dX12_lake_26 : decode cX12_lake 26 = .ok (.lconst 0, 1) := by decide +kernel
theorem dX12_lake_27 : decode cX12_lake 27 = .ok (.ldc2_w 258, 3) := by decide +kernel
theorem dX12_lake_30 : decode cX12_lake 30 = .ok (.invokestatic 107, 3) := by decide +kernel
theorem dX12_lake_33 : decode cX12_lake 33 = .ok (.ifCond .eq 27, 3) := by decide +kernel
theorem dX12_lake_36 : decode cX12_lake 36 = .ok (.iload 4, 2) := by decide +kernel
theorem dX12_lake_38 : decode cX12_lake 38 = .ok (.i2l, 1) := by decide +kernel
theorem dX12_lake_39 : decode cX12_lake 39 = .ok (.lconst 0, 1) := by decide +kernel
theorem dX12_lake_40 : decode cX12_lake 40 = .ok (.ldc2_w 258, 3) := by decide +kernel
theorem dX12_lake_43 : decode cX12_lake 43 = .ok (.invokestatic 107, 3) := by decide +kernel
theorem dX12_lake_46 : decode cX12_lake 46 = .ok (.ifCond .eq 14, 3) := by decide +kernel
theorem dX12_lake_49 : decode cX12_lake 49 = .ok (.iload 5, 2) := by decide +kernel
theorem dX12_lake_51 : decode cX12_lake 51 = .ok (.i2l, 1) := by decide +kernel
theorem dX12_lake_52 : decode cX12_lake 52 = .ok (.lconst 0, 1) := by decide +kernel
theorem dX12_lake_53 : decode cX12_lake 53 = .ok (.lconst 1, 1) := by decide +kernel
theorem dX12_lake_54 : decode cX12_lake 54 = .ok (.invokestatic 107, 3) := by decide +kernel
theorem dX12_lake_57 : decode cX12_lake 57 = .ok (.ifCond .ne 7, 3) := by decide +kernel
theorem dX12_lake_60 : decode cX12_lake 60 = .ok (.sipush (-1002), 3) := by decide +kernel
theorem dX12_lake_63 : decode cX12_lake 63 = .ok (.ireturn, 1) := by decide +kernel
theorem dX12_lake_64 : decode cX12_lake 64 = .ok (.aload_n 0, 1) := by decide +kernel
theorem dX12_lake_65 : decode cX12_lake 65 = .ok (.iload_n 1, 1) := by decide +kernel
theorem dX12_lake_66 : decode cX12_lake 66 = .ok (.invokevirtual 360, 3) := by decide +kernel
theorem dX12_lake_69 : decode cX12_lake 69 = .ok (.aload_n 0, 1) := by decide +kernel
theorem dX12_lake_70 : decode cX12_lake 70 = .ok (.invokevirtual 350, 3) := by decide +kernel
theorem dX12_lake_73 : decode cX12_lake 73 = .ok (.iconst 1, 1) := by decide +kernel
theorem dX12_lake_74 : decode cX12_lake 74 = .ok (.istore 6, 2) := by decide +kernel
theorem dX12_lake_76 : decode cX12_lake 76 = .ok (.iload 6, 2) := by decide +kernel
theorem dX12_lake_78 : decode cX12_lake 78 = .ok (.bipush 60, 2) := by decide +kernel
theorem dX12_lake_80 : decode cX12_lake 80 = .ok (.if_icmp .gt 75, 3) := by decide +kernel
theorem dX12_lake_83 : decode cX12_lake 83 = .ok (.aload_n 0, 1) := by decide +kernel
theorem dX12_lake_84 : decode cX12_lake 84 = .ok (.iload 6, 2) := by decide +kernel
theorem dX12_lake_86 : decode cX12_lake 86 = .ok (.iload_n 2, 1) := by decide +kernel
theorem dX12_lake_87 : decode cX12_lake 87 = .ok (.invokevirtual 353, 3) := by decide +kernel
theorem dX12_lake_90 : decode cX12_lake 90 = .ok (.iconst 0, 1) := by decide +kernel
theorem dX12_lake_91 : decode cX12_lake 91 = .ok (.istore 7, 2) := by decide +kernel
theorem dX12_lake_93 : decode cX12_lake 93 = .ok (.iload 7, 2) := by decide +kernel
theorem dX12_lake_95 : decode cX12_lake 95 = .ok (.iload 6, 2) := by decide +kernel
theorem dX12_lake_97 : decode cX12_lake 97 = .ok (.if_icmp .gt 52, 3) := by decide +kernel
theorem dX12_lake_100 : decode cX12_lake 100 = .ok (.aload_n 0, 1) := by decide +kernel
theorem dX12_lake_101 : decode cX12_lake 101 = .ok (.getfield 81, 3) := by decide +kernel
theorem dX12_lake_104 : decode cX12_lake 104 = .ok (.bipush 61, 2) := by decide +kernel
theorem dX12_lake_106 : decode cX12_lake 106 = .ok (.iload 6, 2) := by decide +kernel
theorem dX12_lake_108 : decode cX12_lake 108 = .ok (.imul, 1) := by decide +kernel
theorem dX12_lake_109 : decode cX12_lake 109 = .ok (.iload 7, 2) := by decide +kernel
theorem dX12_lake_111 : decode cX12_lake 111 = .ok (.iadd, 1) := by decide +kernel
theorem dX12_lake_112 : decode cX12_lake 112 = .ok (.iaload, 1) := by decide +kernel
theorem dX12_lake_113 : decode cX12_lake 113 = .ok (.iload_n 3, 1) := by decide +kernel
theorem dX12_lake_114 : decode cX12_lake 114 = .ok (.if_icmp .gt 29, 3) := by decide +kernel
theorem dX12_lake_117 : decode cX12_lake 117 = .ok (.aload_n 0, 1) := by decide +kernel
theorem dX12_lake_118 : decode cX12_lake 118 = .ok (.iload 7, 2) := by decide +kernel
theorem dX12_lake_120 : decode cX12_lake 120 = .ok (.iload 6, 2) := by decide +kernel
theorem dX12_lake_122 : decode cX12_lake 122 = .ok (.invokevirtual 357, 3) := by decide +kernel
theorem dX12_lake_125 : decode cX12_lake 125 = .ok (.iload 4, 2) := by decide +kernel
theorem dX12_lake_127 : decode cX12_lake 127 = .ok (.if_icmp .lt 16, 3) := by decide +kernel
theorem dX12_lake_130 : decode cX12_lake 130 = .ok (.iload 5, 2) := by decide +kernel
theorem dX12_lake_132 : decode cX12_lake 132 = .ok (.ifCond .ne 8, 3) := by decide +kernel
theorem dX12_lake_135 : decode cX12_lake 135 = .ok (.iload 6, 2) := by decide +kernel
theorem dX12_lake_137 : decode cX12_lake 137 = .ok (.goto 5, 3) := by decide +kernel
theorem dX12_lake_140 : decode cX12_lake 140 = .ok (.iload 7, 2) := by decide +kernel
theorem dX12_lake_142 : decode cX12_lake 142 = .ok (.ireturn, 1) := by decide +kernel
theorem dX12_lake_143 : decode cX12_lake 143 = .ok (.iinc 7 1, 3) := by decide +kernel
theorem dX12_lake_146 : decode cX12_lake 146 = .ok (.goto (-53), 3) := by decide +kernel
theorem dX12_lake_149 : decode cX12_lake 149 = .ok (.iinc 6 1, 3) := by decide +kernel
theorem dX12_lake_152 : decode cX12_lake 152 = .ok (.goto (-76), 3) := by decide +kernel
theorem dX12_lake_155 : decode cX12_lake 155 = .ok (.iconst (-1), 1) := by decide +kernel
theorem dX12_lake_156 : decode cX12_lake 156 = .ok (.ireturn, 1) := by decide +kernel
theorem dX12_say_0 : decode cX12_say 0 = .ok (.iload_n 2, 1) := by decide +kernel
theorem dX12_say_1 : decode cX12_say 1 = .ok (.invokestatic 121, 3) := by decide +kernel
theorem dX12_say_4 : decode cX12_say 4 = .ok (.ifCond .ne 7, 3) := by decide +kernel
theorem dX12_say_7 : decode cX12_say 7 = .ok (.sipush (-1001), 3) := by decide +kernel
theorem dX12_say_10 : decode cX12_say 10 = .ok (.ireturn, 1) := by decide +kernel
theorem dX12_say_11 : decode cX12_say 11 = .ok (.iload_n 1, 1) := by decide +kernel
theorem dX12_say_12 : decode cX12_say 12 = .ok (.i2l, 1) := by decide +kernel
theorem dX12_say_13 : decode cX12_say 13 = .ok (.lconst 0, 1) := by decide +kernel
theorem dX12_say_14 : decode cX12_say 14 = .ok (.ldc2_w 363, 3) := by decide +kernel
theorem dX12_say_17 : decode cX12_say 17 = .ok (.invokestatic 107, 3) := by decide +kernel
theorem dX12_say_20 : decode cX12_say 20 = .ok (.ifCond .eq 15, 3) := by decide +kernel
theorem dX12_say_23 : decode cX12_say 23 = .ok (.iload_n 3, 1) := by decide +kernel
theorem dX12_say_24 : decode cX12_say 24 = .ok (.i2l, 1) := by decide +kernel
theorem dX12_say_25 : decode cX12_say 25 = .ok (.lconst 0, 1) := by decide +kernel
theorem dX12_say_26 : decode cX12_say 26 = .ok (.ldc2_w 302, 3) := by decide +kernel
theorem dX12_say_29 : decode cX12_say 29 = .ok (.invokestatic 107, 3) := by decide +kernel
theorem dX12_say_32 : decode cX12_say 32 = .ok (.ifCond .ne 7, 3) := by decide +kernel
theorem dX12_say_35 : decode cX12_say 35 = .ok (.sipush (-1002), 3) := by decide +kernel
theorem dX12_say_38 : decode cX12_say 38 = .ok (.ireturn, 1) := by decide +kernel
theorem dX12_say_39 : decode cX12_say 39 = .ok (.aload_n 0, 1) := by decide +kernel
theorem dX12_say_40 : decode cX12_say 40 = .ok (.getfield 255, 3) := by decide +kernel
theorem dX12_say_43 : decode cX12_say 43 = .ok (.bipush 12, 2) := by decide +kernel
theorem dX12_say_45 : decode cX12_say 45 = .ok (.if_icmp .ne 7, 3) := by decide +kernel
theorem dX12_say_48 : decode cX12_say 48 = .ok (.sipush (-1004), 3) := by decide +kernel
theorem dX12_say_51 : decode cX12_say 51 = .ok (.ireturn, 1) := by decide +kernel
theorem dX12_say_52 : decode cX12_say 52 = .ok (.aload_n 0, 1) := by decide +kernel
theorem dX12_say_53 : decode cX12_say 53 = .ok (.getfield 84, 3) := by decide +kernel
theorem dX12_say_56 : decode cX12_say 56 = .ok (.aload_n 0, 1) := by decide +kernel
theorem dX12_say_57 : decode cX12_say 57 = .ok (.getfield 255, 3) := by decide +kernel
theorem dX12_say_60 : decode cX12_say 60 = .ok (.iload_n 1, 1) := by decide +kernel
theorem dX12_say_61 : decode cX12_say 61 = .ok (.iastore, 1) := by decide +kernel
theorem dX12_say_62 : decode cX12_say 62 = .ok (.aload_n 0, 1) := by decide +kernel
theorem dX12_say_63 : decode cX12_say 63 = .ok (.getfield 87, 3) := by decide +kernel
theorem dX12_say_66 : decode cX12_say 66 = .ok (.aload_n 0, 1) := by decide +kernel
theorem dX12_say_67 : decode cX12_say 67 = .ok (.getfield 255, 3) := by decide +kernel
theorem dX12_say_70 : decode cX12_say 70 = .ok (.iload_n 2, 1) := by decide +kernel
theorem dX12_say_71 : decode cX12_say 71 = .ok (.iastore, 1) := by decide +kernel
theorem dX12_say_72 : decode cX12_say 72 = .ok (.aload_n 0, 1) := by decide +kernel
theorem dX12_say_73 : decode cX12_say 73 = .ok (.getfield 90, 3) := by decide +kernel
theorem dX12_say_76 : decode cX12_say 76 = .ok (.aload_n 0, 1) := by decide +kernel
theorem dX12_say_77 : decode cX12_say 77 = .ok (.getfield 255, 3) := by decide +kernel
theorem dX12_say_80 : decode cX12_say 80 = .ok (.iload_n 3, 1) := by decide +kernel
theorem dX12_say_81 : decode cX12_say 81 = .ok (.iastore, 1) := by decide +kernel
theorem dX12_say_82 : decode cX12_say 82 = .ok (.aload_n 0, 1) := by decide +kernel
theorem dX12_say_83 : decode cX12_say 83 = .ok (.dup, 1) := by decide +kernel
theorem dX12_say_84 : decode cX12_say 84 = .ok (.getfield 255, 3) := by decide +kernel
theorem dX12_say_87 : decode cX12_say 87 = .ok (.iconst 1, 1) := by decide +kernel
theorem dX12_say_88 : decode cX12_say 88 = .ok (.iadd, 1) := by decide +kernel
theorem dX12_say_89 : decode cX12_say 89 = .ok (.putfield 255, 3) := by decide +kernel
theorem dX12_say_92 : decode cX12_say 92 = .ok (.aload_n 0, 1) := by decide +kernel
theorem dX12_say_93 : decode cX12_say 93 = .ok (.getfield 255, 3) := by decide +kernel
theorem dX12_say_96 : decode cX12_say 96 = .ok (.iconst 1, 1) := by decide +kernel
theorem dX12_say_97 : decode cX12_say 97 = .ok (.isub, 1) := by decide +kernel
theorem dX12_say_98 : decode cX12_say 98 = .ok (.ireturn, 1) := by decide +kernel
theorem dX12_judged_0 : decode cX12_judged 0 = .ok (.iload_n 1, 1) := by decide +kernel
theorem dX12_judged_1 : decode cX12_judged 1 = .ok (.i2l, 1) := by decide +kernel
theorem dX12_judged_2 : decode cX12_judged 2 = .ok (.lconst 0, 1) := by decide +kernel
theorem dX12_judged_3 : decode cX12_judged 3 = .ok (.aload_n 0, 1) := by decide +kernel
theorem dX12_judged_4 : decode cX12_judged 4 = .ok (.getfield 255, 3) := by decide +kernel
theorem dX12_judged_7 : decode cX12_judged 7 = .ok (.iconst 1, 1) := by decide +kernel
theorem dX12_judged_8 : decode cX12_judged 8 = .ok (.isub, 1) := by decide +kernel
theorem dX12_judged_9 : decode cX12_judged 9 = .ok (.i2l, 1) := by decide +kernel
theorem dX12_judged_10 : decode cX12_judged 10 = .ok (.invokestatic 107, 3) := by decide +kernel
theorem dX12_judged_13 : decode cX12_judged 13 = .ok (.ifCond .ne 7, 3) := by decide +kernel
theorem dX12_judged_16 : decode cX12_judged 16 = .ok (.sipush (-1001), 3) := by decide +kernel
theorem dX12_judged_19 : decode cX12_judged 19 = .ok (.ireturn, 1) := by decide +kernel
theorem dX12_judged_20 : decode cX12_judged 20 = .ok (.aload_n 0, 1) := by decide +kernel
theorem dX12_judged_21 : decode cX12_judged 21 = .ok (.getfield 84, 3) := by decide +kernel
theorem dX12_judged_24 : decode cX12_judged 24 = .ok (.iload_n 1, 1) := by decide +kernel
theorem dX12_judged_25 : decode cX12_judged 25 = .ok (.iaload, 1) := by decide +kernel
theorem dX12_judged_26 : decode cX12_judged 26 = .ok (.istore 5, 2) := by decide +kernel
theorem dX12_judged_28 : decode cX12_judged 28 = .ok (.iload_n 2, 1) := by decide +kernel
theorem dX12_judged_29 : decode cX12_judged 29 = .ok (.invokestatic 204, 3) := by decide +kernel
theorem dX12_judged_32 : decode cX12_judged 32 = .ok (.ifCond .eq 36, 3) := by decide +kernel
theorem dX12_judged_35 : decode cX12_judged 35 = .ok (.iload_n 3, 1) := by decide +kernel
theorem dX12_judged_36 : decode cX12_judged 36 = .ok (.i2l, 1) := by decide +kernel
theorem dX12_judged_37 : decode cX12_judged 37 = .ok (.lconst 1, 1) := by decide +kernel
theorem dX12_judged_38 : decode cX12_judged 38 = .ok (.ldc2_w 307, 3) := by decide +kernel
theorem dX12_judged_41 : decode cX12_judged 41 = .ok (.invokestatic 107, 3) := by decide +kernel
theorem dX12_judged_44 : decode cX12_judged 44 = .ok (.ifCond .eq 24, 3) := by decide +kernel
theorem dX12_judged_47 : decode cX12_judged 47 = .ok (.iload 5, 2) := by decide +kernel
theorem dX12_judged_49 : decode cX12_judged 49 = .ok (.iload_n 3, 1) := by decide +kernel
theorem dX12_judged_50 : decode cX12_judged 50 = .ok (.iadd, 1) := by decide +kernel
theorem dX12_judged_51 : decode cX12_judged 51 = .ok (.sipush 399, 3) := by decide +kernel
theorem dX12_judged_54 : decode cX12_judged 54 = .ok (.if_icmp .gt 14, 3) := by decide +kernel
theorem dX12_judged_57 : decode cX12_judged 57 = .ok (.iload 4, 2) := by decide +kernel
theorem dX12_judged_59 : decode cX12_judged 59 = .ok (.i2l, 1) := by decide +kernel
theorem dX12_judged_60 : decode cX12_judged 60 = .ok (.lconst 0, 1) := by decide +kernel
theorem dX12_judged_61 : decode cX12_judged 61 = .ok (.lconst 1, 1) := by decide +kernel
theorem dX12_judged_62 : decode cX12_judged 62 = .ok (.invokestatic 107, 3) := by decide +kernel
theorem dX12_judged_65 : decode cX12_judged 65 = .ok (.ifCond .ne 7, 3) := by decide +kernel
theorem dX12_judged_68 : decode cX12_judged 68 = .ok (.sipush (-1002), 3) := by decide +kernel
theorem dX12_judged_71 : decode cX12_judged 71 = .ok (.ireturn, 1) := by decide +kernel
theorem dX12_judged_72 : decode cX12_judged 72 = .ok (.aload_n 0, 1) := by decide +kernel
theorem dX12_judged_73 : decode cX12_judged 73 = .ok (.aload_n 0, 1) := by decide +kernel
theorem dX12_judged_74 : decode cX12_judged 74 = .ok (.iload 5, 2) := by decide +kernel
theorem dX12_judged_76 : decode cX12_judged 76 = .ok (.invokevirtual 275, 3) := by decide +kernel
theorem dX12_judged_79 : decode cX12_judged 79 = .ok (.aload_n 0, 1) := by decide +kernel
theorem dX12_judged_80 : decode cX12_judged 80 = .ok (.getfield 87, 3) := by decide +kernel
theorem dX12_judged_83 : decode cX12_judged 83 = .ok (.iload_n 1, 1) := by decide +kernel
theorem dX12_judged_84 : decode cX12_judged 84 = .ok (.iaload, 1) := by decide +kernel
theorem dX12_judged_85 : decode cX12_judged 85 = .ok (.iconst 1, 1) := by decide +kernel
theorem dX12_judged_86 : decode cX12_judged 86 = .ok (.iload_n 2, 1) := by decide +kernel
theorem dX12_judged_87 : decode cX12_judged 87 = .ok (.iload 5, 2) := by decide +kernel
theorem dX12_judged_89 : decode cX12_judged 89 = .ok (.iconst 1, 1) := by decide +kernel
theorem dX12_judged_90 : decode cX12_judged 90 = .ok (.iadd, 1) := by decide +kernel
theorem dX12_judged_91 : decode cX12_judged 91 = .ok (.iload 5, 2) := by decide +kernel
theorem dX12_judged_93 : decode cX12_judged 93 = .ok (.iload_n 3, 1) := by decide +kernel
theorem dX12_judged_94 : decode cX12_judged 94 = .ok (.iadd, 1) := by decide +kernel
theorem dX12_judged_95 : decode cX12_judged 95 = .ok (.invokevirtual 278, 3) := by decide +kernel
theorem dX12_judged_98 : decode cX12_judged 98 = .ok (.i2l, 1) := by decide +kernel
theorem dX12_judged_99 : decode cX12_judged 99 = .ok (.lstore 6, 2) := by decide +kernel
theorem dX12_judged_101 : decode cX12_judged 101 = .ok (.aload_n 0, 1) := by decide +kernel
theorem dX12_judged_102 : decode cX12_judged 102 = .ok (.iconst 0, 1) := by decide +kernel
theorem dX12_judged_103 : decode cX12_judged 103 = .ok (.aload_n 0, 1) := by decide +kernel
theorem dX12_judged_104 : decode cX12_judged 104 = .ok (.getfield 87, 3) := by decide +kernel
theorem dX12_judged_107 : decode cX12_judged 107 = .ok (.iload_n 1, 1) := by decide +kernel
theorem dX12_judged_108 : decode cX12_judged 108 = .ok (.iaload, 1) := by decide +kernel
theorem dX12_judged_109 : decode cX12_judged 109 = .ok (.iconst 1, 1) := by decide +kernel
theorem dX12_judged_110 : decode cX12_judged 110 = .ok (.iload_n 2, 1) := by decide +kernel
theorem dX12_judged_111 : decode cX12_judged 111 = .ok (.iload 5, 2) := by decide +kernel
theorem dX12_judged_113 : decode cX12_judged 113 = .ok (.iconst 1, 1) := by decide +kernel
theorem dX12_judged_114 : decode cX12_judged 114 = .ok (.iadd, 1) := by decide +kernel
theorem dX12_judged_115 : decode cX12_judged 115 = .ok (.iload 5, 2) := by decide +kernel
theorem dX12_judged_117 : decode cX12_judged 117 = .ok (.iload_n 3, 1) := by decide +kernel
theorem dX12_judged_118 : decode cX12_judged 118 = .ok (.iadd, 1) := by decide +kernel
theorem dX12_judged_119 : decode cX12_judged 119 = .ok (.invokevirtual 278, 3) := by decide +kernel
theorem dX12_judged_122 : decode cX12_judged 122 = .ok (.i2l, 1) := by decide +kernel
theorem dX12_judged_123 : decode cX12_judged 123 = .ok (.lstore 8, 2) := by decide +kernel
theorem dX12_judged_125 : decode cX12_judged 125 = .ok (.lload 6, 2) := by decide +kernel
theorem dX12_judged_127 : decode cX12_judged 127 = .ok (.ldc2_w 302, 3) := by decide +kernel
theorem dX12_judged_130 : decode cX12_judged 130 = .ok (.lload 8, 2) := by decide +kernel
theorem dX12_judged_132 : decode cX12_judged 132 = .ok (.lmul, 1) := by decide +kernel
theorem dX12_judged_133 : decode cX12_judged 133 = .ok (.lcmp, 1) := by decide +kernel
theorem dX12_judged_134 : decode cX12_judged 134 = .ok (.ifCond .gt 7, 3) := by decide +kernel
theorem dX12_judged_137 : decode cX12_judged 137 = .ok (.iconst 0, 1) := by decide +kernel
theorem dX12_judged_138 : decode cX12_judged 138 = .ok (.goto 20, 3) := by decide +kernel
theorem dX12_judged_141 : decode cX12_judged 141 = .ok (.lload 6, 2) := by decide +kernel
theorem dX12_judged_143 : decode cX12_judged 143 = .ok (.ldc2_w 365, 3) := by decide +kernel
theorem dX12_judged_146 : decode cX12_judged 146 = .ok (.lload 8, 2) := by decide +kernel
theorem dX12_judged_148 : decode cX12_judged 148 = .ok (.lmul, 1) := by decide +kernel
theorem dX12_judged_149 : decode cX12_judged 149 = .ok (.lcmp, 1) := by decide +kernel
theorem dX12_judged_150 : decode cX12_judged 150 = .ok (.ifCond .gt 7, 3) := by decide +kernel
theorem dX12_judged_153 : decode cX12_judged 153 = .ok (.iconst 1, 1) := by decide +kernel
theorem dX12_judged_154 : decode cX12_judged 154 = .ok (.goto 4, 3) := by decide +kernel
theorem dX12_judged_157 : decode cX12_judged 157 = .ok (.iconst 2, 1) := by decide +kernel
theorem dX12_judged_158 : decode cX12_judged 158 = .ok (.istore 10, 2) := by decide +kernel
theorem dX12_judged_160 : decode cX12_judged 160 = .ok (.iload 4, 2) := by decide +kernel
theorem dX12_judged_162 : decode cX12_judged 162 = .ok (.ifCond .ne 8, 3) := by decide +kernel
theorem dX12_judged_165 : decode cX12_judged 165 = .ok (.iload 10, 2) := by decide +kernel
theorem dX12_judged_167 : decode cX12_judged 167 = .ok (.goto 34, 3) := by decide +kernel
theorem dX12_judged_170 : decode cX12_judged 170 = .ok (.aload_n 0, 1) := by decide +kernel
theorem dX12_judged_171 : decode cX12_judged 171 = .ok (.getfield 90, 3) := by decide +kernel
theorem dX12_judged_174 : decode cX12_judged 174 = .ok (.iload_n 1, 1) := by decide +kernel
theorem dX12_judged_175 : decode cX12_judged 175 = .ok (.iaload, 1) := by decide +kernel
theorem dX12_judged_176 : decode cX12_judged 176 = .ok (.iload 10, 2) := by decide +kernel
theorem dX12_judged_178 : decode cX12_judged 178 = .ok (.if_icmp .le 7, 3) := by decide +kernel
theorem dX12_judged_181 : decode cX12_judged 181 = .ok (.iconst 1, 1) := by decide +kernel
theorem dX12_judged_182 : decode cX12_judged 182 = .ok (.goto 19, 3) := by decide +kernel
theorem dX12_judged_185 : decode cX12_judged 185 = .ok (.aload_n 0, 1) := by decide +kernel
theorem dX12_judged_186 : decode cX12_judged 186 = .ok (.getfield 90, 3) := by decide +kernel
theorem dX12_judged_189 : decode cX12_judged 189 = .ok (.iload_n 1, 1) := by decide +kernel
theorem dX12_judged_190 : decode cX12_judged 190 = .ok (.iaload, 1) := by decide +kernel
theorem dX12_judged_191 : decode cX12_judged 191 = .ok (.iload 10, 2) := by decide +kernel
theorem dX12_judged_193 : decode cX12_judged 193 = .ok (.if_icmp .ge 7, 3) := by decide +kernel
theorem dX12_judged_196 : decode cX12_judged 196 = .ok (.iconst (-1), 1) := by decide +kernel
theorem dX12_judged_197 : decode cX12_judged 197 = .ok (.goto 4, 3) := by decide +kernel
theorem dX12_judged_200 : decode cX12_judged 200 = .ok (.iconst 0, 1) := by decide +kernel
theorem dX12_judged_201 : decode cX12_judged 201 = .ok (.ireturn, 1) := by decide +kernel
