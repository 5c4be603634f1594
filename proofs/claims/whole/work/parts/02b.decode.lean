theorem dX8_findShakes_17 : decode cX8_findShakes 17 = .ok (.iconst 0, 1) := by decide +kernel
theorem dX8_findShakes_18 : decode cX8_findShakes 18 = .ok (.bastore, 1) := by decide +kernel
theorem dX8_findShakes_19 : decode cX8_findShakes 19 = .ok (.iinc 5 1, 3) := by decide +kernel
theorem dX8_findShakes_22 : decode cX8_findShakes 22 = .ok (.goto (-19), 3) := by decide +kernel
theorem dX8_findShakes_25 : decode cX8_findShakes 25 = .ok (.iconst 0, 1) := by decide +kernel
theorem dX8_findShakes_26 : decode cX8_findShakes 26 = .ok (.istore 5, 2) := by decide +kernel
theorem dX8_findShakes_28 : decode cX8_findShakes 28 = .ok (.iload 5, 2) := by decide +kernel
theorem dX8_findShakes_30 : decode cX8_findShakes 30 = .ok (.aload_n 0, 1) := by decide +kernel
theorem dX8_findShakes_31 : decode cX8_findShakes 31 = .ok (.getfield 32, 3) := by decide +kernel
theorem dX8_findShakes_34 : decode cX8_findShakes 34 = .ok (.invokevirtual 71, 3) := by decide +kernel
theorem dX8_findShakes_37 : decode cX8_findShakes 37 = .ok (.if_icmp .ge 39, 3) := by decide +kernel
theorem dX8_findShakes_40 : decode cX8_findShakes 40 = .ok (.aload_n 0, 1) := by decide +kernel
theorem dX8_findShakes_41 : decode cX8_findShakes 41 = .ok (.getfield 32, 3) := by decide +kernel
theorem dX8_findShakes_44 : decode cX8_findShakes 44 = .ok (.iload 5, 2) := by decide +kernel
theorem dX8_findShakes_46 : decode cX8_findShakes 46 = .ok (.iload_n 1, 1) := by decide +kernel
theorem dX8_findShakes_47 : decode cX8_findShakes 47 = .ok (.iload_n 3, 1) := by decide +kernel
theorem dX8_findShakes_48 : decode cX8_findShakes 48 = .ok (.iload 4, 2) := by decide +kernel
theorem dX8_findShakes_50 : decode cX8_findShakes 50 = .ok (.invokevirtual 77, 3) := by decide +kernel
theorem dX8_findShakes_53 : decode cX8_findShakes 53 = .ok (.ifCond .eq 17, 3) := by decide +kernel
theorem dX8_findShakes_56 : decode cX8_findShakes 56 = .ok (.aload_n 0, 1) := by decide +kernel
theorem dX8_findShakes_57 : decode cX8_findShakes 57 = .ok (.aload_n 0, 1) := by decide +kernel
theorem dX8_findShakes_58 : decode cX8_findShakes 58 = .ok (.getfield 32, 3) := by decide +kernel
theorem dX8_findShakes_61 : decode cX8_findShakes 61 = .ok (.iload 5, 2) := by decide +kernel
theorem dX8_findShakes_63 : decode cX8_findShakes 63 = .ok (.invokevirtual 81, 3) := by decide +kernel
theorem dX8_findShakes_66 : decode cX8_findShakes 66 = .ok (.iload_n 2, 1) := by decide +kernel
theorem dX8_findShakes_67 : decode cX8_findShakes 67 = .ok (.invokevirtual 84, 3) := by decide +kernel
theorem dX8_findShakes_70 : decode cX8_findShakes 70 = .ok (.iinc 5 1, 3) := by decide +kernel
theorem dX8_findShakes_73 : decode cX8_findShakes 73 = .ok (.goto (-45), 3) := by decide +kernel
theorem dX8_findShakes_76 : decode cX8_findShakes 76 = .ok (.return_, 1) := by decide +kernel
theorem dX8_markAhead_0 : decode cX8_markAhead 0 = .ok (.iconst 1, 1) := by decide +kernel
theorem dX8_markAhead_1 : decode cX8_markAhead 1 = .ok (.istore_n 3, 1) := by decide +kernel
theorem dX8_markAhead_2 : decode cX8_markAhead 2 = .ok (.iload_n 3, 1) := by decide +kernel
theorem dX8_markAhead_3 : decode cX8_markAhead 3 = .ok (.iload_n 2, 1) := by decide +kernel
theorem dX8_markAhead_4 : decode cX8_markAhead 4 = .ok (.if_icmp .gt 27, 3) := by decide +kernel
theorem dX8_markAhead_7 : decode cX8_markAhead 7 = .ok (.iload_n 1, 1) := by decide +kernel
theorem dX8_markAhead_8 : decode cX8_markAhead 8 = .ok (.iload_n 3, 1) := by decide +kernel
theorem dX8_markAhead_9 : decode cX8_markAhead 9 = .ok (.isub, 1) := by decide +kernel
theorem dX8_markAhead_10 : decode cX8_markAhead 10 = .ok (.invokestatic 63, 3) := by decide +kernel
theorem dX8_markAhead_13 : decode cX8_markAhead 13 = .ok (.ifCond .eq 12, 3) := by decide +kernel
theorem dX8_markAhead_16 : decode cX8_markAhead 16 = .ok (.aload_n 0, 1) := by decide +kernel
theorem dX8_markAhead_17 : decode cX8_markAhead 17 = .ok (.getfield 9, 3) := by decide +kernel
theorem dX8_markAhead_20 : decode cX8_markAhead 20 = .ok (.iload_n 1, 1) := by decide +kernel
theorem dX8_markAhead_21 : decode cX8_markAhead 21 = .ok (.iload_n 3, 1) := by decide +kernel
theorem dX8_markAhead_22 : decode cX8_markAhead 22 = .ok (.isub, 1) := by decide +kernel
theorem dX8_markAhead_23 : decode cX8_markAhead 23 = .ok (.iconst 1, 1) := by decide +kernel
theorem dX8_markAhead_24 : decode cX8_markAhead 24 = .ok (.bastore, 1) := by decide +kernel
theorem dX8_markAhead_25 : decode cX8_markAhead 25 = .ok (.iinc 3 1, 3) := by decide +kernel
theorem dX8_markAhead_28 : decode cX8_markAhead 28 = .ok (.goto (-26), 3) := by decide +kernel
theorem dX8_markAhead_31 : decode cX8_markAhead 31 = .ok (.return_, 1) := by decide +kernel
theorem dX9_init_0 : decode cX9_init 0 = .ok (.aload_n 0, 1) := by decide +kernel
theorem dX9_init_1 : decode cX9_init 1 = .ok (.invokespecial 3, 3) := by decide +kernel
theorem dX9_init_4 : decode cX9_init 4 = .ok (.aload_n 0, 1) := by decide +kernel
theorem dX9_init_5 : decode cX9_init 5 = .ok (.sipush 400, 3) := by decide +kernel
theorem dX9_init_8 : decode cX9_init 8 = .ok (.newarray .int, 2) := by decide +kernel
theorem dX9_init_10 : decode cX9_init 10 = .ok (.putfield 9, 3) := by decide +kernel
theorem dX9_init_13 : decode cX9_init 13 = .ok (.aload_n 0, 1) := by decide +kernel
theorem dX9_init_14 : decode cX9_init 14 = .ok (.sipush 400, 3) := by decide +kernel
theorem dX9_init_17 : decode cX9_init 17 = .ok (.newarray .int, 2) := by decide +kernel
theorem dX9_init_19 : decode cX9_init 19 = .ok (.putfield 15, 3) := by decide +kernel
theorem dX9_init_22 : decode cX9_init 22 = .ok (.aload_n 0, 1) := by decide +kernel
theorem dX9_init_23 : decode cX9_init 23 = .ok (.iconst 0, 1) := by decide +kernel
theorem dX9_init_24 : decode cX9_init 24 = .ok (.putfield 18, 3) := by decide +kernel
theorem dX9_init_27 : decode cX9_init 27 = .ok (.aload_n 0, 1) := by decide +kernel
theorem dX9_init_28 : decode cX9_init 28 = .ok (.iconst 0, 1) := by decide +kernel
theorem dX9_init_29 : decode cX9_init 29 = .ok (.putfield 22, 3) := by decide +kernel
theorem dX9_init_32 : decode cX9_init 32 = .ok (.aload_n 0, 1) := by decide +kernel
theorem dX9_init_33 : decode cX9_init 33 = .ok (.iconst 0, 1) := by decide +kernel
theorem dX9_init_34 : decode cX9_init 34 = .ok (.putfield 25, 3) := by decide +kernel
theorem dX9_init_37 : decode cX9_init 37 = .ok (.aload_n 0, 1) := by decide +kernel
theorem dX9_init_38 : decode cX9_init 38 = .ok (.iconst 0, 1) := by decide +kernel
theorem dX9_init_39 : decode cX9_init 39 = .ok (.putfield 28, 3) := by decide +kernel
theorem dX9_init_42 : decode cX9_init 42 = .ok (.aload_n 0, 1) := by decide +kernel
theorem dX9_init_43 : decode cX9_init 43 = .ok (.aload_n 1, 1) := by decide +kernel
theorem dX9_init_44 : decode cX9_init 44 = .ok (.putfield 31, 3) := by decide +kernel
theorem dX9_init_47 : decode cX9_init 47 = .ok (.aload_n 0, 1) := by decide +kernel
theorem dX9_init_48 : decode cX9_init 48 = .ok (.aload_n 2, 1) := by decide +kernel
theorem dX9_init_49 : decode cX9_init 49 = .ok (.putfield 35, 3) := by decide +kernel
theorem dX9_init_52 : decode cX9_init 52 = .ok (.return_, 1) := by decide +kernel
theorem dX9_learn_0 : decode cX9_learn 0 = .ok (.iconst 0, 1) := by decide +kernel
theorem dX9_learn_1 : decode cX9_learn 1 = .ok (.iload_n 3, 1) := by decide +kernel
theorem dX9_learn_2 : decode cX9_learn 2 = .ok (.invokestatic 39, 3) := by decide +kernel
theorem dX9_learn_5 : decode cX9_learn 5 = .ok (.istore 5, 2) := by decide +kernel
theorem dX9_learn_7 : decode cX9_learn 7 = .ok (.iload 5, 2) := by decide +kernel
theorem dX9_learn_9 : decode cX9_learn 9 = .ok (.iload 4, 2) := by decide +kernel
theorem dX9_learn_11 : decode cX9_learn 11 = .ok (.if_icmp .gt 61, 3) := by decide +kernel
theorem dX9_learn_14 : decode cX9_learn 14 = .ok (.iload 5, 2) := by decide +kernel
theorem dX9_learn_16 : decode cX9_learn 16 = .ok (.sipush 400, 3) := by decide +kernel
theorem dX9_learn_19 : decode cX9_learn 19 = .ok (.if_icmp .ge 53, 3) := by decide +kernel
theorem dX9_learn_22 : decode cX9_learn 22 = .ok (.aload_n 0, 1) := by decide +kernel
theorem dX9_learn_23 : decode cX9_learn 23 = .ok (.getfield 9, 3) := by decide +kernel
theorem dX9_learn_26 : decode cX9_learn 26 = .ok (.iload 5, 2) := by decide +kernel
theorem dX9_learn_28 : decode cX9_learn 28 = .ok (.aload_n 0, 1) := by decide +kernel
theorem dX9_learn_29 : decode cX9_learn 29 = .ok (.getfield 31, 3) := by decide +kernel
theorem dX9_learn_32 : decode cX9_learn 32 = .ok (.iload 5, 2) := by decide +kernel
theorem dX9_learn_34 : decode cX9_learn 34 = .ok (.iconst 1, 1) := by decide +kernel
theorem dX9_learn_35 : decode cX9_learn 35 = .ok (.isub, 1) := by decide +kernel
theorem dX9_learn_36 : decode cX9_learn 36 = .ok (.iload_n 1, 1) := by decide +kernel
theorem dX9_learn_37 : decode cX9_learn 37 = .ok (.iconst 1, 1) := by decide +kernel
theorem dX9_learn_38 : decode cX9_learn 38 = .ok (.iload_n 2, 1) := by decide +kernel
theorem dX9_learn_39 : decode cX9_learn 39 = .ok (.iload 5, 2) := by decide +kernel
theorem dX9_learn_41 : decode cX9_learn 41 = .ok (.iload 5, 2) := by decide +kernel
theorem dX9_learn_43 : decode cX9_learn 43 = .ok (.invokevirtual 45, 3) := by decide +kernel
theorem dX9_learn_46 : decode cX9_learn 46 = .ok (.iastore, 1) := by decide +kernel
theorem dX9_learn_47 : decode cX9_learn 47 = .ok (.aload_n 0, 1) := by decide +kernel
theorem dX9_learn_48 : decode cX9_learn 48 = .ok (.getfield 15, 3) := by decide +kernel
theorem dX9_learn_51 : decode cX9_learn 51 = .ok (.iload 5, 2) := by decide +kernel
theorem dX9_learn_53 : decode cX9_learn 53 = .ok (.aload_n 0, 1) := by decide +kernel
theorem dX9_learn_54 : decode cX9_learn 54 = .ok (.getfield 35, 3) := by decide +kernel
theorem dX9_learn_57 : decode cX9_learn 57 = .ok (.iload_n 1, 1) := by decide +kernel
theorem dX9_learn_58 : decode cX9_learn 58 = .ok (.iconst 1, 1) := by decide +kernel
theorem dX9_learn_59 : decode cX9_learn 59 = .ok (.iload_n 2, 1) := by decide +kernel
theorem dX9_learn_60 : decode cX9_learn 60 = .ok (.iload 5, 2) := by decide +kernel
theorem dX9_learn_62 : decode cX9_learn 62 = .ok (.invokevirtual 51, 3) := by decide +kernel
theorem dX9_learn_65 : decode cX9_learn 65 = .ok (.iastore, 1) := by decide +kernel
theorem dX9_learn_66 : decode cX9_learn 66 = .ok (.iinc 5 1, 3) := by decide +kernel
theorem dX9_learn_69 : decode cX9_learn 69 = .ok (.goto (-62), 3) := by decide +kernel
theorem dX9_learn_72 : decode cX9_learn 72 = .ok (.return_, 1) := by decide +kernel
theorem dX9_liveBy_0 : decode cX9_liveBy 0 = .ok (.aload_n 0, 1) := by decide +kernel
theorem dX9_liveBy_1 : decode cX9_liveBy 1 = .ok (.iconst 0, 1) := by decide +kernel
theorem dX9_liveBy_2 : decode cX9_liveBy 2 = .ok (.putfield 18, 3) := by decide +kernel
theorem dX9_liveBy_5 : decode cX9_liveBy 5 = .ok (.aload_n 0, 1) := by decide +kernel
theorem dX9_liveBy_6 : decode cX9_liveBy 6 = .ok (.iconst 0, 1) := by decide +kernel
theorem dX9_liveBy_7 : decode cX9_liveBy 7 = .ok (.putfield 22, 3) := by decide +kernel
theorem dX9_liveBy_10 : decode cX9_liveBy 10 = .ok (.aload_n 0, 1) := by decide +kernel
theorem dX9_liveBy_11 : decode cX9_liveBy 11 = .ok (.iconst 0, 1) := by decide +kernel
theorem dX9_liveBy_12 : decode cX9_liveBy 12 = .ok (.putfield 25, 3) := by decide +kernel
theorem dX9_liveBy_15 : decode cX9_liveBy 15 = .ok (.iconst 0, 1) := by decide +kernel
theorem dX9_liveBy_16 : decode cX9_liveBy 16 = .ok (.iload 4, 2) := by decide +kernel
theorem dX9_liveBy_18 : decode cX9_liveBy 18 = .ok (.invokestatic 39, 3) := by decide +kernel
theorem dX9_liveBy_21 : decode cX9_liveBy 21 = .ok (.istore 6, 2) := by decide +kernel
theorem dX9_liveBy_23 : decode cX9_liveBy 23 = .ok (.iload 6, 2) := by decide +kernel
theorem dX9_liveBy_25 : decode cX9_liveBy 25 = .ok (.iload 5, 2) := by decide +kernel
theorem dX9_liveBy_27 : decode cX9_liveBy 27 = .ok (.if_icmp .gt 24, 3) := by decide +kernel
theorem dX9_liveBy_30 : decode cX9_liveBy 30 = .ok (.iload 6, 2) := by decide +kernel
theorem dX9_liveBy_32 : decode cX9_liveBy 32 = .ok (.sipush 400, 3) := by decide +kernel
theorem dX9_liveBy_35 : decode cX9_liveBy 35 = .ok (.if_icmp .ge 16, 3) := by decide +kernel
theorem dX9_liveBy_38 : decode cX9_liveBy 38 = .ok (.aload_n 0, 1) := by decide +kernel
theorem dX9_liveBy_39 : decode cX9_liveBy 39 = .ok (.iload 6, 2) := by decide +kernel
theorem dX9_liveBy_41 : decode cX9_liveBy 41 = .ok (.iload_n 1, 1) := by decide +kernel
theorem dX9_liveBy_42 : decode cX9_liveBy 42 = .ok (.invokevirtual 57, 3) := by decide +kernel
theorem dX9_liveBy_45 : decode cX9_liveBy 45 = .ok (.iinc 6 1, 3) := by decide +kernel
theorem dX9_liveBy_48 : decode cX9_liveBy 48 = .ok (.goto (-25), 3) := by decide +kernel
theorem dX9_liveBy_51 : decode cX9_liveBy 51 = .ok (.aload_n 0, 1) := by decide +kernel
theorem dX9_liveBy_52 : decode cX9_liveBy 52 = .ok (.aload_n 0, 1) := by decide +kernel
theorem dX9_liveBy_53 : decode cX9_liveBy 53 = .ok (.getfield 18, 3) := by decide +kernel
theorem dX9_liveBy_56 : decode cX9_liveBy 56 = .ok (.iload_n 2, 1) := by decide +kernel
theorem dX9_liveBy_57 : decode cX9_liveBy 57 = .ok (.imul, 1) := by decide +kernel
theorem dX9_liveBy_58 : decode cX9_liveBy 58 = .ok (.aload_n 0, 1) := by decide +kernel
theorem dX9_liveBy_59 : decode cX9_liveBy 59 = .ok (.getfield 25, 3) := by decide +kernel
theorem dX9_liveBy_62 : decode cX9_liveBy 62 = .ok (.iload_n 3, 1) := by decide +kernel
theorem dX9_liveBy_63 : decode cX9_liveBy 63 = .ok (.imul, 1) := by decide +kernel
theorem dX9_liveBy_64 : decode cX9_liveBy 64 = .ok (.iadd, 1) := by decide +kernel
theorem dX9_liveBy_65 : decode cX9_liveBy 65 = .ok (.putfield 28, 3) := by decide +kernel
theorem dX9_liveBy_68 : decode cX9_liveBy 68 = .ok (.return_, 1) := by decide +kernel
theorem dX9_liveThrough_0 : decode cX9_liveThrough 0 = .ok (.iload_n 1, 1) := by decide +kernel
theorem dX9_liveThrough_1 : decode cX9_liveThrough 1 = .ok (.invokestatic 61, 3) := by decide +kernel
theorem dX9_liveThrough_4 : decode cX9_liveThrough 4 = .ok (.ifCond .ne 4, 3) := by decide +kernel
theorem dX9_liveThrough_7 : decode cX9_liveThrough 7 = .ok (.return_, 1) := by decide +kernel
theorem dX9_liveThrough_8 : decode cX9_liveThrough 8 = .ok (.aload_n 0, 1) := by decide +kernel
theorem dX9_liveThrough_9 : decode cX9_liveThrough 9 = .ok (.getfield 9, 3) := by decide +kernel
theorem dX9_liveThrough_12 : decode cX9_liveThrough 12 = .ok (.iload_n 1, 1) := by decide +kernel
theorem dX9_liveThrough_13 : decode cX9_liveThrough 13 = .ok (.iaload, 1) := by decide +kernel
theorem dX9_liveThrough_14 : decode cX9_liveThrough 14 = .ok (.iload_n 2, 1) := by decide +kernel
theorem dX9_liveThrough_15 : decode cX9_liveThrough 15 = .ok (.if_icmp .ge 19, 3) := by decide +kernel
theorem dX9_liveThrough_18 : decode cX9_liveThrough 18 = .ok (.aload_n 0, 1) := by decide +kernel
theorem dX9_liveThrough_19 : decode cX9_liveThrough 19 = .ok (.dup, 1) := by decide +kernel
theorem dX9_liveThrough_20 : decode cX9_liveThrough 20 = .ok (.getfield 25, 3) := by decide +kernel
theorem dX9_liveThrough_23 : decode cX9_liveThrough 23 = .ok (.aload_n 0, 1) := by decide +kernel
theorem dX9_liveThrough_24 : decode cX9_liveThrough 24 = .ok (.getfield 15, 3) := by decide +kernel
theorem dX9_liveThrough_27 : decode cX9_liveThrough 27 = .ok (.iload_n 1, 1) := by decide +kernel
theorem dX9_liveThrough_28 : decode cX9_liveThrough 28 = .ok (.iaload, 1) := by decide +kernel
theorem dX9_liveThrough_29 : decode cX9_liveThrough 29 = .ok (.iadd, 1) := by decide +kernel
theorem dX9_liveThrough_30 : decode cX9_liveThrough 30 = .ok (.putfield 25, 3) := by decide +kernel
theorem dX9_liveThrough_33 : decode cX9_liveThrough 33 = .ok (.return_, 1) := by decide +kernel
theorem dX9_liveThrough_34 : decode cX9_liveThrough 34 = .ok (.aload_n 0, 1) := by decide +kernel
theorem dX9_liveThrough_35 : decode cX9_liveThrough 35 = .ok (.dup, 1) := by decide +kernel
theorem dX9_liveThrough_36 : decode cX9_liveThrough 36 = .ok (.getfield 18, 3) := by decide +kernel
theorem dX9_liveThrough_39 : decode cX9_liveThrough 39 = .ok (.iconst 1, 1) := by decide +kernel
theorem dX9_liveThrough_40 : decode cX9_liveThrough 40 = .ok (.iadd, 1) := by decide +kernel
theorem dX9_liveThrough_41 : decode cX9_liveThrough 41 = .ok (.putfield 18, 3) := by decide +kernel
theorem dX9_liveThrough_44 : decode cX9_liveThrough 44 = .ok (.aload_n 0, 1) := by decide +kernel
theorem dX9_liveThrough_45 : decode cX9_liveThrough 45 = .ok (.getfield 15, 3) := by decide +kernel
theorem dX9_liveThrough_48 : decode cX9_liveThrough 48 = .ok (.iload_n 1, 1) := by decide +kernel
theorem dX9_liveThrough_49 : decode cX9_liveThrough 49 = .ok (.iaload, 1) := by decide +kernel
theorem dX9_liveThrough_50 : decode cX9_liveThrough 50 = .ok (.ifCond .ne 13, 3) := by decide +kernel
theorem dX9_liveThrough_53 : decode cX9_liveThrough 53 = .ok (.aload_n 0, 1) := by decide +kernel
theorem dX9_liveThrough_54 : decode cX9_liveThrough 54 = .ok (.dup, 1) := by decide +kernel
theorem dX9_liveThrough_55 : decode cX9_liveThrough 55 = .ok (.getfield 22, 3) := by decide +kernel
theorem dX9_liveThrough_58 : decode cX9_liveThrough 58 = .ok (.iconst 1, 1) := by decide +kernel
theorem dX9_liveThrough_59 : decode cX9_liveThrough 59 = .ok (.iadd, 1) := by decide +kernel
theorem dX9_liveThrough_60 : decode cX9_liveThrough 60 = .ok (.putfield 22, 3) := by decide +kernel
theorem dX9_liveThrough_63 : decode cX9_liveThrough 63 = .ok (.return_, 1) := by decide +kernel
theorem dX9_outcome_0 : decode cX9_outcome 0 = .ok (.iload_n 1, 1) := by decide +kernel
theorem dX9_outcome_1 : decode cX9_outcome 1 = .ok (.tableswitch 42 0 2 #[27, 32, 37], 27) := by decide +kernel
theorem dX9_outcome_28 : decode cX9_outcome 28 = .ok (.aload_n 0, 1) := by decide +kernel
theorem dX9_outcome_29 : decode cX9_outcome 29 = .ok (.getfield 18, 3) := by decide +kernel
theorem dX9_outcome_32 : decode cX9_outcome 32 = .ok (.ireturn, 1) := by decide +kernel
theorem dX9_outcome_33 : decode cX9_outcome 33 = .ok (.aload_n 0, 1) := by decide +kernel
theorem dX9_outcome_34 : decode cX9_outcome 34 = .ok (.getfield 22, 3) := by decide +kernel
theorem dX9_outcome_37 : decode cX9_outcome 37 = .ok (.ireturn, 1) := by decide +kernel
theorem dX9_outcome_38 : decode cX9_outcome 38 = .ok (.aload_n 0, 1) := by decide +kernel
theorem dX9_outcome_39 : decode cX9_outcome 39 = .ok (.getfield 25, 3) := by decide +kernel
theorem dX9_outcome_42 : decode cX9_outcome 42 = .ok (.ireturn, 1) := by decide +kernel
theorem dX9_outcome_43 : decode cX9_outcome 43 = .ok (.aload_n 0, 1) := by decide +kernel
theorem dX9_outcome_44 : decode cX9_outcome 44 = .ok (.getfield 28, 3) := by decide +kernel
theorem dX9_outcome_47 : decode cX9_outcome 47 = .ok (.ireturn, 1) := by decide +kernel
theorem dX9_cheapestLine_0 : decode cX9_cheapestLine 0 = .ok (.aload_n 0, 1) := by decide +kernel
theorem dX9_cheapestLine_1 : decode cX9_cheapestLine 1 = .ok (.ldc 65, 2) := by decide +kernel
theorem dX9_cheapestLine_3 : decode cX9_cheapestLine 3 = .ok (.iload_n 1, 1) := by decide +kernel
theorem dX9_cheapestLine_4 : decode cX9_cheapestLine 4 = .ok (.iload_n 2, 1) := by decide +kernel
theorem dX9_cheapestLine_5 : decode cX9_cheapestLine 5 = .ok (.iload_n 3, 1) := by decide +kernel
theorem dX9_cheapestLine_6 : decode cX9_cheapestLine 6 = .ok (.iload 4, 2) := by decide +kernel
theorem dX9_cheapestLine_8 : decode cX9_cheapestLine 8 = .ok (.invokevirtual 66, 3) := by decide +kernel
theorem dX9_cheapestLine_11 : decode cX9_cheapestLine 11 = .ok (.ldc 65, 2) := by decide +kernel
theorem dX9_cheapestLine_13 : decode cX9_cheapestLine 13 = .ok (.istore 5, 2) := by decide +kernel
theorem dX9_cheapestLine_15 : decode cX9_cheapestLine 15 = .ok (.aload_n 0, 1) := by decide +kernel
theorem dX9_cheapestLine_16 : decode cX9_cheapestLine 16 = .ok (.getfield 28, 3) := by decide +kernel
theorem dX9_cheapestLine_19 : decode cX9_cheapestLine 19 = .ok (.istore 6, 2) := by decide +kernel
theorem dX9_cheapestLine_21 : decode cX9_cheapestLine 21 = .ok (.ldc 70, 2) := by decide +kernel
theorem dX9_cheapestLine_23 : decode cX9_cheapestLine 23 = .ok (.istore 7, 2) := by decide +kernel
theorem dX9_cheapestLine_25 : decode cX9_cheapestLine 25 = .ok (.iload 7, 2) := by decide +kernel
theorem dX9_cheapestLine_27 : decode cX9_cheapestLine 27 = .ok (.ifCond .lt 42, 3) := by decide +kernel
theorem dX9_cheapestLine_30 : decode cX9_cheapestLine 30 = .ok (.aload_n 0, 1) := by decide +kernel
theorem dX9_cheapestLine_31 : decode cX9_cheapestLine 31 = .ok (.iload 7, 2) := by decide +kernel
theorem dX9_cheapestLine_33 : decode cX9_cheapestLine 33 = .ok (.iload_n 1, 1) := by decide +kernel
theorem dX9_cheapestLine_34 : decode cX9_cheapestLine 34 = .ok (.iload_n 2, 1) := by decide +kernel
theorem dX9_cheapestLine_35 : decode cX9_cheapestLine 35 = .ok (.iload_n 3, 1) := by decide +kernel
theorem dX9_cheapestLine_36 : decode cX9_cheapestLine 36 = .ok (.iload 4, 2) := by decide +kernel
theorem dX9_cheapestLine_38 : decode cX9_cheapestLine 38 = .ok (.invokevirtual 66, 3) := by decide +kernel
theorem dX9_cheapestLine_41 : decode cX9_cheapestLine 41 = .ok (.aload_n 0, 1) := by decide +kernel
theorem dX9_cheapestLine_42 : decode cX9_cheapestLine 42 = .ok (.getfield 28, 3) := by decide +kernel
theorem dX9_cheapestLine_45 : decode cX9_cheapestLine 45 = .ok (.iload 6, 2) := by decide +kernel
theorem dX9_cheapestLine_47 : decode cX9_cheapestLine 47 = .ok (.if_icmp .gt 13, 3) := by decide +kernel
theorem dX9_cheapestLine_50 : decode cX9_cheapestLine 50 = .ok (.aload_n 0, 1) := by decide +kernel
theorem dX9_cheapestLine_51 : decode cX9_cheapestLine 51 = .ok (.getfield 28, 3) := by decide +kernel
theorem dX9_cheapestLine_54 : decode cX9_cheapestLine 54 = .ok (.istore 6, 2) := by decide +kernel
theorem dX9_cheapestLine_56 : decode cX9_cheapestLine 56 = .ok (.iload 7, 2) := by decide +kernel
theorem dX9_cheapestLine_58 : decode cX9_cheapestLine 58 = .ok (.istore 5, 2) := by decide +kernel
theorem dX9_cheapestLine_60 : decode cX9_cheapestLine 60 = .ok (.iinc 7 (-1000), 6) := by decide +kernel
theorem dX9_cheapestLine_66 : decode cX9_cheapestLine 66 = .ok (.goto (-41), 3) := by decide +kernel
theorem dX9_cheapestLine_69 : decode cX9_cheapestLine 69 = .ok (.iload 5, 2) := by decide +kernel
theorem dX9_cheapestLine_71 : decode cX9_cheapestLine 71 = .ok (.ireturn, 1) := by decide +kernel
theorem dX10_init_0 : decode cX10_init 0 = .ok (.aload_n 0, 1) := by decide +kernel
theorem dX10_init_1 : decode cX10_init 1 = .ok (.invokespecial 3, 3) := by decide +kernel
theorem dX10_init_4 : decode cX10_init 4 = .ok (.aload_n 0, 1) := by decide +kernel
theorem dX10_init_5 : decode cX10_init 5 = .ok (.bipush 12, 2) := by decide +kernel
theorem dX10_init_7 : decode cX10_init 7 = .ok (.newarray .int, 2) := by decide +kernel
theorem dX10_init_9 : decode cX10_init 9 = .ok (.putfield 9, 3) := by decide +kernel
theorem dX10_init_12 : decode cX10_init 12 = .ok (.aload_n 0, 1) := by decide +kernel
theorem dX10_init_13 : decode cX10_init 13 = .ok (.bipush 12, 2) := by decide +kernel
theorem dX10_init_15 : decode cX10_init 15 = .ok (.newarray .int, 2) := by decide +kernel
theorem dX10_init_17 : decode cX10_init 17 = .ok (.putfield 15, 3) := by decide +kernel
theorem dX10_init_20 : decode cX10_init 20 = .ok (.aload_n 0, 1) := by decide +kernel
theorem dX10_init_21 : decode cX10_init 21 = .ok (.bipush 12, 2) := by decide +kernel
theorem dX10_init_23 : decode cX10_init 23 = .ok (.newarray .int, 2) := by decide +kernel
theorem dX10_init_25 : decode cX10_init 25 = .ok (.putfield 18, 3) := by decide +kernel
theorem dX10_init_28 : decode cX10_init 28 = .ok (.aload_n 0, 1) := by decide +kernel
theorem dX10_init_29 : decode cX10_init 29 = .ok (.iconst 0, 1) := by decide +kernel
theorem dX10_init_30 : decode cX10_init 30 = .ok (.putfield 21, 3) := by decide +kernel
theorem dX10_init_33 : decode cX10_init 33 = .ok (.aload_n 0, 1) := by decide +kernel
theorem dX10_init_34 : decode cX10_init 34 = .ok (.aload_n 1, 1) := by decide +kernel
theorem dX10_init_35 : decode cX10_init 35 = .ok (.putfield 25, 3) := by decide +kernel
theorem dX10_init_38 : decode cX10_init 38 = .ok (.return_, 1) := by decide +kernel
theorem dX10_size_0 : decode cX10_size 0 = .ok (.aload_n 0, 1) := by decide +kernel
theorem dX10_size_1 : decode cX10_size 1 = .ok (.getfield 21, 3) := by decide +kernel
theorem dX10_size_4 : decode cX10_size 4 = .ok (.ireturn, 1) := by decide +kernel
theorem dX10_isFull_0 : decode cX10_isFull 0 = .ok (.aload_n 0, 1) := by decide +kernel
theorem dX10_isFull_1 : decode cX10_isFull 1 = .ok (.getfield 21, 3) := by decide +kernel
theorem dX10_isFull_4 : decode cX10_isFull 4 = .ok (.bipush 12, 2) := by decide +kernel
theorem dX10_isFull_6 : decode cX10_isFull 6 = .ok (.if_icmp .lt 7, 3) := by decide +kernel
theorem dX10_isFull_9 : decode cX10_isFull 9 = .ok (.iconst 1, 1) := by decide +kernel
theorem dX10_isFull_10 : decode cX10_isFull 10 = .ok (.goto 4, 3) := by decide +kernel
theorem dX10_isFull_13 : decode cX10_isFull 13 = .ok (.iconst 0, 1) := by decide +kernel
theorem dX10_isFull_14 : decode cX10_isFull 14 = .ok (.ireturn, 1) := by decide +kernel
theorem dX10_has_0 : decode cX10_has 0 = .ok (.iload_n 1, 1) := by decide +kernel
theorem dX10_has_1 : decode cX10_has 1 = .ok (.ifCond .lt 21, 3) := by decide +kernel
theorem dX10_has_4 : decode cX10_has 4 = .ok (.iload_n 1, 1) := by decide +kernel
theorem dX10_has_5 : decode cX10_has 5 = .ok (.aload_n 0, 1) := by decide +kernel
theorem dX10_has_6 : decode cX10_has 6 = .ok (.getfield 21, 3) := by decide +kernel
theorem dX10_has_9 : decode cX10_has 9 = .ok (.if_icmp .ge 13, 3) := by decide +kernel
theorem dX10_has_12 : decode cX10_has 12 = .ok (.iload_n 1, 1) := by decide +kernel
theorem dX10_has_13 : decode cX10_has 13 = .ok (.bipush 12, 2) := by decide +kernel
theorem dX10_has_15 : decode cX10_has 15 = .ok (.if_icmp .ge 7, 3) := by decide +kernel
theorem dX10_has_18 : decode cX10_has 18 = .ok (.iconst 1, 1) := by decide +kernel
theorem dX10_has_19 : decode cX10_has 19 = .ok (.goto 4, 3) := by decide +kernel
theorem dX10_has_22 : decode cX10_has 22 = .ok (.iconst 0, 1) := by decide +kernel
theorem dX10_has_23 : decode cX10_has 23 = .ok (.ireturn, 1) := by decide +kernel
theorem dX10_write_0 : decode cX10_write 0 = .ok (.aload_n 0, 1) := by decide +kernel
theorem dX10_write_1 : decode cX10_write 1 = .ok (.getfield 21, 3) := by decide +kernel
theorem dX10_write_4 : decode cX10_write 4 = .ok (.ifCond .lt 10, 3) := by decide +kernel
theorem dX10_write_7 : decode cX10_write 7 = .ok (.aload_n 0, 1) := by decide +kernel
theorem dX10_write_8 : decode cX10_write 8 = .ok (.invokevirtual 29, 3) := by decide +kernel
theorem dX10_write_11 : decode cX10_write 11 = .ok (.ifCond .eq 5, 3) := by decide +kernel
theorem dX10_write_14 : decode cX10_write 14 = .ok (.iconst (-1), 1) := by decide +kernel
theorem dX10_write_15 : decode cX10_write 15 = .ok (.ireturn, 1) := by decide +kernel
theorem dX10_write_16 : decode cX10_write 16 = .ok (.aload_n 0, 1) := by decide +kernel
theorem dX10_write_17 : decode cX10_write 17 = .ok (.getfield 9, 3) := by decide +kernel
theorem dX10_write_20 : decode cX10_write 20 = .ok (.aload_n 0, 1) := by decide +kernel
theorem dX10_write_21 : decode cX10_write 21 = .ok (.getfield 21, 3) := by decide +kernel
theorem dX10_write_24 : decode cX10_write 24 = .ok (.iload_n 1, 1) := by decide +kernel
theorem dX10_write_25 : decode cX10_write 25 = .ok (.iastore, 1) := by decide +kernel
theorem dX10_write_26 : decode cX10_write 26 = .ok (.aload_n 0, 1) := by decide +kernel
theorem dX10_write_27 : decode cX10_write 27 = .ok (.getfield 15, 3) := by decide +kernel
theorem dX10_write_30 : decode cX10_write 30 = .ok (.aload_n 0, 1) := by decide +kernel
theorem dX10_write_31 : decode cX10_write 31 = .ok (.getfield 21, 3) := by decide +kernel
theorem dX10_write_34 : decode cX10_write 34 = .ok (.iload_n 2, 1) := by decide +kernel
theorem dX10_write_35 : decode cX10_write 35 = .ok (.iastore, 1) := by decide +kernel
theorem dX10_write_36 : decode cX10_write 36 = .ok (.aload_n 0, 1) := by decide +kernel
theorem dX10_write_37 : decode cX10_write 37 = .ok (.getfield 18, 3) := by decide +kernel
theorem dX10_write_40 : decode cX10_write 40 = .ok (.aload_n 0, 1) := by decide +kernel
theorem dX10_write_41 : decode cX10_write 41 = .ok (.getfield 21, 3) := by decide +kernel
theorem dX10_write_44 : decode cX10_write 44 = .ok (.iload_n 3, 1) := by decide +kernel
theorem dX10_write_45 : decode cX10_write 45 = .ok (.iastore, 1) := by decide +kernel
theorem dX10_write_46 : decode cX10_write 46 = .ok (.aload_n 0, 1) := by decide +kernel
theorem dX10_write_47 : decode cX10_write 47 = .ok (.dup, 1) := by decide +kernel
theorem dX10_write_48 : decode cX10_write 48 = .ok (.getfield 21, 3) := by decide +kernel
theorem dX10_write_51 : decode cX10_write 51 = .ok (.iconst 1, 1) := by decide +kernel
theorem dX10_write_52 : decode cX10_write 52 = .ok (.iadd, 1) := by decide +kernel
theorem dX10_write_53 : decode cX10_write 53 = .ok (.putfield 21, 3) := by decide +kernel
theorem dX10_write_56 : decode cX10_write 56 = .ok (.aload_n 0, 1) := by decide +kernel
theorem dX10_write_57 : decode cX10_write 57 = .ok (.getfield 21, 3) := by decide +kernel
theorem dX10_write_60 : decode cX10_write 60 = .ok (.iconst 1, 1) := by decide +kernel
theorem dX10_write_61 : decode cX10_write 61 = .ok (.isub, 1) := by decide +kernel
theorem dX10_write_62 : decode cX10_write 62 = .ok (.ireturn, 1) := by decide +kernel
theorem dX10_dayOf_0 : decode cX10_dayOf 0 = .ok (.aload_n 0, 1) := by decide +kernel
theorem dX10_dayOf_1 : decode cX10_dayOf 1 = .ok (.iload_n 1, 1) := by decide +kernel
theorem dX10_dayOf_2 : decode cX10_dayOf 2 = .ok (.invokevirtual 33, 3) := by decide +kernel
theorem dX10_dayOf_5 : decode cX10_dayOf 5 = .ok (.ifCond .eq 12, 3) := by decide +kernel
theorem dX10_dayOf_8 : decode cX10_dayOf 8 = .ok (.aload_n 0, 1) := by decide +kernel
theorem dX10_dayOf_9 : decode cX10_dayOf 9 = .ok (.getfield 9, 3) := by decide +kernel
theorem dX10_dayOf_12 : decode cX10_dayOf 12 = .ok (.iload_n 1, 1) := by decide +kernel
theorem dX10_dayOf_13 : decode cX10_dayOf 13 = .ok (.iaload, 1) := by decide +kernel
theorem dX10_dayOf_14 : decode cX10_dayOf 14 = .ok (.goto 4, 3) := by decide +kernel
theorem dX10_dayOf_17 : decode cX10_dayOf 17 = .ok (.iconst (-1), 1) := by decide +kernel
theorem dX10_dayOf_18 : decode cX10_dayOf 18 = .ok (.ireturn, 1) := by decide +kernel
theorem dX10_saidOf_0 : decode cX10_saidOf 0 = .ok (.aload_n 0, 1) := by decide +kernel
theorem dX10_saidOf_1 : decode cX10_saidOf 1 = .ok (.iload_n 1, 1) := by decide +kernel
theorem dX10_saidOf_2 : decode cX10_saidOf 2 = .ok (.invokevirtual 33, 3) := by decide +kernel
theorem dX10_saidOf_5 : decode cX10_saidOf 5 = .ok (.ifCond .eq 12, 3) := by decide +kernel
theorem dX10_saidOf_8 : decode cX10_saidOf 8 = .ok (.aload_n 0, 1) := by decide +kernel
theorem dX10_saidOf_9 : decode cX10_saidOf 9 = .ok (.getfield 18, 3) := by decide +kernel
theorem dX10_saidOf_12 : decode cX10_saidOf 12 = .ok (.iload_n 1, 1) := by decide +kernel
theorem dX10_saidOf_13 : decode cX10_saidOf 13 = .ok (.iaload, 1) := by decide +kernel
theorem dX10_saidOf_14 : decode cX10_saidOf 14 = .ok (.goto 4, 3) := by decide +kernel
theorem dX10_saidOf_17 : decode cX10_saidOf 17 = .ok (.iconst (-1), 1) := by decide +kernel
theorem dX10_saidOf_18 : decode cX10_saidOf 18 = .ok (.ireturn, 1) := by decide +kernel
theorem dX10_couldBeKnown_0 : decode cX10_couldBeKnown 0 = .ok (.aload_n 0, 1) := by decide +kernel
theorem dX10_couldBeKnown_1 : decode cX10_couldBeKnown 1 = .ok (.iload_n 1, 1) := by decide +kernel
theorem dX10_couldBeKnown_2 : decode cX10_couldBeKnown 2 = .ok (.invokevirtual 33, 3) := by decide +kernel
theorem dX10_couldBeKnown_5 : decode cX10_couldBeKnown 5 = .ok (.ifCond .ne 5, 3) := by decide +kernel
theorem dX10_couldBeKnown_8 : decode cX10_couldBeKnown 8 = .ok (.iconst (-1), 1) := by decide +kernel
theorem dX10_couldBeKnown_9 : decode cX10_couldBeKnown 9 = .ok (.ireturn, 1) := by decide +kernel
theorem dX10_couldBeKnown_10 : decode cX10_couldBeKnown 10 = .ok (.aload_n 0, 1) := by decide +kernel
theorem dX10_couldBeKnown_11 : decode cX10_couldBeKnown 11 = .ok (.getfield 9, 3) := by decide +kernel
theorem dX10_couldBeKnown_14 : decode cX10_couldBeKnown 14 = .ok (.iload_n 1, 1) := by decide +kernel
theorem dX10_couldBeKnown_15 : decode cX10_couldBeKnown 15 = .ok (.iaload, 1) := by decide +kernel
theorem dX10_couldBeKnown_16 : decode cX10_couldBeKnown 16 = .ok (.istore 4, 2) := by decide +kernel
theorem dX10_couldBeKnown_18 : decode cX10_couldBeKnown 18 = .ok (.aload_n 0, 1) := by decide +kernel
theorem dX10_couldBeKnown_19 : decode cX10_couldBeKnown 19 = .ok (.getfield 25, 3) := by decide +kernel
theorem dX10_couldBeKnown_22 : decode cX10_couldBeKnown 22 = .ok (.iload 4, 2) := by decide +kernel
theorem dX10_couldBeKnown_24 : decode cX10_couldBeKnown 24 = .ok (.aload_n 0, 1) := by decide +kernel
theorem dX10_couldBeKnown_25 : decode cX10_couldBeKnown 25 = .ok (.getfield 15, 3) := by decide +kernel
theorem dX10_couldBeKnown_28 : decode cX10_couldBeKnown 28 = .ok (.iload_n 1, 1) := by decide +kernel
theorem dX10_couldBeKnown_29 : decode cX10_couldBeKnown 29 = .ok (.iaload, 1) := by decide +kernel
theorem dX10_couldBeKnown_30 : decode cX10_couldBeKnown 30 = .ok (.iconst 1, 1) := by decide +kernel
theorem dX10_couldBeKnown_31 : decode cX10_couldBeKnown 31 = .ok (.iload_n 2, 1) := by decide +kernel
theorem dX10_couldBeKnown_32 : decode cX10_couldBeKnown 32 = .ok (.iload 4, 2) := by decide +kernel
theorem dX10_couldBeKnown_34 : decode cX10_couldBeKnown 34 = .ok (.iconst 1, 1) := by decide +kernel
theorem dX10_couldBeKnown_35 : decode cX10_couldBeKnown 35 = .ok (.iadd, 1) := by decide +kernel
theorem dX10_couldBeKnown_36 : decode cX10_couldBeKnown 36 = .ok (.iload 4, 2) := by decide +kernel
theorem dX10_couldBeKnown_38 : decode cX10_couldBeKnown 38 = .ok (.iload_n 3, 1) := by decide +kernel
theorem dX10_couldBeKnown_39 : decode cX10_couldBeKnown 39 = .ok (.iadd, 1) := by decide +kernel
theorem dX10_couldBeKnown_40 : decode cX10_couldBeKnown 40 = .ok (.invokevirtual 37, 3) := by decide +kernel
theorem dX10_couldBeKnown_43 : decode cX10_couldBeKnown 43 = .ok (.istore 5, 2) := by decide +kernel
theorem dX10_couldBeKnown_45 : decode cX10_couldBeKnown 45 = .ok (.aload_n 0, 1) := by decide +kernel
theorem dX10_couldBeKnown_46 : decode cX10_couldBeKnown 46 = .ok (.getfield 25, 3) := by decide +kernel
theorem dX10_couldBeKnown_49 : decode cX10_couldBeKnown 49 = .ok (.iconst (-1), 1) := by decide +kernel
theorem dX10_couldBeKnown_50 : decode cX10_couldBeKnown 50 = .ok (.aload_n 0, 1) := by decide +kernel
theorem dX10_couldBeKnown_51 : decode cX10_couldBeKnown 51 = .ok (.getfield 15, 3) := by decide +kernel
theorem dX10_couldBeKnown_54 : decode cX10_couldBeKnown 54 = .ok (.iload_n 1, 1) := by decide +kernel
theorem dX10_couldBeKnown_55 : decode cX10_couldBeKnown 55 = .ok (.iaload, 1) := by decide +kernel
theorem dX10_couldBeKnown_56 : decode cX10_couldBeKnown 56 = .ok (.iconst 1, 1) := by decide +kernel
theorem dX10_couldBeKnown_57 : decode cX10_couldBeKnown 57 = .ok (.iload_n 2, 1) := by decide +kernel
theorem dX10_couldBeKnown_58 : decode cX10_couldBeKnown 58 = .ok (.iload 4, 2) := by decide +kernel
theorem dX10_couldBeKnown_60 : decode cX10_couldBeKnown 60 = .ok (.iconst 1, 1) := by decide +kernel
theorem dX10_couldBeKnown_61 : decode cX10_couldBeKnown 61 = .ok (.iadd, 1) := by decide +kernel
theorem dX10_couldBeKnown_62 : decode cX10_couldBeKnown 62 = .ok (.iload 4, 2) := by decide +kernel
theorem dX10_couldBeKnown_64 : decode cX10_couldBeKnown 64 = .ok (.iload_n 3, 1) := by decide +kernel
theorem dX10_couldBeKnown_65 : decode cX10_couldBeKnown 65 = .ok (.iadd, 1) := by decide +kernel
theorem dX10_couldBeKnown_66 : decode cX10_couldBeKnown 66 = .ok (.invokevirtual 37, 3) := by decide +kernel
theorem dX10_couldBeKnown_69 : decode cX10_couldBeKnown 69 = .ok (.istore 6, 2) := by decide +kernel
theorem dX10_couldBeKnown_71 : decode cX10_couldBeKnown 71 = .ok (.iload 5, 2) := by decide +kernel
theorem dX10_couldBeKnown_73 : decode cX10_couldBeKnown 73 = .ok (.iconst 2, 1) := by decide +kernel
theorem dX10_couldBeKnown_74 : decode cX10_couldBeKnown 74 = .ok (.iload 6, 2) := by decide +kernel
theorem dX10_couldBeKnown_76 : decode cX10_couldBeKnown 76 = .ok (.imul, 1) := by decide +kernel
theorem dX10_couldBeKnown_77 : decode cX10_couldBeKnown 77 = .ok (.if_icmp .gt 5, 3) := by decide +kernel
theorem dX10_couldBeKnown_80 : decode cX10_couldBeKnown 80 = .ok (.iconst 0, 1) := by decide +kernel
theorem dX10_couldBeKnown_81 : decode cX10_couldBeKnown 81 = .ok (.ireturn, 1) := by decide +kernel
theorem dX10_couldBeKnown_82 : decode cX10_couldBeKnown 82 = .ok (.iload 5, 2) := by decide +kernel
theorem dX10_couldBeKnown_84 : decode cX10_couldBeKnown 84 = .ok (.bipush 10, 2) := by decide +kernel
theorem dX10_couldBeKnown_86 : decode cX10_couldBeKnown 86 = .ok (.iload 6, 2) := by decide +kernel
theorem dX10_couldBeKnown_88 : decode cX10_couldBeKnown 88 = .ok (.imul, 1) := by decide +kernel
theorem dX10_couldBeKnown_89 : decode cX10_couldBeKnown 89 = .ok (.if_icmp .gt 7, 3) := by decide +kernel
theorem dX10_couldBeKnown_92 : decode cX10_couldBeKnown 92 = .ok (.iconst 1, 1) := by decide +kernel
theorem dX10_couldBeKnown_93 : decode cX10_couldBeKnown 93 = .ok (.goto 4, 3) := by decide +kernel
theorem dX10_couldBeKnown_96 : decode cX10_couldBeKnown 96 = .ok (.iconst 2, 1) := by decide +kernel
theorem dX10_couldBeKnown_97 : decode cX10_couldBeKnown 97 = .ok (.ireturn, 1) := by decide +kernel
theorem dX11_init_0 : decode cX11_init 0 = .ok (.aload_n 0, 1) := by decide +kernel
theorem dX11_init_1 : decode cX11_init 1 = .ok (.invokespecial 1, 3) := by decide +kernel
theorem dX11_init_4 : decode cX11_init 4 = .ok (.aload_n 0, 1) := by decide +kernel
theorem dX11_init_5 : decode cX11_init 5 = .ok (.new 7, 3) := by decide +kernel
theorem dX11_init_8 : decode cX11_init 8 = .ok (.dup, 1) := by decide +kernel
theorem dX11_init_9 : decode cX11_init 9 = .ok (.invokespecial 9, 3) := by decide +kernel
theorem dX11_init_12 : decode cX11_init 12 = .ok (.putfield 10, 3) := by decide +kernel
theorem dX11_init_15 : decode cX11_init 15 = .ok (.aload_n 0, 1) := by decide +kernel
theorem dX11_init_16 : decode cX11_init 16 = .ok (.new 16, 3) := by decide +kernel
theorem dX11_init_19 : decode cX11_init 19 = .ok (.dup, 1) := by decide +kernel
theorem dX11_init_20 : decode cX11_init 20 = .ok (.invokespecial 18, 3) := by decide +kernel
theorem dX11_init_23 : decode cX11_init 23 = .ok (.putfield 19, 3) := by decide +kernel
theorem dX11_init_26 : decode cX11_init 26 = .ok (.aload_n 0, 1) := by decide +kernel
theorem dX11_init_27 : decode cX11_init 27 = .ok (.new 23, 3) := by decide +kernel
theorem dX11_init_30 : decode cX11_init 30 = .ok (.dup, 1) := by decide +kernel
theorem dX11_init_31 : decode cX11_init 31 = .ok (.invokespecial 25, 3) := by decide +kernel
theorem dX11_init_34 : decode cX11_init 34 = .ok (.putfield 26, 3) := by decide +kernel
theorem dX11_init_37 : decode cX11_init 37 = .ok (.aload_n 0, 1) := by decide +kernel
theorem dX11_init_38 : decode cX11_init 38 = .ok (.new 30, 3) := by decide +kernel
theorem dX11_init_41 : decode cX11_init 41 = .ok (.dup, 1) := by decide +kernel
theorem dX11_init_42 : decode cX11_init 42 = .ok (.invokespecial 32, 3) := by decide +kernel
theorem dX11_init_45 : decode cX11_init 45 = .ok (.putfield 33, 3) := by decide +kernel
theorem dX11_init_48 : decode cX11_init 48 = .ok (.aload_n 0, 1) := by decide +kernel
theorem dX11_init_49 : decode cX11_init 49 = .ok (.new 37, 3) := by decide +kernel
theorem dX11_init_52 : decode cX11_init 52 = .ok (.dup, 1) := by decide +kernel
theorem dX11_init_53 : decode cX11_init 53 = .ok (.aload_n 0, 1) := by decide +kernel
theorem dX11_init_54 : decode cX11_init 54 = .ok (.getfield 10, 3) := by decide +kernel
theorem dX11_init_57 : decode cX11_init 57 = .ok (.aload_n 0, 1) := by decide +kernel
theorem dX11_init_58 : decode cX11_init 58 = .ok (.getfield 26, 3) := by decide +kernel
theorem dX11_init_61 : decode cX11_init 61 = .ok (.invokespecial 39, 3) := by decide +kernel
theorem dX11_init_64 : decode cX11_init 64 = .ok (.putfield 42, 3) := by decide +kernel
theorem dX11_init_67 : decode cX11_init 67 = .ok (.aload_n 0, 1) := by decide +kernel
theorem dX11_init_68 : decode cX11_init 68 = .ok (.new 46, 3) := by decide +kernel
theorem dX11_init_71 : decode cX11_init 71 = .ok (.dup, 1) := by decide +kernel
theorem dX11_init_72 : decode cX11_init 72 = .ok (.aload_n 0, 1) := by decide +kernel
theorem dX11_init_73 : decode cX11_init 73 = .ok (.getfield 10, 3) := by decide +kernel
theorem dX11_init_76 : decode cX11_init 76 = .ok (.invokespecial 48, 3) := by decide +kernel
theorem dX11_init_79 : decode cX11_init 79 = .ok (.putfield 51, 3) := by decide +kernel
theorem dX11_init_82 : decode cX11_init 82 = .ok (.aload_n 0, 1) := by decide +kernel
theorem dX11_init_83 : decode cX11_init 83 = .ok (.new 55, 3) := by decide +kernel
theorem dX11_init_86 : decode cX11_init 86 = .ok (.dup, 1) := by decide +kernel
theorem dX11_init_87 : decode cX11_init 87 = .ok (.aload_n 0, 1) := by decide +kernel
theorem dX11_init_88 : decode cX11_init 88 = .ok (.getfield 51, 3) := by decide +kernel
theorem dX11_init_91 : decode cX11_init 91 = .ok (.aload_n 0, 1) := by decide +kernel
theorem dX11_init_92 : decode cX11_init 92 = .ok (.getfield 26, 3) := by decide +kernel
theorem dX11_init_95 : decode cX11_init 95 = .ok (.invokespecial 57, 3) := by decide +kernel
theorem dX11_init_98 : decode cX11_init 98 = .ok (.putfield 60, 3) := by decide +kernel
theorem dX11_init_101 : decode cX11_init 101 = .ok (.aload_n 0, 1) := by decide +kernel
theorem dX11_init_102 : decode cX11_init 102 = .ok (.new 64, 3) := by decide +kernel
theorem dX11_init_105 : decode cX11_init 105 = .ok (.dup, 1) := by decide +kernel
theorem dX11_init_106 : decode cX11_init 106 = .ok (.aload_n 0, 1) := by decide +kernel
theorem dX11_init_107 : decode cX11_init 107 = .ok (.getfield 42, 3) := by decide +kernel
theorem dX11_init_110 : decode cX11_init 110 = .ok (.aload_n 0, 1) := by decide +kernel
theorem dX11_init_111 : decode cX11_init 111 = .ok (.getfield 26, 3) := by decide +kernel
theorem dX11_init_114 : decode cX11_init 114 = .ok (.invokespecial 66, 3) := by decide +kernel
theorem dX11_init_117 : decode cX11_init 117 = .ok (.putfield 69, 3) := by decide +kernel
theorem dX11_init_120 : decode cX11_init 120 = .ok (.aload_n 0, 1) := by decide +kernel
theorem dX11_init_121 : decode cX11_init 121 = .ok (.new 73, 3) := by decide +kernel
theorem dX11_init_124 : decode cX11_init 124 = .ok (.dup, 1) := by decide +kernel
theorem dX11_init_125 : decode cX11_init 125 = .ok (.aload_n 0, 1) := by decide +kernel
theorem dX11_init_126 : decode cX11_init 126 = .ok (.getfield 42, 3) := by decide +kernel
theorem dX11_init_129 : decode cX11_init 129 = .ok (.aload_n 0, 1) := by decide +kernel
theorem dX11_init_130 : decode cX11_init 130 = .ok (.getfield 26, 3) := by decide +kernel
theorem dX11_init_133 : decode cX11_init 133 = .ok (.invokespecial 75, 3) := by decide +kernel
theorem dX11_init_136 : decode cX11_init 136 = .ok (.putfield 76, 3) := by decide +kernel
theorem dX11_init_139 : decode cX11_init 139 = .ok (.aload_n 0, 1) := by decide +kernel
theorem dX11_init_140 : decode cX11_init 140 = .ok (.new 80, 3) := by decide +kernel
theorem dX11_init_143 : decode cX11_init 143 = .ok (.dup, 1) := by decide +kernel
theorem dX11_init_144 : decode cX11_init 144 = .ok (.invokespecial 82, 3) := by decide +kernel
theorem dX11_init_147 : decode cX11_init 147 = .ok (.putfield 83, 3) := by decide +kernel
theorem dX11_init_150 : decode cX11_init 150 = .ok (.aload_n 0, 1) := by decide +kernel
theorem dX11_init_151 : decode cX11_init 151 = .ok (.new 87, 3) := by decide +kernel
theorem dX11_init_154 : decode cX11_init 154 = .ok (.dup, 1) := by decide +kernel
theorem dX11_init_155 : decode cX11_init 155 = .ok (.aload_n 0, 1) := by decide +kernel
theorem dX11_init_156 : decode cX11_init 156 = .ok (.getfield 42, 3) := by decide +kernel
theorem dX11_init_159 : decode cX11_init 159 = .ok (.invokespecial 89, 3) := by decide +kernel
theorem dX11_init_162 : decode cX11_init 162 = .ok (.putfield 92, 3) := by decide +kernel
theorem dX11_init_165 : decode cX11_init 165 = .ok (.return_, 1) := by decide +kernel
theorem dX11_feed_0 : decode cX11_feed 0 = .ok (.iload_n 1, 1) := by decide +kernel
theorem dX11_feed_1 : decode cX11_feed 1 = .ok (.iconst 1, 1) := by decide +kernel
theorem dX11_feed_2 : decode cX11_feed 2 = .ok (.bipush 8, 2) := by decide +kernel
theorem dX11_feed_4 : decode cX11_feed 4 = .ok (.invokestatic 96, 3) := by decide +kernel
theorem dX11_feed_7 : decode cX11_feed 7 = .ok (.ifCond .ne 7, 3) := by decide +kernel
theorem dX11_feed_10 : decode cX11_feed 10 = .ok (.sipush (-1002), 3) := by decide +kernel
theorem dX11_feed_13 : decode cX11_feed 13 = .ok (.ireturn, 1) := by decide +kernel
theorem dX11_feed_14 : decode cX11_feed 14 = .ok (.aload_n 0, 1) := by decide +kernel
theorem dX11_feed_15 : decode cX11_feed 15 = .ok (.getfield 19, 3) := by decide +kernel
theorem dX11_feed_18 : decode cX11_feed 18 = .ok (.iload_n 1, 1) := by decide +kernel
theorem dX11_feed_19 : decode cX11_feed 19 = .ok (.invokevirtual 100, 3) := by decide +kernel
theorem dX11_feed_22 : decode cX11_feed 22 = .ok (.ifCond .ne 7, 3) := by decide +kernel
theorem dX11_feed_25 : decode cX11_feed 25 = .ok (.sipush (-1004), 3) := by decide +kernel
theorem dX11_feed_28 : decode cX11_feed 28 = .ok (.ireturn, 1) := by decide +kernel
theorem dX11_feed_29 : decode cX11_feed 29 = .ok (.aload_n 0, 1) := by decide +kernel
theorem dX11_feed_30 : decode cX11_feed 30 = .ok (.getfield 19, 3) := by decide +kernel
theorem dX11_feed_33 : decode cX11_feed 33 = .ok (.iload_n 1, 1) := by decide +kernel
theorem dX11_feed_34 : decode cX11_feed 34 = .ok (.lload_n 2, 1) := by decide +kernel
theorem dX11_feed_35 : decode cX11_feed 35 = .ok (.invokevirtual 104, 3) := by decide +kernel
theorem dX11_feed_38 : decode cX11_feed 38 = .ok (.ireturn, 1) := by decide +kernel
theorem dX11_law_0 : decode cX11_law 0 = .ok (.aload_n 0, 1) := by decide +kernel
theorem dX11_law_1 : decode cX11_law 1 = .ok (.getfield 19, 3) := by decide +kernel
theorem dX11_law_4 : decode cX11_law 4 = .ok (.aload_n 0, 1) := by decide +kernel
theorem dX11_law_5 : decode cX11_law 5 = .ok (.getfield 10, 3) := by decide +kernel
theorem dX11_law_8 : decode cX11_law 8 = .ok (.invokevirtual 108, 3) := by decide +kernel
theorem dX11_law_11 : decode cX11_law 11 = .ok (.ireturn, 1) := by decide +kernel
theorem dX11_fault_0 : decode cX11_fault 0 = .ok (.aload_n 0, 1) := by decide +kernel
theorem dX11_fault_1 : decode cX11_fault 1 = .ok (.getfield 19, 3) := by decide +kernel
theorem dX11_fault_4 : decode cX11_fault 4 = .ok (.invokevirtual 112, 3) := by decide +kernel
theorem dX11_fault_7 : decode cX11_fault 7 = .ok (.ireturn, 1) := by decide +kernel
theorem dX11_told_0 : decode cX11_told 0 = .ok (.iload_n 1, 1) := by decide +kernel
theorem dX11_told_1 : decode cX11_told 1 = .ok (.iconst 0, 1) := by decide +kernel
theorem dX11_told_2 : decode cX11_told 2 = .ok (.bipush 7, 2) := by decide +kernel
theorem dX11_told_4 : decode cX11_told 4 = .ok (.invokestatic 96, 3) := by decide +kernel
theorem dX11_told_7 : decode cX11_told 7 = .ok (.ifCond .eq 14, 3) := by decide +kernel
theorem dX11_told_10 : decode cX11_told 10 = .ok (.aload_n 0, 1) := by decide +kernel
theorem dX11_told_11 : decode cX11_told 11 = .ok (.getfield 10, 3) := by decide +kernel
theorem dX11_told_14 : decode cX11_told 14 = .ok (.iload_n 1, 1) := by decide +kernel
theorem dX11_told_15 : decode cX11_told 15 = .ok (.invokevirtual 116, 3) := by decide +kernel
theorem dX11_told_18 : decode cX11_told 18 = .ok (.goto 6, 3) := by decide +kernel
theorem dX11_told_21 : decode cX11_told 21 = .ok (.sipush (-1002), 3) := by decide +kernel
theorem dX11_told_24 : decode cX11_told 24 = .ok (.ireturn, 1) := by decide +kernel
theorem dX11_cells_0 : decode cX11_cells 0 = .ok (.iload_n 1, 1) := by decide +kernel
theorem dX11_cells_1 : decode cX11_cells 1 = .ok (.invokestatic 120, 3) := by decide +kernel
theorem dX11_cells_4 : decode cX11_cells 4 = .ok (.ifCond .ne 7, 3) := by decide +kernel
theorem dX11_cells_7 : decode cX11_cells 7 = .ok (.sipush (-1001), 3) := by decide +kernel
theorem dX11_cells_10 : decode cX11_cells 10 = .ok (.ireturn, 1) := by decide +kernel
theorem dX11_cells_11 : decode cX11_cells 11 = .ok (.iload_n 2, 1) := by decide +kernel
theorem dX11_cells_12 : decode cX11_cells 12 = .ok (.invokestatic 123, 3) := by decide +kernel
theorem dX11_cells_15 : decode cX11_cells 15 = .ok (.ifCond .eq 11, 3) := by decide +kernel
theorem dX11_cells_18 : decode cX11_cells 18 = .ok (.iload_n 1, 1) := by decide +kernel
theorem dX11_cells_19 : decode cX11_cells 19 = .ok (.iload_n 2, 1) := by decide +kernel
theorem dX11_cells_20 : decode cX11_cells 20 = .ok (.invokestatic 126, 3) := by decide +kernel
theorem dX11_cells_23 : decode cX11_cells 23 = .ok (.goto 6, 3) := by decide +kernel
theorem dX11_cells_26 : decode cX11_cells 26 = .ok (.sipush (-1002), 3) := by decide +kernel
theorem dX11_cells_29 : decode cX11_cells 29 = .ok (.ireturn, 1) := by decide +kernel
theorem dX11_greater_0 : decode cX11_greater 0 = .ok (.iload_n 1, 1) := by decide +kernel
theorem dX11_greater_1 : decode cX11_greater 1 = .ok (.invokestatic 130, 3) := by decide +kernel
theorem dX11_greater_4 : decode cX11_greater 4 = .ok (.ifCond .eq 14, 3) := by decide +kernel
theorem dX11_greater_7 : decode cX11_greater 7 = .ok (.aload_n 0, 1) := by decide +kernel
theorem dX11_greater_8 : decode cX11_greater 8 = .ok (.getfield 10, 3) := by decide +kernel
theorem dX11_greater_11 : decode cX11_greater 11 = .ok (.iload_n 1, 1) := by decide +kernel
theorem dX11_greater_12 : decode cX11_greater 12 = .ok (.invokevirtual 133, 3) := by decide +kernel
theorem dX11_greater_15 : decode cX11_greater 15 = .ok (.goto 6, 3) := by decide +kernel
theorem dX11_greater_18 : decode cX11_greater 18 = .ok (.sipush (-1002), 3) := by decide +kernel
theorem dX11_greater_21 : decode cX11_greater 21 = .ok (.ireturn, 1) := by decide +kernel
theorem dX11_shake_0 : decode cX11_shake 0 = .ok (.iload_n 2, 1) := by decide +kernel
theorem dX11_shake_1 : decode cX11_shake 1 = .ok (.invokestatic 120, 3) := by decide +kernel
theorem dX11_shake_4 : decode cX11_shake 4 = .ok (.ifCond .ne 7, 3) := by decide +kernel
theorem dX11_shake_7 : decode cX11_shake 7 = .ok (.sipush (-1001), 3) := by decide +kernel
theorem dX11_shake_10 : decode cX11_shake 10 = .ok (.ireturn, 1) := by decide +kernel
theorem dX11_shake_11 : decode cX11_shake 11 = .ok (.iload_n 1, 1) := by decide +kernel
theorem dX11_shake_12 : decode cX11_shake 12 = .ok (.invokestatic 136, 3) := by decide +kernel
theorem dX11_shake_15 : decode cX11_shake 15 = .ok (.ifCond .eq 10, 3) := by decide +kernel
theorem dX11_shake_18 : decode cX11_shake 18 = .ok (.iload_n 3, 1) := by decide +kernel
theorem dX11_shake_19 : decode cX11_shake 19 = .ok (.invokestatic 130, 3) := by decide +kernel
theorem dX11_shake_22 : decode cX11_shake 22 = .ok (.ifCond .ne 7, 3) := by decide +kernel
theorem dX11_shake_25 : decode cX11_shake 25 = .ok (.sipush (-1002), 3) := by decide +kernel
theorem dX11_shake_28 : decode cX11_shake 28 = .ok (.ireturn, 1) := by decide +kernel
theorem dX11_shake_29 : decode cX11_shake 29 = .ok (.aload_n 0, 1) := by decide +kernel
theorem dX11_shake_30 : decode cX11_shake 30 = .ok (.getfield 26, 3) := by decide +kernel
theorem dX11_shake_33 : decode cX11_shake 33 = .ok (.invokevirtual 139, 3) := by decide +kernel
theorem dX11_shake_36 : decode cX11_shake 36 = .ok (.iload_n 1, 1) := by decide +kernel
theorem dX11_shake_37 : decode cX11_shake 37 = .ok (.if_icmp .le 7, 3) := by decide +kernel
theorem dX11_shake_40 : decode cX11_shake 40 = .ok (.sipush (-1003), 3) := by decide +kernel
theorem dX11_shake_43 : decode cX11_shake 43 = .ok (.ireturn, 1) := by decide +kernel
theorem dX11_shake_44 : decode cX11_shake 44 = .ok (.aload_n 0, 1) := by decide +kernel
theorem dX11_shake_45 : decode cX11_shake 45 = .ok (.getfield 26, 3) := by decide +kernel
theorem dX11_shake_48 : decode cX11_shake 48 = .ok (.invokevirtual 142, 3) := by decide +kernel
theorem dX11_shake_51 : decode cX11_shake 51 = .ok (.ifCond .eq 7, 3) := by decide +kernel
theorem dX11_shake_54 : decode cX11_shake 54 = .ok (.sipush (-1004), 3) := by decide +kernel
theorem dX11_shake_57 : decode cX11_shake 57 = .ok (.ireturn, 1) := by decide +kernel
theorem dX11_shake_58 : decode cX11_shake 58 = .ok (.aload_n 0, 1) := by decide +kernel
theorem dX11_shake_59 : decode cX11_shake 59 = .ok (.getfield 26, 3) := by decide +kernel
theorem dX11_shake_62 : decode cX11_shake 62 = .ok (.iload_n 1, 1) := by decide +kernel
theorem dX11_shake_63 : decode cX11_shake 63 = .ok (.iload_n 2, 1) := by decide +kernel
theorem dX11_shake_64 : decode cX11_shake 64 = .ok (.iload_n 3, 1) := by decide +kernel
theorem dX11_shake_65 : decode cX11_shake 65 = .ok (.invokevirtual 146, 3) := by decide +kernel
theorem dX11_shake_68 : decode cX11_shake 68 = .ok (.ireturn, 1) := by decide +kernel
theorem dX11_seed_0 : decode cX11_seed 0 = .ok (.iload_n 1, 1) := by decide +kernel
theorem dX11_seed_1 : decode cX11_seed 1 = .ok (.ifCond .ge 9, 3) := by decide +kernel
theorem dX11_seed_4 : decode cX11_seed 4 = .ok (.sipush (-1002), 3) := by decide +kernel
theorem dX11_seed_7 : decode cX11_seed 7 = .ok (.goto 11, 3) := by decide +kernel
theorem dX11_seed_10 : decode cX11_seed 10 = .ok (.aload_n 0, 1) := by decide +kernel
theorem dX11_seed_11 : decode cX11_seed 11 = .ok (.getfield 26, 3) := by decide +kernel
theorem dX11_seed_14 : decode cX11_seed 14 = .ok (.iload_n 1, 1) := by decide +kernel
theorem dX11_seed_15 : decode cX11_seed 15 = .ok (.invokevirtual 150, 3) := by decide +kernel
theorem dX11_seed_18 : decode cX11_seed 18 = .ok (.ireturn, 1) := by decide +kernel
theorem dX11_run_0 : decode cX11_run 0 = .ok (.iload_n 1, 1) := by decide +kernel
theorem dX11_run_1 : decode cX11_run 1 = .ok (.iconst 1, 1) := by decide +kernel
theorem dX11_run_2 : decode cX11_run 2 = .ok (.sipush 399, 3) := by decide +kernel
theorem dX11_run_5 : decode cX11_run 5 = .ok (.invokestatic 96, 3) := by decide +kernel
theorem dX11_run_8 : decode cX11_run 8 = .ok (.ifCond .ne 7, 3) := by decide +kernel
theorem dX11_run_11 : decode cX11_run 11 = .ok (.sipush (-1002), 3) := by decide +kernel
theorem dX11_run_14 : decode cX11_run 14 = .ok (.ireturn, 1) := by decide +kernel
theorem dX11_run_15 : decode cX11_run 15 = .ok (.aload_n 0, 1) := by decide +kernel
theorem dX11_run_16 : decode cX11_run 16 = .ok (.getfield 26, 3) := by decide +kernel
theorem dX11_run_19 : decode cX11_run 19 = .ok (.invokevirtual 142, 3) := by decide +kernel
theorem dX11_run_22 : decode cX11_run 22 = .ok (.ifCond .eq 9, 3) := by decide +kernel
theorem dX11_run_25 : decode cX11_run 25 = .ok (.sipush (-1004), 3) := by decide +kernel
theorem dX11_run_28 : decode cX11_run 28 = .ok (.goto 15, 3) := by decide +kernel
theorem dX11_run_31 : decode cX11_run 31 = .ok (.aload_n 0, 1) := by decide +kernel
theorem dX11_run_32 : decode cX11_run 32 = .ok (.getfield 26, 3) := by decide +kernel
theorem dX11_run_35 : decode cX11_run 35 = .ok (.iload_n 1, 1) := by decide +kernel
theorem dX11_run_36 : decode cX11_run 36 = .ok (.aload_n 0, 1) := by decide +kernel
theorem dX11_run_37 : decode cX11_run 37 = .ok (.getfield 10, 3) := by decide +kernel
theorem dX11_run_40 : decode cX11_run 40 = .ok (.invokevirtual 153, 3) := by decide +kernel
theorem dX11_run_43 : decode cX11_run 43 = .ok (.ireturn, 1) := by decide +kernel
theorem dX11_about_0 : decode cX11_about 0 = .ok (.aload_n 0, 1) := by decide +kernel
theorem dX11_about_1 : decode cX11_about 1 = .ok (.getfield 26, 3) := by decide +kernel
theorem dX11_about_4 : decode cX11_about 4 = .ok (.iload_n 1, 1) := by decide +kernel
theorem dX11_about_5 : decode cX11_about 5 = .ok (.invokevirtual 157, 3) := by decide +kernel
theorem dX11_about_8 : decode cX11_about 8 = .ok (.ifCond .ne 7, 3) := by decide +kernel
theorem dX11_about_11 : decode cX11_about 11 = .ok (.sipush (-1001), 3) := by decide +kernel
theorem dX11_about_14 : decode cX11_about 14 = .ok (.ireturn, 1) := by decide +kernel
theorem dX11_about_15 : decode cX11_about 15 = .ok (.iload_n 2, 1) := by decide +kernel
theorem dX11_about_16 : decode cX11_about 16 = .ok (.tableswitch 55 0 2 #[28, 37, 46], 28) := by decide +kernel
theorem dX11_about_44 : decode cX11_about 44 = .ok (.aload_n 0, 1) := by decide +kernel
theorem dX11_about_45 : decode cX11_about 45 = .ok (.getfield 26, 3) := by decide +kernel
theorem dX11_about_48 : decode cX11_about 48 = .ok (.iload_n 1, 1) := by decide +kernel
theorem dX11_about_49 : decode cX11_about 49 = .ok (.invokevirtual 160, 3) := by decide +kernel
theorem dX11_about_52 : decode cX11_about 52 = .ok (.ireturn, 1) := by decide +kernel
theorem dX11_about_53 : decode cX11_about 53 = .ok (.aload_n 0, 1) := by decide +kernel
theorem dX11_about_54 : decode cX11_about 54 = .ok (.getfield 26, 3) := by decide +kernel
theorem dX11_about_57 : decode cX11_about 57 = .ok (.iload_n 1, 1) := by decide +kernel
theorem dX11_about_58 : decode cX11_about 58 = .ok (.invokevirtual 163, 3) := by decide +kernel
theorem dX11_about_61 : decode cX11_about 61 = .ok (.ireturn, 1) := by decide +kernel
theorem dX11_about_62 : decode cX11_about 62 = .ok (.aload_n 0, 1) := by decide +kernel
theorem dX11_about_63 : decode cX11_about 63 = .ok (.getfield 26, 3) := by decide +kernel
theorem dX11_about_66 : decode cX11_about 66 = .ok (.iload_n 1, 1) := by decide +kernel
theorem dX11_about_67 : decode cX11_about 67 = .ok (.invokevirtual 166, 3) := by decide +kernel
theorem dX11_about_70 : decode cX11_about 70 = .ok (.ireturn, 1) := by decide +kernel
theorem dX11_about_71 : decode cX11_about 71 = .ok (.sipush (-1002), 3) := by decide +kernel
theorem dX11_about_74 : decode cX11_about 74 = .ok (.ireturn, 1) := by decide +kernel
theorem dX11_count_0 : decode cX11_count 0 = .ok (.iload_n 1, 1) := by decide +kernel
theorem dX11_count_1 : decode cX11_count 1 = .ok (.tableswitch 99 0 6 #[43, 51, 59, 67, 75, 83, 91], 43) := by decide +kernel
theorem dX11_count_44 : decode cX11_count 44 = .ok (.aload_n 0, 1) := by decide +kernel
theorem dX11_count_45 : decode cX11_count 45 = .ok (.getfield 26, 3) := by decide +kernel
theorem dX11_count_48 : decode cX11_count 48 = .ok (.invokevirtual 169, 3) := by decide +kernel
theorem dX11_count_51 : decode cX11_count 51 = .ok (.ireturn, 1) := by decide +kernel
theorem dX11_count_52 : decode cX11_count 52 = .ok (.aload_n 0, 1) := by decide +kernel
theorem dX11_count_53 : decode cX11_count 53 = .ok (.getfield 51, 3) := by decide +kernel
theorem dX11_count_56 : decode cX11_count 56 = .ok (.invokevirtual 172, 3) := by decide +kernel
theorem dX11_count_59 : decode cX11_count 59 = .ok (.ireturn, 1) := by decide +kernel
theorem dX11_count_60 : decode cX11_count 60 = .ok (.aload_n 0, 1) := by decide +kernel
theorem dX11_count_61 : decode cX11_count 61 = .ok (.getfield 69, 3) := by decide +kernel
theorem dX11_count_64 : decode cX11_count 64 = .ok (.invokevirtual 173, 3) := by decide +kernel
theorem dX11_count_67 : decode cX11_count 67 = .ok (.ireturn, 1) := by decide +kernel
theorem dX11_count_68 : decode cX11_count 68 = .ok (.aload_n 0, 1) := by decide +kernel
theorem dX11_count_69 : decode cX11_count 69 = .ok (.getfield 92, 3) := by decide +kernel
theorem dX11_count_72 : decode cX11_count 72 = .ok (.invokevirtual 174, 3) := by decide +kernel
theorem dX11_count_75 : decode cX11_count 75 = .ok (.ireturn, 1) := by decide +kernel
theorem dX11_count_76 : decode cX11_count 76 = .ok (.aload_n 0, 1) := by decide +kernel
theorem dX11_count_77 : decode cX11_count 77 = .ok (.getfield 26, 3) := by decide +kernel
theorem dX11_count_80 : decode cX11_count 80 = .ok (.invokevirtual 139, 3) := by decide +kernel
theorem dX11_count_83 : decode cX11_count 83 = .ok (.ireturn, 1) := by decide +kernel
theorem dX11_count_84 : decode cX11_count 84 = .ok (.aload_n 0, 1) := by decide +kernel
theorem dX11_count_85 : decode cX11_count 85 = .ok (.getfield 19, 3) := by decide +kernel
theorem dX11_count_88 : decode cX11_count 88 = .ok (.invokevirtual 175, 3) := by decide +kernel
theorem dX11_count_91 : decode cX11_count 91 = .ok (.ireturn, 1) := by decide +kernel
theorem dX11_count_92 : decode cX11_count 92 = .ok (.aload_n 0, 1) := by decide +kernel
theorem dX11_count_93 : decode cX11_count 93 = .ok (.getfield 51, 3) := by decide +kernel
theorem dX11_count_96 : decode cX11_count 96 = .ok (.invokevirtual 176, 3) := by decide +kernel
theorem dX11_count_99 : decode cX11_count 99 = .ok (.ireturn, 1) := by decide +kernel
theorem dX11_count_100 : decode cX11_count 100 = .ok (.sipush (-1002), 3) := by decide +kernel
theorem dX11_count_103 : decode cX11_count 103 = .ok (.ireturn, 1) := by decide +kernel
theorem dX11_odds_0 : decode cX11_odds 0 = .ok (.iload_n 2, 1) := by decide +kernel
theorem dX11_odds_1 : decode cX11_odds 1 = .ok (.invokestatic 120, 3) := by decide +kernel
theorem dX11_odds_4 : decode cX11_odds 4 = .ok (.ifCond .ne 7, 3) := by decide +kernel
theorem dX11_odds_7 : decode cX11_odds 7 = .ok (.sipush (-1001), 3) := by decide +kernel
theorem dX11_odds_10 : decode cX11_odds 10 = .ok (.ireturn, 1) := by decide +kernel
theorem dX11_odds_11 : decode cX11_odds 11 = .ok (.iload_n 3, 1) := by decide +kernel
theorem dX11_odds_12 : decode cX11_odds 12 = .ok (.invokestatic 123, 3) := by decide +kernel
theorem dX11_odds_15 : decode cX11_odds 15 = .ok (.ifCond .eq 22, 3) := by decide +kernel
theorem dX11_odds_18 : decode cX11_odds 18 = .ok (.iload 4, 2) := by decide +kernel
theorem dX11_odds_20 : decode cX11_odds 20 = .ok (.invokestatic 130, 3) := by decide +kernel
theorem dX11_odds_23 : decode cX11_odds 23 = .ok (.ifCond .eq 14, 3) := by decide +kernel
theorem dX11_odds_26 : decode cX11_odds 26 = .ok (.iload_n 1, 1) := by decide +kernel
theorem dX11_odds_27 : decode cX11_odds 27 = .ok (.iload 5, 2) := by decide +kernel
theorem dX11_odds_29 : decode cX11_odds 29 = .ok (.iload 6, 2) := by decide +kernel
theorem dX11_odds_31 : decode cX11_odds 31 = .ok (.invokestatic 179, 3) := by decide +kernel
theorem dX11_odds_34 : decode cX11_odds 34 = .ok (.ifCond .ne 7, 3) := by decide +kernel
theorem dX11_odds_37 : decode cX11_odds 37 = .ok (.sipush (-1002), 3) := by decide +kernel
theorem dX11_odds_40 : decode cX11_odds 40 = .ok (.ireturn, 1) := by decide +kernel
theorem dX11_odds_41 : decode cX11_odds 41 = .ok (.aload_n 0, 1) := by decide +kernel
theorem dX11_odds_42 : decode cX11_odds 42 = .ok (.getfield 42, 3) := by decide +kernel
theorem dX11_odds_45 : decode cX11_odds 45 = .ok (.iload_n 1, 1) := by decide +kernel
theorem dX11_odds_46 : decode cX11_odds 46 = .ok (.iload_n 2, 1) := by decide +kernel
theorem dX11_odds_47 : decode cX11_odds 47 = .ok (.iload_n 3, 1) := by decide +kernel
theorem dX11_odds_48 : decode cX11_odds 48 = .ok (.iload 4, 2) := by decide +kernel
theorem dX11_odds_50 : decode cX11_odds 50 = .ok (.iload 5, 2) := by decide +kernel
theorem dX11_odds_52 : decode cX11_odds 52 = .ok (.iload 6, 2) := by decide +kernel
theorem dX11_odds_54 : decode cX11_odds 54 = .ok (.invokevirtual 182, 3) := by decide +kernel
theorem dX11_odds_57 : decode cX11_odds 57 = .ok (.ireturn, 1) := by decide +kernel
theorem dX11_watch_0 : decode cX11_watch 0 = .ok (.iload_n 1, 1) := by decide +kernel
theorem dX11_watch_1 : decode cX11_watch 1 = .ok (.invokestatic 186, 3) := by decide +kernel
theorem dX11_watch_4 : decode cX11_watch 4 = .ok (.ifCond .eq 10, 3) := by decide +kernel
theorem dX11_watch_7 : decode cX11_watch 7 = .ok (.iload_n 2, 1) := by decide +kernel
theorem dX11_watch_8 : decode cX11_watch 8 = .ok (.invokestatic 120, 3) := by decide +kernel
theorem dX11_watch_11 : decode cX11_watch 11 = .ok (.ifCond .ne 7, 3) := by decide +kernel
theorem dX11_watch_14 : decode cX11_watch 14 = .ok (.sipush (-1001), 3) := by decide +kernel
theorem dX11_watch_17 : decode cX11_watch 17 = .ok (.ireturn, 1) := by decide +kernel
theorem dX11_watch_18 : decode cX11_watch 18 = .ok (.iload_n 3, 1) := by decide +kernel
theorem dX11_watch_19 : decode cX11_watch 19 = .ok (.iconst (-1), 1) := by decide +kernel
theorem dX11_watch_20 : decode cX11_watch 20 = .ok (.if_icmp .eq 16, 3) := by decide +kernel
theorem dX11_watch_23 : decode cX11_watch 23 = .ok (.iload_n 3, 1) := by decide +kernel
theorem dX11_watch_24 : decode cX11_watch 24 = .ok (.iload 4, 2) := by decide +kernel
theorem dX11_watch_26 : decode cX11_watch 26 = .ok (.invokestatic 189, 3) := by decide +kernel
theorem dX11_watch_29 : decode cX11_watch 29 = .ok (.ifCond .ne 7, 3) := by decide +kernel
theorem dX11_watch_32 : decode cX11_watch 32 = .ok (.sipush (-1002), 3) := by decide +kernel
theorem dX11_watch_35 : decode cX11_watch 35 = .ok (.ireturn, 1) := by decide +kernel
theorem dX11_watch_36 : decode cX11_watch 36 = .ok (.aload_n 0, 1) := by decide +kernel
theorem dX11_watch_37 : decode cX11_watch 37 = .ok (.getfield 51, 3) := by decide +kernel
theorem dX11_watch_40 : decode cX11_watch 40 = .ok (.iload_n 1, 1) := by decide +kernel
theorem dX11_watch_41 : decode cX11_watch 41 = .ok (.iload_n 2, 1) := by decide +kernel
theorem dX11_watch_42 : decode cX11_watch 42 = .ok (.iload_n 3, 1) := by decide +kernel
theorem dX11_watch_43 : decode cX11_watch 43 = .ok (.iload 4, 2) := by decide +kernel
theorem dX11_watch_45 : decode cX11_watch 45 = .ok (.invokevirtual 193, 3) := by decide +kernel
theorem dX11_watch_48 : decode cX11_watch 48 = .ok (.ireturn, 1) := by decide +kernel
theorem dX11_rain_0 : decode cX11_rain 0 = .ok (.iload_n 1, 1) := by decide +kernel
theorem dX11_rain_1 : decode cX11_rain 1 = .ok (.invokestatic 136, 3) := by decide +kernel
theorem dX11_rain_4 : decode cX11_rain 4 = .ok (.ifCond .eq 15, 3) := by decide +kernel
theorem dX11_rain_7 : decode cX11_rain 7 = .ok (.aload_n 0, 1) := by decide +kernel
theorem dX11_rain_8 : decode cX11_rain 8 = .ok (.getfield 51, 3) := by decide +kernel
theorem dX11_rain_11 : decode cX11_rain 11 = .ok (.iload_n 1, 1) := by decide +kernel
theorem dX11_rain_12 : decode cX11_rain 12 = .ok (.iload_n 2, 1) := by decide +kernel
theorem dX11_rain_13 : decode cX11_rain 13 = .ok (.invokevirtual 197, 3) := by decide +kernel
theorem dX11_rain_16 : decode cX11_rain 16 = .ok (.goto 6, 3) := by decide +kernel
theorem dX11_rain_19 : decode cX11_rain 19 = .ok (.sipush (-1002), 3) := by decide +kernel
theorem dX11_rain_22 : decode cX11_rain 22 = .ok (.ireturn, 1) := by decide +kernel
theorem dX11_sign_0 : decode cX11_sign 0 = .ok (.iload_n 1, 1) := by decide +kernel
theorem dX11_sign_1 : decode cX11_sign 1 = .ok (.invokestatic 186, 3) := by decide +kernel
theorem dX11_sign_4 : decode cX11_sign 4 = .ok (.ifCond .eq 10, 3) := by decide +kernel
theorem dX11_sign_7 : decode cX11_sign 7 = .ok (.iload_n 3, 1) := by decide +kernel
theorem dX11_sign_8 : decode cX11_sign 8 = .ok (.invokestatic 120, 3) := by decide +kernel
theorem dX11_sign_11 : decode cX11_sign 11 = .ok (.ifCond .ne 7, 3) := by decide +kernel
theorem dX11_sign_14 : decode cX11_sign 14 = .ok (.sipush (-1001), 3) := by decide +kernel
theorem dX11_sign_17 : decode cX11_sign 17 = .ok (.ireturn, 1) := by decide +kernel
theorem dX11_sign_18 : decode cX11_sign 18 = .ok (.iload_n 2, 1) := by decide +kernel
theorem dX11_sign_19 : decode cX11_sign 19 = .ok (.iload 4, 2) := by decide +kernel
theorem dX11_sign_21 : decode cX11_sign 21 = .ok (.invokestatic 189, 3) := by decide +kernel
theorem dX11_sign_24 : decode cX11_sign 24 = .ok (.ifCond .ne 7, 3) := by decide +kernel
theorem dX11_sign_27 : decode cX11_sign 27 = .ok (.sipush (-1002), 3) := by decide +kernel
theorem dX11_sign_30 : decode cX11_sign 30 = .ok (.ireturn, 1) := by decide +kernel
theorem dX11_sign_31 : decode cX11_sign 31 = .ok (.aload_n 0, 1) := by decide +kernel
theorem dX11_sign_32 : decode cX11_sign 32 = .ok (.getfield 51, 3) := by decide +kernel
theorem dX11_sign_35 : decode cX11_sign 35 = .ok (.invokevirtual 201, 3) := by decide +kernel
theorem dX11_sign_38 : decode cX11_sign 38 = .ok (.ifCond .eq 9, 3) := by decide +kernel
theorem dX11_sign_41 : decode cX11_sign 41 = .ok (.sipush (-1004), 3) := by decide +kernel
theorem dX11_sign_44 : decode cX11_sign 44 = .ok (.goto 15, 3) := by decide +kernel
theorem dX11_sign_47 : decode cX11_sign 47 = .ok (.aload_n 0, 1) := by decide +kernel
theorem dX11_sign_48 : decode cX11_sign 48 = .ok (.getfield 51, 3) := by decide +kernel
theorem dX11_sign_51 : decode cX11_sign 51 = .ok (.iload_n 1, 1) := by decide +kernel
theorem dX11_sign_52 : decode cX11_sign 52 = .ok (.iload_n 2, 1) := by decide +kernel
theorem dX11_sign_53 : decode cX11_sign 53 = .ok (.iload_n 3, 1) := by decide +kernel
theorem dX11_sign_54 : decode cX11_sign 54 = .ok (.iload 4, 2) := by decide +kernel
theorem dX11_sign_56 : decode cX11_sign 56 = .ok (.invokevirtual 202, 3) := by decide +kernel
theorem dX11_sign_59 : decode cX11_sign 59 = .ok (.ireturn, 1) := by decide +kernel
theorem dX11_omen_0 : decode cX11_omen 0 = .ok (.aload_n 0, 1) := by decide +kernel
theorem dX11_omen_1 : decode cX11_omen 1 = .ok (.getfield 51, 3) := by decide +kernel
theorem dX11_omen_4 : decode cX11_omen 4 = .ok (.iload_n 1, 1) := by decide +kernel
theorem dX11_omen_5 : decode cX11_omen 5 = .ok (.invokevirtual 204, 3) := by decide +kernel
theorem dX11_omen_8 : decode cX11_omen 8 = .ok (.ifCond .ne 7, 3) := by decide +kernel
theorem dX11_omen_11 : decode cX11_omen 11 = .ok (.sipush (-1001), 3) := by decide +kernel
theorem dX11_omen_14 : decode cX11_omen 14 = .ok (.ireturn, 1) := by decide +kernel
theorem dX11_omen_15 : decode cX11_omen 15 = .ok (.iload_n 2, 1) := by decide +kernel
theorem dX11_omen_16 : decode cX11_omen 16 = .ok (.tableswitch 102 0 5 #[40, 49, 58, 67, 76, 85], 40) := by decide +kernel
theorem dX11_omen_56 : decode cX11_omen 56 = .ok (.aload_n 0, 1) := by decide +kernel
theorem dX11_omen_57 : decode cX11_omen 57 = .ok (.getfield 51, 3) := by decide +kernel
theorem dX11_omen_60 : decode cX11_omen 60 = .ok (.iload_n 1, 1) := by decide +kernel
theorem dX11_omen_61 : decode cX11_omen 61 = .ok (.invokevirtual 205, 3) := by decide +kernel
theorem dX11_omen_64 : decode cX11_omen 64 = .ok (.ireturn, 1) := by decide +kernel
theorem dX11_omen_65 : decode cX11_omen 65 = .ok (.aload_n 0, 1) := by decide +kernel
theorem dX11_omen_66 : decode cX11_omen 66 = .ok (.getfield 51, 3) := by decide +kernel
theorem dX11_omen_69 : decode cX11_omen 69 = .ok (.iload_n 1, 1) := by decide +kernel
theorem dX11_omen_70 : decode cX11_omen 70 = .ok (.invokevirtual 208, 3) := by decide +kernel
theorem dX11_omen_73 : decode cX11_omen 73 = .ok (.ireturn, 1) := by decide +kernel
theorem dX11_omen_74 : decode cX11_omen 74 = .ok (.aload_n 0, 1) := by decide +kernel
theorem dX11_omen_75 : decode cX11_omen 75 = .ok (.getfield 51, 3) := by decide +kernel
theorem dX11_omen_78 : decode cX11_omen 78 = .ok (.iload_n 1, 1) := by decide +kernel
theorem dX11_omen_79 : decode cX11_omen 79 = .ok (.invokevirtual 209, 3) := by decide +kernel
theorem dX11_omen_82 : decode cX11_omen 82 = .ok (.ireturn, 1) := by decide +kernel
theorem dX11_omen_83 : decode cX11_omen 83 = .ok (.aload_n 0, 1) := by decide +kernel
theorem dX11_omen_84 : decode cX11_omen 84 = .ok (.getfield 51, 3) := by decide +kernel
theorem dX11_omen_87 : decode cX11_omen 87 = .ok (.iload_n 1, 1) := by decide +kernel
theorem dX11_omen_88 : decode cX11_omen 88 = .ok (.invokevirtual 210, 3) := by decide +kernel
theorem dX11_omen_91 : decode cX11_omen 91 = .ok (.ireturn, 1) := by decide +kernel
theorem dX11_omen_92 : decode cX11_omen 92 = .ok (.aload_n 0, 1) := by decide +kernel
theorem dX11_omen_93 : decode cX11_omen 93 = .ok (.getfield 51, 3) := by decide +kernel
theorem dX11_omen_96 : decode cX11_omen 96 = .ok (.iload_n 1, 1) := by decide +kernel
theorem dX11_omen_97 : decode cX11_omen 97 = .ok (.invokevirtual 213, 3) := by decide +kernel
theorem dX11_omen_100 : decode cX11_omen 100 = .ok (.ireturn, 1) := by decide +kernel
theorem dX11_omen_101 : decode cX11_omen 101 = .ok (.aload_n 0, 1) := by decide +kernel
theorem dX11_omen_102 : decode cX11_omen 102 = .ok (.getfield 51, 3) := by decide +kernel
theorem dX11_omen_105 : decode cX11_omen 105 = .ok (.iload_n 1, 1) := by decide +kernel
theorem dX11_omen_106 : decode cX11_omen 106 = .ok (.invokevirtual 216, 3) := by decide +kernel
theorem dX11_omen_109 : decode cX11_omen 109 = .ok (.ifCond .eq 7, 3) := by decide +kernel
theorem dX11_omen_112 : decode cX11_omen 112 = .ok (.iconst 1, 1) := by decide +kernel
theorem dX11_omen_113 : decode cX11_omen 113 = .ok (.goto 4, 3) := by decide +kernel
theorem dX11_omen_116 : decode cX11_omen 116 = .ok (.iconst 0, 1) := by decide +kernel
theorem dX11_omen_117 : decode cX11_omen 117 = .ok (.ireturn, 1) := by decide +kernel
theorem dX11_omen_118 : decode cX11_omen 118 = .ok (.sipush (-1002), 3) := by decide +kernel
theorem dX11_omen_121 : decode cX11_omen 121 = .ok (.ireturn, 1) := by decide +kernel
theorem dX11_rate_0 : decode cX11_rate 0 = .ok (.iload_n 1, 1) := by decide +kernel
theorem dX11_rate_1 : decode cX11_rate 1 = .ok (.invokestatic 186, 3) := by decide +kernel
theorem dX11_rate_4 : decode cX11_rate 4 = .ok (.ifCond .ne 7, 3) := by decide +kernel
theorem dX11_rate_7 : decode cX11_rate 7 = .ok (.sipush (-1001), 3) := by decide +kernel
theorem dX11_rate_10 : decode cX11_rate 10 = .ok (.ireturn, 1) := by decide +kernel
theorem dX11_rate_11 : decode cX11_rate 11 = .ok (.iload_n 2, 1) := by decide +kernel
theorem dX11_rate_12 : decode cX11_rate 12 = .ok (.iconst 0, 1) := by decide +kernel
theorem dX11_rate_13 : decode cX11_rate 13 = .ok (.iconst 2, 1) := by decide +kernel
theorem dX11_rate_14 : decode cX11_rate 14 = .ok (.invokestatic 96, 3) := by decide +kernel
theorem dX11_rate_17 : decode cX11_rate 17 = .ok (.ifCond .ne 7, 3) := by decide +kernel
theorem dX11_rate_20 : decode cX11_rate 20 = .ok (.sipush (-1002), 3) := by decide +kernel
theorem dX11_rate_23 : decode cX11_rate 23 = .ok (.ireturn, 1) := by decide +kernel
theorem dX11_rate_24 : decode cX11_rate 24 = .ok (.iload_n 2, 1) := by decide +kernel
theorem dX11_rate_25 : decode cX11_rate 25 = .ok (.iconst 2, 1) := by decide +kernel
theorem dX11_rate_26 : decode cX11_rate 26 = .ok (.if_icmp .ne 12, 3) := by decide +kernel
theorem dX11_rate_29 : decode cX11_rate 29 = .ok (.aload_n 0, 1) := by decide +kernel
theorem dX11_rate_30 : decode cX11_rate 30 = .ok (.getfield 51, 3) := by decide +kernel
theorem dX11_rate_33 : decode cX11_rate 33 = .ok (.iload_n 1, 1) := by decide +kernel
theorem dX11_rate_34 : decode cX11_rate 34 = .ok (.invokevirtual 219, 3) := by decide +kernel
theorem dX11_rate_37 : decode cX11_rate 37 = .ok (.ireturn, 1) := by decide +kernel
theorem dX11_rate_38 : decode cX11_rate 38 = .ok (.iload_n 2, 1) := by decide +kernel
theorem dX11_rate_39 : decode cX11_rate 39 = .ok (.ifCond .ne 18, 3) := by decide +kernel
theorem dX11_rate_42 : decode cX11_rate 42 = .ok (.aload_n 0, 1) := by decide +kernel
theorem dX11_rate_43 : decode cX11_rate 43 = .ok (.getfield 51, 3) := by decide +kernel
theorem dX11_rate_46 : decode cX11_rate 46 = .ok (.iload_n 1, 1) := by decide +kernel
theorem dX11_rate_47 : decode cX11_rate 47 = .ok (.invokevirtual 222, 3) := by decide +kernel
theorem dX11_rate_50 : decode cX11_rate 50 = .ok (.ifCond .ne 7, 3) := by decide +kernel
theorem dX11_rate_53 : decode cX11_rate 53 = .ok (.sipush (-1003), 3) := by decide +kernel
theorem dX11_rate_56 : decode cX11_rate 56 = .ok (.ireturn, 1) := by decide +kernel
theorem dX11_rate_57 : decode cX11_rate 57 = .ok (.aload_n 0, 1) := by decide +kernel
theorem dX11_rate_58 : decode cX11_rate 58 = .ok (.getfield 51, 3) := by decide +kernel
theorem dX11_rate_61 : decode cX11_rate 61 = .ok (.invokevirtual 225, 3) := by decide +kernel
theorem dX11_rate_64 : decode cX11_rate 64 = .ok (.iload_n 2, 1) := by decide +kernel
theorem dX11_rate_65 : decode cX11_rate 65 = .ok (.ifCond .ne 14, 3) := by decide +kernel
theorem dX11_rate_68 : decode cX11_rate 68 = .ok (.aload_n 0, 1) := by decide +kernel
theorem dX11_rate_69 : decode cX11_rate 69 = .ok (.getfield 51, 3) := by decide +kernel
theorem dX11_rate_72 : decode cX11_rate 72 = .ok (.iload_n 1, 1) := by decide +kernel
theorem dX11_rate_73 : decode cX11_rate 73 = .ok (.invokevirtual 228, 3) := by decide +kernel
theorem dX11_rate_76 : decode cX11_rate 76 = .ok (.goto 11, 3) := by decide +kernel
theorem dX11_rate_79 : decode cX11_rate 79 = .ok (.aload_n 0, 1) := by decide +kernel
theorem dX11_rate_80 : decode cX11_rate 80 = .ok (.getfield 51, 3) := by decide +kernel
theorem dX11_rate_83 : decode cX11_rate 83 = .ok (.iload_n 1, 1) := by decide +kernel
theorem dX11_rate_84 : decode cX11_rate 84 = .ok (.invokevirtual 231, 3) := by decide +kernel
theorem dX11_rate_87 : decode cX11_rate 87 = .ok (.ireturn, 1) := by decide +kernel
theorem dX11_window_0 : decode cX11_window 0 = .ok (.aload_n 0, 1) := by decide +kernel
theorem dX11_window_1 : decode cX11_window 1 = .ok (.getfield 26, 3) := by decide +kernel
theorem dX11_window_4 : decode cX11_window 4 = .ok (.iload_n 1, 1) := by decide +kernel
theorem dX11_window_5 : decode cX11_window 5 = .ok (.invokevirtual 157, 3) := by decide +kernel
theorem dX11_window_8 : decode cX11_window 8 = .ok (.ifCond .ne 7, 3) := by decide +kernel
theorem dX11_window_11 : decode cX11_window 11 = .ok (.sipush (-1001), 3) := by decide +kernel
theorem dX11_window_14 : decode cX11_window 14 = .ok (.ireturn, 1) := by decide +kernel
theorem dX11_window_15 : decode cX11_window 15 = .ok (.iload_n 2, 1) := by decide +kernel
theorem dX11_window_16 : decode cX11_window 16 = .ok (.invokestatic 234, 3) := by decide +kernel
theorem dX11_window_19 : decode cX11_window 19 = .ok (.ifCond .eq 18, 3) := by decide +kernel
theorem dX11_window_22 : decode cX11_window 22 = .ok (.iload_n 3, 1) := by decide +kernel
theorem dX11_window_23 : decode cX11_window 23 = .ok (.invokestatic 123, 3) := by decide +kernel
theorem dX11_window_26 : decode cX11_window 26 = .ok (.ifCond .eq 11, 3) := by decide +kernel
theorem dX11_window_29 : decode cX11_window 29 = .ok (.iload 4, 2) := by decide +kernel
theorem dX11_window_31 : decode cX11_window 31 = .ok (.invokestatic 237, 3) := by decide +kernel
theorem dX11_window_34 : decode cX11_window 34 = .ok (.ifCond .ne 7, 3) := by decide +kernel
theorem dX11_window_37 : decode cX11_window 37 = .ok (.sipush (-1002), 3) := by decide +kernel
theorem dX11_window_40 : decode cX11_window 40 = .ok (.ireturn, 1) := by decide +kernel
theorem dX11_window_41 : decode cX11_window 41 = .ok (.aload_n 0, 1) := by decide +kernel
theorem dX11_window_42 : decode cX11_window 42 = .ok (.getfield 51, 3) := by decide +kernel
theorem dX11_window_45 : decode cX11_window 45 = .ok (.aload_n 0, 1) := by decide +kernel
theorem dX11_window_46 : decode cX11_window 46 = .ok (.getfield 26, 3) := by decide +kernel
theorem dX11_window_49 : decode cX11_window 49 = .ok (.iload_n 1, 1) := by decide +kernel
theorem dX11_window_50 : decode cX11_window 50 = .ok (.invokevirtual 160, 3) := by decide +kernel
theorem dX11_window_53 : decode cX11_window 53 = .ok (.aload_n 0, 1) := by decide +kernel
theorem dX11_window_54 : decode cX11_window 54 = .ok (.getfield 26, 3) := by decide +kernel
theorem dX11_window_57 : decode cX11_window 57 = .ok (.iload_n 1, 1) := by decide +kernel
theorem dX11_window_58 : decode cX11_window 58 = .ok (.invokevirtual 163, 3) := by decide +kernel
theorem dX11_window_61 : decode cX11_window 61 = .ok (.iload_n 2, 1) := by decide +kernel
theorem dX11_window_62 : decode cX11_window 62 = .ok (.iload_n 3, 1) := by decide +kernel
theorem dX11_window_63 : decode cX11_window 63 = .ok (.iload 4, 2) := by decide +kernel
theorem dX11_window_65 : decode cX11_window 65 = .ok (.invokevirtual 240, 3) := by decide +kernel
theorem dX11_window_68 : decode cX11_window 68 = .ok (.ireturn, 1) := by decide +kernel
theorem dX11_chance_0 : decode cX11_chance 0 = .ok (.iload_n 1, 1) := by decide +kernel
theorem dX11_chance_1 : decode cX11_chance 1 = .ok (.invokestatic 234, 3) := by decide +kernel
theorem dX11_chance_4 : decode cX11_chance 4 = .ok (.ifCond .eq 10, 3) := by decide +kernel
theorem dX11_chance_7 : decode cX11_chance 7 = .ok (.iload_n 2, 1) := by decide +kernel
theorem dX11_chance_8 : decode cX11_chance 8 = .ok (.invokestatic 237, 3) := by decide +kernel
theorem dX11_chance_11 : decode cX11_chance 11 = .ok (.ifCond .ne 7, 3) := by decide +kernel
theorem dX11_chance_14 : decode cX11_chance 14 = .ok (.sipush (-1002), 3) := by decide +kernel
theorem dX11_chance_17 : decode cX11_chance 17 = .ok (.ireturn, 1) := by decide +kernel
theorem dX11_chance_18 : decode cX11_chance 18 = .ok (.aload_n 0, 1) := by decide +kernel
theorem dX11_chance_19 : decode cX11_chance 19 = .ok (.getfield 51, 3) := by decide +kernel
theorem dX11_chance_22 : decode cX11_chance 22 = .ok (.iload_n 2, 1) := by decide +kernel
theorem dX11_chance_23 : decode cX11_chance 23 = .ok (.invokevirtual 244, 3) := by decide +kernel
theorem dX11_chance_26 : decode cX11_chance 26 = .ok (.ifCond .eq 15, 3) := by decide +kernel
theorem dX11_chance_29 : decode cX11_chance 29 = .ok (.aload_n 0, 1) := by decide +kernel
theorem dX11_chance_30 : decode cX11_chance 30 = .ok (.getfield 51, 3) := by decide +kernel
theorem dX11_chance_33 : decode cX11_chance 33 = .ok (.iload_n 1, 1) := by decide +kernel
theorem dX11_chance_34 : decode cX11_chance 34 = .ok (.iload_n 2, 1) := by decide +kernel
theorem dX11_chance_35 : decode cX11_chance 35 = .ok (.invokevirtual 247, 3) := by decide +kernel
theorem dX11_chance_38 : decode cX11_chance 38 = .ok (.goto 6, 3) := by decide +kernel
theorem dX11_chance_41 : decode cX11_chance 41 = .ok (.sipush (-1003), 3) := by decide +kernel
theorem dX11_chance_44 : decode cX11_chance 44 = .ok (.ireturn, 1) := by decide +kernel
theorem dX11_table_0 : decode cX11_table 0 = .ok (.iload_n 1, 1) := by decide +kernel
theorem dX11_table_1 : decode cX11_table 1 = .ok (.invokestatic 186, 3) := by decide +kernel
theorem dX11_table_4 : decode cX11_table 4 = .ok (.ifCond .ne 7, 3) := by decide +kernel
theorem dX11_table_7 : decode cX11_table 7 = .ok (.sipush (-1001), 3) := by decide +kernel
theorem dX11_table_10 : decode cX11_table 10 = .ok (.ireturn, 1) := by decide +kernel
theorem dX11_table_11 : decode cX11_table 11 = .ok (.iload_n 2, 1) := by decide +kernel
theorem dX11_table_12 : decode cX11_table 12 = .ok (.invokestatic 234, 3) := by decide +kernel
theorem dX11_table_15 : decode cX11_table 15 = .ok (.ifCond .eq 28, 3) := by decide +kernel
theorem dX11_table_18 : decode cX11_table 18 = .ok (.iload_n 3, 1) := by decide +kernel
theorem dX11_table_19 : decode cX11_table 19 = .ok (.invokestatic 123, 3) := by decide +kernel
theorem dX11_table_22 : decode cX11_table 22 = .ok (.ifCond .eq 21, 3) := by decide +kernel
theorem dX11_table_25 : decode cX11_table 25 = .ok (.iload 4, 2) := by decide +kernel
theorem dX11_table_27 : decode cX11_table 27 = .ok (.invokestatic 130, 3) := by decide +kernel
theorem dX11_table_30 : decode cX11_table 30 = .ok (.ifCond .eq 13, 3) := by decide +kernel
theorem dX11_table_33 : decode cX11_table 33 = .ok (.iload 5, 2) := by decide +kernel
theorem dX11_table_35 : decode cX11_table 35 = .ok (.iconst 0, 1) := by decide +kernel
theorem dX11_table_36 : decode cX11_table 36 = .ok (.iconst 4, 1) := by decide +kernel
theorem dX11_table_37 : decode cX11_table 37 = .ok (.invokestatic 96, 3) := by decide +kernel
theorem dX11_table_40 : decode cX11_table 40 = .ok (.ifCond .ne 7, 3) := by decide +kernel
theorem dX11_table_43 : decode cX11_table 43 = .ok (.sipush (-1002), 3) := by decide +kernel
theorem dX11_table_46 : decode cX11_table 46 = .ok (.ireturn, 1) := by decide +kernel
theorem dX11_table_47 : decode cX11_table 47 = .ok (.aload_n 0, 1) := by decide +kernel
theorem dX11_table_48 : decode cX11_table 48 = .ok (.getfield 51, 3) := by decide +kernel
theorem dX11_table_51 : decode cX11_table 51 = .ok (.iload_n 1, 1) := by decide +kernel
theorem dX11_table_52 : decode cX11_table 52 = .ok (.invokevirtual 219, 3) := by decide +kernel
theorem dX11_table_55 : decode cX11_table 55 = .ok (.iload_n 2, 1) := by decide +kernel
theorem dX11_table_56 : decode cX11_table 56 = .ok (.if_icmp .gt 7, 3) := by decide +kernel
theorem dX11_table_59 : decode cX11_table 59 = .ok (.sipush (-1003), 3) := by decide +kernel
theorem dX11_table_62 : decode cX11_table 62 = .ok (.ireturn, 1) := by decide +kernel
theorem dX11_table_63 : decode cX11_table 63 = .ok (.aload_n 0, 1) := by decide +kernel
theorem dX11_table_64 : decode cX11_table 64 = .ok (.getfield 60, 3) := by decide +kernel
theorem dX11_table_67 : decode cX11_table 67 = .ok (.iload_n 1, 1) := by decide +kernel
theorem dX11_table_68 : decode cX11_table 68 = .ok (.iload_n 2, 1) := by decide +kernel
theorem dX11_table_69 : decode cX11_table 69 = .ok (.iload_n 3, 1) := by decide +kernel
theorem dX11_table_70 : decode cX11_table 70 = .ok (.iload 4, 2) := by decide +kernel
theorem dX11_table_72 : decode cX11_table 72 = .ok (.invokevirtual 250, 3) := by decide +kernel
theorem dX11_table_75 : decode cX11_table 75 = .ok (.iload 5, 2) := by decide +kernel
theorem dX11_table_77 : decode cX11_table 77 = .ok (.iconst 4, 1) := by decide +kernel
theorem dX11_table_78 : decode cX11_table 78 = .ok (.if_icmp .ne 13, 3) := by decide +kernel
theorem dX11_table_81 : decode cX11_table 81 = .ok (.aload_n 0, 1) := by decide +kernel
theorem dX11_table_82 : decode cX11_table 82 = .ok (.getfield 60, 3) := by decide +kernel
theorem dX11_table_85 : decode cX11_table 85 = .ok (.invokevirtual 254, 3) := by decide +kernel
theorem dX11_table_88 : decode cX11_table 88 = .ok (.goto 12, 3) := by decide +kernel
theorem dX11_table_91 : decode cX11_table 91 = .ok (.aload_n 0, 1) := by decide +kernel
theorem dX11_table_92 : decode cX11_table 92 = .ok (.getfield 60, 3) := by decide +kernel
theorem dX11_table_95 : decode cX11_table 95 = .ok (.iload 5, 2) := by decide +kernel
theorem dX11_table_97 : decode cX11_table 97 = .ok (.invokevirtual 257, 3) := by decide +kernel
theorem dX11_table_100 : decode cX11_table 100 = .ok (.ireturn, 1) := by decide +kernel
theorem dX11_story_0 : decode cX11_story 0 = .ok (.iload_n 1, 1) := by decide +kernel
theorem dX11_story_1 : decode cX11_story 1 = .ok (.invokestatic 186, 3) := by decide +kernel
theorem dX11_story_4 : decode cX11_story 4 = .ok (.ifCond .eq 10, 3) := by decide +kernel
theorem dX11_story_7 : decode cX11_story 7 = .ok (.iload_n 2, 1) := by decide +kernel
theorem dX11_story_8 : decode cX11_story 8 = .ok (.invokestatic 186, 3) := by decide +kernel
theorem dX11_story_11 : decode cX11_story 11 = .ok (.ifCond .ne 7, 3) := by decide +kernel
theorem dX11_story_14 : decode cX11_story 14 = .ok (.sipush (-1001), 3) := by decide +kernel
theorem dX11_story_17 : decode cX11_story 17 = .ok (.ireturn, 1) := by decide +kernel
theorem dX11_story_18 : decode cX11_story 18 = .ok (.iload_n 3, 1) := by decide +kernel
theorem dX11_story_19 : decode cX11_story 19 = .ok (.iconst 0, 1) := by decide +kernel
theorem dX11_story_20 : decode cX11_story 20 = .ok (.bipush 60, 2) := by decide +kernel
theorem dX11_story_22 : decode cX11_story 22 = .ok (.invokestatic 96, 3) := by decide +kernel
theorem dX11_story_25 : decode cX11_story 25 = .ok (.ifCond .ne 7, 3) := by decide +kernel
theorem dX11_story_28 : decode cX11_story 28 = .ok (.sipush (-1002), 3) := by decide +kernel
theorem dX11_story_31 : decode cX11_story 31 = .ok (.ireturn, 1) := by decide +kernel
theorem dX11_story_32 : decode cX11_story 32 = .ok (.aload_n 0, 1) := by decide +kernel
theorem dX11_story_33 : decode cX11_story 33 = .ok (.getfield 51, 3) := by decide +kernel
theorem dX11_story_36 : decode cX11_story 36 = .ok (.iload_n 1, 1) := by decide +kernel
theorem dX11_story_37 : decode cX11_story 37 = .ok (.invokevirtual 222, 3) := by decide +kernel
theorem dX11_story_40 : decode cX11_story 40 = .ok (.ifCond .eq 14, 3) := by decide +kernel
theorem dX11_story_43 : decode cX11_story 43 = .ok (.aload_n 0, 1) := by decide +kernel
theorem dX11_story_44 : decode cX11_story 44 = .ok (.getfield 51, 3) := by decide +kernel
theorem dX11_story_47 : decode cX11_story 47 = .ok (.iload_n 2, 1) := by decide +kernel
theorem dX11_story_48 : decode cX11_story 48 = .ok (.invokevirtual 222, 3) := by decide +kernel
theorem dX11_story_51 : decode cX11_story 51 = .ok (.ifCond .ne 7, 3) := by decide +kernel
theorem dX11_story_54 : decode cX11_story 54 = .ok (.sipush (-1003), 3) := by decide +kernel
theorem dX11_story_57 : decode cX11_story 57 = .ok (.ireturn, 1) := by decide +kernel
theorem dX11_story_58 : decode cX11_story 58 = .ok (.aload_n 0, 1) := by decide +kernel
theorem dX11_story_59 : decode cX11_story 59 = .ok (.getfield 51, 3) := by decide +kernel
theorem dX11_story_62 : decode cX11_story 62 = .ok (.iload_n 1, 1) := by decide +kernel
theorem dX11_story_63 : decode cX11_story 63 = .ok (.iload_n 2, 1) := by decide +kernel
theorem dX11_story_64 : decode cX11_story 64 = .ok (.iload_n 3, 1) := by decide +kernel
theorem dX11_story_65 : decode cX11_story 65 = .ok (.invokevirtual 260, 3) := by decide +kernel
theorem dX11_story_68 : decode cX11_story 68 = .ok (.ireturn, 1) := by decide +kernel
theorem dX11_claim_0 : decode cX11_claim 0 = .ok (.iload_n 2, 1) := by decide +kernel
theorem dX11_claim_1 : decode cX11_claim 1 = .ok (.invokestatic 120, 3) := by decide +kernel
theorem dX11_claim_4 : decode cX11_claim 4 = .ok (.ifCond .ne 7, 3) := by decide +kernel
theorem dX11_claim_7 : decode cX11_claim 7 = .ok (.sipush (-1001), 3) := by decide +kernel
theorem dX11_claim_10 : decode cX11_claim 10 = .ok (.ireturn, 1) := by decide +kernel
theorem dX11_claim_11 : decode cX11_claim 11 = .ok (.iload_n 1, 1) := by decide +kernel
theorem dX11_claim_12 : decode cX11_claim 12 = .ok (.iload 5, 2) := by decide +kernel
theorem dX11_claim_14 : decode cX11_claim 14 = .ok (.iload 6, 2) := by decide +kernel
theorem dX11_claim_16 : decode cX11_claim 16 = .ok (.invokestatic 179, 3) := by decide +kernel
theorem dX11_claim_19 : decode cX11_claim 19 = .ok (.ifCond .eq 29, 3) := by decide +kernel
theorem dX11_claim_22 : decode cX11_claim 22 = .ok (.iload_n 3, 1) := by decide +kernel
theorem dX11_claim_23 : decode cX11_claim 23 = .ok (.invokestatic 123, 3) := by decide +kernel
theorem dX11_claim_26 : decode cX11_claim 26 = .ok (.ifCond .eq 22, 3) := by decide +kernel
theorem dX11_claim_29 : decode cX11_claim 29 = .ok (.iload 4, 2) := by decide +kernel
theorem dX11_claim_31 : decode cX11_claim 31 = .ok (.invokestatic 130, 3) := by decide +kernel
theorem dX11_claim_34 : decode cX11_claim 34 = .ok (.ifCond .eq 14, 3) := by decide +kernel
theorem dX11_claim_37 : decode cX11_claim 37 = .ok (.iload 7, 2) := by decide +kernel
theorem dX11_claim_39 : decode cX11_claim 39 = .ok (.iconst 0, 1) := by decide +kernel
theorem dX11_claim_40 : decode cX11_claim 40 = .ok (.bipush 100, 2) := by decide +kernel
theorem dX11_claim_42 : decode cX11_claim 42 = .ok (.invokestatic 96, 3) := by decide +kernel
theorem dX11_claim_45 : decode cX11_claim 45 = .ok (.ifCond .ne 7, 3) := by decide +kernel
theorem dX11_claim_48 : decode cX11_claim 48 = .ok (.sipush (-1002), 3) := by decide +kernel
theorem dX11_claim_51 : decode cX11_claim 51 = .ok (.ireturn, 1) := by decide +kernel
theorem dX11_claim_52 : decode cX11_claim 52 = .ok (.aload_n 0, 1) := by decide +kernel
theorem dX11_claim_53 : decode cX11_claim 53 = .ok (.getfield 69, 3) := by decide +kernel
theorem dX11_claim_56 : decode cX11_claim 56 = .ok (.invokevirtual 263, 3) := by decide +kernel
theorem dX11_claim_59 : decode cX11_claim 59 = .ok (.ifCond .eq 9, 3) := by decide +kernel
theorem dX11_claim_62 : decode cX11_claim 62 = .ok (.sipush (-1004), 3) := by decide +kernel
theorem dX11_claim_65 : decode cX11_claim 65 = .ok (.goto 21, 3) := by decide +kernel
theorem dX11_claim_68 : decode cX11_claim 68 = .ok (.aload_n 0, 1) := by decide +kernel
theorem dX11_claim_69 : decode cX11_claim 69 = .ok (.getfield 69, 3) := by decide +kernel
theorem dX11_claim_72 : decode cX11_claim 72 = .ok (.iload_n 1, 1) := by decide +kernel
theorem dX11_claim_73 : decode cX11_claim 73 = .ok (.iload_n 2, 1) := by decide +kernel
theorem dX11_claim_74 : decode cX11_claim 74 = .ok (.iload_n 3, 1) := by decide +kernel
theorem dX11_claim_75 : decode cX11_claim 75 = .ok (.iload 4, 2) := by decide +kernel
theorem dX11_claim_77 : decode cX11_claim 77 = .ok (.iload 5, 2) := by decide +kernel
theorem dX11_claim_79 : decode cX11_claim 79 = .ok (.iload 6, 2) := by decide +kernel
theorem dX11_claim_81 : decode cX11_claim 81 = .ok (.iload 7, 2) := by decide +kernel
theorem dX11_claim_83 : decode cX11_claim 83 = .ok (.invokevirtual 264, 3) := by decide +kernel
theorem dX11_claim_86 : decode cX11_claim 86 = .ok (.ireturn, 1) := by decide +kernel
theorem dX11_score_0 : decode cX11_score 0 = .ok (.aload_n 0, 1) := by decide +kernel
theorem dX11_score_1 : decode cX11_score 1 = .ok (.getfield 69, 3) := by decide +kernel
theorem dX11_score_4 : decode cX11_score 4 = .ok (.iload_n 1, 1) := by decide +kernel
theorem dX11_score_5 : decode cX11_score 5 = .ok (.invokevirtual 267, 3) := by decide +kernel
theorem dX11_score_8 : decode cX11_score 8 = .ok (.ifCond .ne 7, 3) := by decide +kernel
theorem dX11_score_11 : decode cX11_score 11 = .ok (.sipush (-1001), 3) := by decide +kernel
theorem dX11_score_14 : decode cX11_score 14 = .ok (.ireturn, 1) := by decide +kernel
theorem dX11_score_15 : decode cX11_score 15 = .ok (.iload_n 2, 1) := by decide +kernel
theorem dX11_score_16 : decode cX11_score 16 = .ok (.tableswitch 55 0 2 #[28, 37, 46], 28) := by decide +kernel
theorem dX11_score_44 : decode cX11_score 44 = .ok (.aload_n 0, 1) := by decide +kernel
theorem dX11_score_45 : decode cX11_score 45 = .ok (.getfield 69, 3) := by decide +kernel
theorem dX11_score_48 : decode cX11_score 48 = .ok (.iload_n 1, 1) := by decide +kernel
theorem dX11_score_49 : decode cX11_score 49 = .ok (.invokevirtual 268, 3) := by decide +kernel
theorem dX11_score_52 : decode cX11_score 52 = .ok (.ireturn, 1) := by decide +kernel
theorem dX11_score_53 : decode cX11_score 53 = .ok (.aload_n 0, 1) := by decide +kernel
theorem dX11_score_54 : decode cX11_score 54 = .ok (.getfield 69, 3) := by decide +kernel
theorem dX11_score_57 : decode cX11_score 57 = .ok (.iload_n 1, 1) := by decide +kernel
theorem dX11_score_58 : decode cX11_score 58 = .ok (.invokevirtual 271, 3) := by decide +kernel
theorem dX11_score_61 : decode cX11_score 61 = .ok (.ireturn, 1) := by decide +kernel
theorem dX11_score_62 : decode cX11_score 62 = .ok (.aload_n 0, 1) := by decide +kernel
theorem dX11_score_63 : decode cX11_score 63 = .ok (.getfield 69, 3) := by decide +kernel
theorem dX11_score_66 : decode cX11_score 66 = .ok (.iload_n 1, 1) := by decide +kernel
theorem dX11_score_67 : decode cX11_score 67 = .ok (.invokevirtual 274, 3) := by decide +kernel
theorem dX11_score_70 : decode cX11_score 70 = .ok (.ireturn, 1) := by decide +kernel
theorem dX11_score_71 : decode cX11_score 71 = .ok (.sipush (-1002), 3) := by decide +kernel
theorem dX11_score_74 : decode cX11_score 74 = .ok (.ireturn, 1) := by decide +kernel
theorem dX11_scores_0 : decode cX11_scores 0 = .ok (.iconst 0, 1) := by decide +kernel
theorem dX11_scores_1 : decode cX11_scores 1 = .ok (.istore_n 1, 1) := by decide +kernel
theorem dX11_scores_2 : decode cX11_scores 2 = .ok (.iconst 0, 1) := by decide +kernel
theorem dX11_scores_3 : decode cX11_scores 3 = .ok (.istore_n 2, 1) := by decide +kernel
theorem dX11_scores_4 : decode cX11_scores 4 = .ok (.iload_n 2, 1) := by decide +kernel
theorem dX11_scores_5 : decode cX11_scores 5 = .ok (.aload_n 0, 1) := by decide +kernel
theorem dX11_scores_6 : decode cX11_scores 6 = .ok (.getfield 69, 3) := by decide +kernel
theorem dX11_scores_9 : decode cX11_scores 9 = .ok (.invokevirtual 173, 3) := by decide +kernel
theorem dX11_scores_12 : decode cX11_scores 12 = .ok (.if_icmp .ge 20, 3) := by decide +kernel
theorem dX11_scores_15 : decode cX11_scores 15 = .ok (.iload_n 1, 1) := by decide +kernel
theorem dX11_scores_16 : decode cX11_scores 16 = .ok (.aload_n 0, 1) := by decide +kernel
theorem dX11_scores_17 : decode cX11_scores 17 = .ok (.getfield 69, 3) := by decide +kernel
theorem dX11_scores_20 : decode cX11_scores 20 = .ok (.iload_n 2, 1) := by decide +kernel
theorem dX11_scores_21 : decode cX11_scores 21 = .ok (.invokevirtual 274, 3) := by decide +kernel
theorem dX11_scores_24 : decode cX11_scores 24 = .ok (.iadd, 1) := by decide +kernel
theorem dX11_scores_25 : decode cX11_scores 25 = .ok (.istore_n 1, 1) := by decide +kernel
theorem dX11_scores_26 : decode cX11_scores 26 = .ok (.iinc 2 1, 3) := by decide +kernel
theorem dX11_scores_29 : decode cX11_scores 29 = .ok (.goto (-25), 3) := by decide +kernel
theorem dX11_scores_32 : decode cX11_scores 32 = .ok (.iload_n 1, 1) := by decide +kernel
theorem dX11_scores_33 : decode cX11_scores 33 = .ok (.ireturn, 1) := by decide +kernel
theorem dX11_town_0 : decode cX11_town 0 = .ok (.iload_n 1, 1) := by decide +kernel
theorem dX11_town_1 : decode cX11_town 1 = .ok (.invokestatic 120, 3) := by decide +kernel
theorem dX11_town_4 : decode cX11_town 4 = .ok (.ifCond .ne 7, 3) := by decide +kernel
theorem dX11_town_7 : decode cX11_town 7 = .ok (.sipush (-1001), 3) := by decide +kernel
theorem dX11_town_10 : decode cX11_town 10 = .ok (.ireturn, 1) := by decide +kernel
theorem dX11_town_11 : decode cX11_town 11 = .ok (.iload_n 2, 1) := by decide +kernel
theorem dX11_town_12 : decode cX11_town 12 = .ok (.iload_n 3, 1) := by decide +kernel
theorem dX11_town_13 : decode cX11_town 13 = .ok (.iload 4, 2) := by decide +kernel
theorem dX11_town_15 : decode cX11_town 15 = .ok (.iload 6, 2) := by decide +kernel
theorem dX11_town_17 : decode cX11_town 17 = .ok (.iload 7, 2) := by decide +kernel
theorem dX11_town_19 : decode cX11_town 19 = .ok (.invokestatic 277, 3) := by decide +kernel
theorem dX11_town_22 : decode cX11_town 22 = .ok (.ifCond .eq 25, 3) := by decide +kernel
theorem dX11_town_25 : decode cX11_town 25 = .ok (.iload 5, 2) := by decide +kernel
theorem dX11_town_27 : decode cX11_town 27 = .ok (.iconst 0, 1) := by decide +kernel
theorem dX11_town_28 : decode cX11_town 28 = .ok (.ldc_w 281, 3) := by decide +kernel
theorem dX11_town_31 : decode cX11_town 31 = .ok (.invokestatic 96, 3) := by decide +kernel
theorem dX11_town_34 : decode cX11_town 34 = .ok (.ifCond .eq 13, 3) := by decide +kernel
theorem dX11_town_37 : decode cX11_town 37 = .ok (.iload 8, 2) := by decide +kernel
theorem dX11_town_39 : decode cX11_town 39 = .ok (.iconst 0, 1) := by decide +kernel
theorem dX11_town_40 : decode cX11_town 40 = .ok (.iconst 3, 1) := by decide +kernel
theorem dX11_town_41 : decode cX11_town 41 = .ok (.invokestatic 96, 3) := by decide +kernel
theorem dX11_town_44 : decode cX11_town 44 = .ok (.ifCond .ne 7, 3) := by decide +kernel
theorem dX11_town_47 : decode cX11_town 47 = .ok (.sipush (-1002), 3) := by decide +kernel
theorem dX11_town_50 : decode cX11_town 50 = .ok (.ireturn, 1) := by decide +kernel
theorem dX11_town_51 : decode cX11_town 51 = .ok (.aload_n 0, 1) := by decide +kernel
theorem dX11_town_52 : decode cX11_town 52 = .ok (.getfield 76, 3) := by decide +kernel
theorem dX11_town_55 : decode cX11_town 55 = .ok (.iload_n 1, 1) := by decide +kernel
theorem dX11_town_56 : decode cX11_town 56 = .ok (.iload_n 2, 1) := by decide +kernel
theorem dX11_town_57 : decode cX11_town 57 = .ok (.iload 6, 2) := by decide +kernel
theorem dX11_town_59 : decode cX11_town 59 = .ok (.iload 7, 2) := by decide +kernel
theorem dX11_town_61 : decode cX11_town 61 = .ok (.invokevirtual 282, 3) := by decide +kernel
theorem dX11_town_64 : decode cX11_town 64 = .ok (.aload_n 0, 1) := by decide +kernel
theorem dX11_town_65 : decode cX11_town 65 = .ok (.getfield 76, 3) := by decide +kernel
theorem dX11_town_68 : decode cX11_town 68 = .ok (.iload 5, 2) := by decide +kernel
theorem dX11_town_70 : decode cX11_town 70 = .ok (.iload_n 3, 1) := by decide +kernel
theorem dX11_town_71 : decode cX11_town 71 = .ok (.iload 4, 2) := by decide +kernel
theorem dX11_town_73 : decode cX11_town 73 = .ok (.iload 6, 2) := by decide +kernel
theorem dX11_town_75 : decode cX11_town 75 = .ok (.iload 7, 2) := by decide +kernel
theorem dX11_town_77 : decode cX11_town 77 = .ok (.invokevirtual 285, 3) := by decide +kernel
theorem dX11_town_80 : decode cX11_town 80 = .ok (.aload_n 0, 1) := by decide +kernel
theorem dX11_town_81 : decode cX11_town 81 = .ok (.getfield 76, 3) := by decide +kernel
theorem dX11_town_84 : decode cX11_town 84 = .ok (.iload 8, 2) := by decide +kernel
theorem dX11_town_86 : decode cX11_town 86 = .ok (.invokevirtual 289, 3) := by decide +kernel
theorem dX11_town_89 : decode cX11_town 89 = .ok (.ireturn, 1) := by decide +kernel
theorem dX11_bestLine_0 : decode cX11_bestLine 0 = .ok (.iload_n 1, 1) := by decide +kernel
theorem dX11_bestLine_1 : decode cX11_bestLine 1 = .ok (.invokestatic 120, 3) := by decide +kernel
theorem dX11_bestLine_4 : decode cX11_bestLine 4 = .ok (.ifCond .ne 7, 3) := by decide +kernel
theorem dX11_bestLine_7 : decode cX11_bestLine 7 = .ok (.sipush (-1001), 3) := by decide +kernel
theorem dX11_bestLine_10 : decode cX11_bestLine 10 = .ok (.ireturn, 1) := by decide +kernel
theorem dX11_bestLine_11 : decode cX11_bestLine 11 = .ok (.iload_n 2, 1) := by decide +kernel
theorem dX11_bestLine_12 : decode cX11_bestLine 12 = .ok (.iload_n 3, 1) := by decide +kernel
theorem dX11_bestLine_13 : decode cX11_bestLine 13 = .ok (.iload 4, 2) := by decide +kernel
theorem dX11_bestLine_15 : decode cX11_bestLine 15 = .ok (.iload 5, 2) := by decide +kernel
theorem dX11_bestLine_17 : decode cX11_bestLine 17 = .ok (.iload 6, 2) := by decide +kernel
theorem dX11_bestLine_19 : decode cX11_bestLine 19 = .ok (.invokestatic 277, 3) := by decide +kernel
theorem dX11_bestLine_22 : decode cX11_bestLine 22 = .ok (.ifCond .ne 7, 3) := by decide +kernel
theorem dX11_bestLine_25 : decode cX11_bestLine 25 = .ok (.sipush (-1002), 3) := by decide +kernel
theorem dX11_bestLine_28 : decode cX11_bestLine 28 = .ok (.ireturn, 1) := by decide +kernel
theorem dX11_bestLine_29 : decode cX11_bestLine 29 = .ok (.aload_n 0, 1) := by decide +kernel
theorem dX11_bestLine_30 : decode cX11_bestLine 30 = .ok (.getfield 76, 3) := by decide +kernel
theorem dX11_bestLine_33 : decode cX11_bestLine 33 = .ok (.iload_n 1, 1) := by decide +kernel
theorem dX11_bestLine_34 : decode cX11_bestLine 34 = .ok (.iload_n 2, 1) := by decide +kernel
theorem dX11_bestLine_35 : decode cX11_bestLine 35 = .ok (.iload 5, 2) := by decide +kernel
theorem dX11_bestLine_37 : decode cX11_bestLine 37 = .ok (.iload 6, 2) := by decide +kernel
theorem dX11_bestLine_39 : decode cX11_bestLine 39 = .ok (.invokevirtual 282, 3) := by decide +kernel
theorem dX11_bestLine_42 : decode cX11_bestLine 42 = .ok (.aload_n 0, 1) := by decide +kernel
theorem dX11_bestLine_43 : decode cX11_bestLine 43 = .ok (.getfield 76, 3) := by decide +kernel
theorem dX11_bestLine_46 : decode cX11_bestLine 46 = .ok (.iload_n 3, 1) := by decide +kernel
theorem dX11_bestLine_47 : decode cX11_bestLine 47 = .ok (.iload 4, 2) := by decide +kernel
theorem dX11_bestLine_49 : decode cX11_bestLine 49 = .ok (.iload 5, 2) := by decide +kernel
theorem dX11_bestLine_51 : decode cX11_bestLine 51 = .ok (.iload 6, 2) := by decide +kernel
theorem dX11_bestLine_53 : decode cX11_bestLine 53 = .ok (.invokevirtual 292, 3) := by decide +kernel
theorem dX11_bestLine_56 : decode cX11_bestLine 56 = .ok (.ireturn, 1) := by decide +kernel
theorem dX11_luck_0 : decode cX11_luck 0 = .ok (.iload_n 1, 1) := by decide +kernel
theorem dX11_luck_1 : decode cX11_luck 1 = .ok (.iconst 1, 1) := by decide +kernel
theorem dX11_luck_2 : decode cX11_luck 2 = .ok (.sipush 200, 3) := by decide +kernel
theorem dX11_luck_5 : decode cX11_luck 5 = .ok (.invokestatic 96, 3) := by decide +kernel
theorem dX11_luck_8 : decode cX11_luck 8 = .ok (.ifCond .eq 19, 3) := by decide +kernel
theorem dX11_luck_11 : decode cX11_luck 11 = .ok (.iload_n 2, 1) := by decide +kernel
theorem dX11_luck_12 : decode cX11_luck 12 = .ok (.invokestatic 295, 3) := by decide +kernel
theorem dX11_luck_15 : decode cX11_luck 15 = .ok (.ifCond .eq 12, 3) := by decide +kernel
theorem dX11_luck_18 : decode cX11_luck 18 = .ok (.iload_n 3, 1) := by decide +kernel
theorem dX11_luck_19 : decode cX11_luck 19 = .ok (.iconst 0, 1) := by decide +kernel
theorem dX11_luck_20 : decode cX11_luck 20 = .ok (.iload_n 1, 1) := by decide +kernel
theorem dX11_luck_21 : decode cX11_luck 21 = .ok (.invokestatic 96, 3) := by decide +kernel
theorem dX11_luck_24 : decode cX11_luck 24 = .ok (.ifCond .ne 7, 3) := by decide +kernel
theorem dX11_luck_27 : decode cX11_luck 27 = .ok (.sipush (-1002), 3) := by decide +kernel
theorem dX11_luck_30 : decode cX11_luck 30 = .ok (.ireturn, 1) := by decide +kernel
theorem dX11_luck_31 : decode cX11_luck 31 = .ok (.aload_n 0, 1) := by decide +kernel
theorem dX11_luck_32 : decode cX11_luck 32 = .ok (.getfield 83, 3) := by decide +kernel
theorem dX11_luck_35 : decode cX11_luck 35 = .ok (.iload_n 1, 1) := by decide +kernel
theorem dX11_luck_36 : decode cX11_luck 36 = .ok (.iload_n 2, 1) := by decide +kernel
theorem dX11_luck_37 : decode cX11_luck 37 = .ok (.iload_n 3, 1) := by decide +kernel
theorem dX11_luck_38 : decode cX11_luck 38 = .ok (.invokevirtual 298, 3) := by decide +kernel
theorem dX11_luck_41 : decode cX11_luck 41 = .ok (.ireturn, 1) := by decide +kernel
theorem dX11_lake_0 : decode cX11_lake 0 = .ok (.iload_n 1, 1) := by decide +kernel
theorem dX11_lake_1 : decode cX11_lake 1 = .ok (.invokestatic 295, 3) := by decide +kernel
theorem dX11_lake_4 : decode cX11_lake 4 = .ok (.ifCond .eq 43, 3) := by decide +kernel
theorem dX11_lake_7 : decode cX11_lake 7 = .ok (.iload_n 2, 1) := by decide +kernel
theorem dX11_lake_8 : decode cX11_lake 8 = .ok (.invokestatic 295, 3) := by decide +kernel
theorem dX11_lake_11 : decode cX11_lake 11 = .ok (.ifCond .eq 36, 3) := by decide +kernel
theorem dX11_lake_14 : decode cX11_lake 14 = .ok (.iload_n 3, 1) := by decide +kernel
theorem dX11_lake_15 : decode cX11_lake 15 = .ok (.iconst 0, 1) := by decide +kernel
theorem dX11_lake_16 : decode cX11_lake 16 = .ok (.ldc_w 301, 3) := by decide +kernel
theorem dX11_lake_19 : decode cX11_lake 19 = .ok (.invokestatic 96, 3) := by decide +kernel
theorem dX11_lake_22 : decode cX11_lake 22 = .ok (.ifCond .eq 25, 3) := by decide +kernel
theorem dX11_lake_25 : decode cX11_lake 25 = .ok (.iload 4, 2) := by decide +kernel
theorem dX11_lake_27 : decode cX11_lake 27 = .ok (.iconst 0, 1) := by decide +kernel
theorem dX11_lake_28 : decode cX11_lake 28 = .ok (.ldc_w 301, 3) := by decide +kernel
theorem dX11_lake_31 : decode cX11_lake 31 = .ok (.invokestatic 96, 3) := by decide +kernel
theorem dX11_lake_34 : decode cX11_lake 34 = .ok (.ifCond .eq 13, 3) := by decide +kernel
theorem dX11_lake_37 : decode cX11_lake 37 = .ok (.iload 5, 2) := by decide +kernel
theorem dX11_lake_39 : decode cX11_lake 39 = .ok (.iconst 0, 1) := by decide +kernel
theorem dX11_lake_40 : decode cX11_lake 40 = .ok (.iconst 1, 1) := by decide +kernel
theorem dX11_lake_41 : decode cX11_lake 41 = .ok (.invokestatic 96, 3) := by decide +kernel
theorem dX11_lake_44 : decode cX11_lake 44 = .ok (.ifCond .ne 7, 3) := by decide +kernel
theorem dX11_lake_47 : decode cX11_lake 47 = .ok (.sipush (-1002), 3) := by decide +kernel
theorem dX11_lake_50 : decode cX11_lake 50 = .ok (.ireturn, 1) := by decide +kernel
theorem dX11_lake_51 : decode cX11_lake 51 = .ok (.aload_n 0, 1) := by decide +kernel
theorem dX11_lake_52 : decode cX11_lake 52 = .ok (.getfield 83, 3) := by decide +kernel
theorem dX11_lake_55 : decode cX11_lake 55 = .ok (.iload_n 1, 1) := by decide +kernel
theorem dX11_lake_56 : decode cX11_lake 56 = .ok (.iload_n 2, 1) := by decide +kernel
theorem dX11_lake_57 : decode cX11_lake 57 = .ok (.iload_n 3, 1) := by decide +kernel
theorem dX11_lake_58 : decode cX11_lake 58 = .ok (.iload 4, 2) := by decide +kernel
theorem dX11_lake_60 : decode cX11_lake 60 = .ok (.invokevirtual 302, 3) := by decide +kernel
theorem dX11_lake_63 : decode cX11_lake 63 = .ok (.istore 6, 2) := by decide +kernel
theorem dX11_lake_65 : decode cX11_lake 65 = .ok (.iload 5, 2) := by decide +kernel
theorem dX11_lake_67 : decode cX11_lake 67 = .ok (.ifCond .ne 8, 3) := by decide +kernel
theorem dX11_lake_70 : decode cX11_lake 70 = .ok (.iload 6, 2) := by decide +kernel
theorem dX11_lake_72 : decode cX11_lake 72 = .ok (.goto 10, 3) := by decide +kernel
theorem dX11_lake_75 : decode cX11_lake 75 = .ok (.aload_n 0, 1) := by decide +kernel
theorem dX11_lake_76 : decode cX11_lake 76 = .ok (.getfield 83, 3) := by decide +kernel
theorem dX11_lake_79 : decode cX11_lake 79 = .ok (.invokevirtual 305, 3) := by decide +kernel
theorem dX11_lake_82 : decode cX11_lake 82 = .ok (.ireturn, 1) := by decide +kernel
theorem dX11_say_0 : decode cX11_say 0 = .ok (.iload_n 2, 1) := by decide +kernel
theorem dX11_say_1 : decode cX11_say 1 = .ok (.invokestatic 120, 3) := by decide +kernel
theorem dX11_say_4 : decode cX11_say 4 = .ok (.ifCond .ne 7, 3) := by decide +kernel
theorem dX11_say_7 : decode cX11_say 7 = .ok (.sipush (-1001), 3) := by decide +kernel
theorem dX11_say_10 : decode cX11_say 10 = .ok (.ireturn, 1) := by decide +kernel
theorem dX11_say_11 : decode cX11_say 11 = .ok (.iload_n 1, 1) := by decide +kernel
theorem dX11_say_12 : decode cX11_say 12 = .ok (.iconst 0, 1) := by decide +kernel
theorem dX11_say_13 : decode cX11_say 13 = .ok (.sipush 398, 3) := by decide +kernel
theorem dX11_say_16 : decode cX11_say 16 = .ok (.invokestatic 96, 3) := by decide +kernel
theorem dX11_say_19 : decode cX11_say 19 = .ok (.ifCond .eq 12, 3) := by decide +kernel
theorem dX11_say_22 : decode cX11_say 22 = .ok (.iload_n 3, 1) := by decide +kernel
theorem dX11_say_23 : decode cX11_say 23 = .ok (.iconst 0, 1) := by decide +kernel
theorem dX11_say_24 : decode cX11_say 24 = .ok (.iconst 2, 1) := by decide +kernel
theorem dX11_say_25 : decode cX11_say 25 = .ok (.invokestatic 96, 3) := by decide +kernel
theorem dX11_say_28 : decode cX11_say 28 = .ok (.ifCond .ne 7, 3) := by decide +kernel
theorem dX11_say_31 : decode cX11_say 31 = .ok (.sipush (-1002), 3) := by decide +kernel
theorem dX11_say_34 : decode cX11_say 34 = .ok (.ireturn, 1) := by decide +kernel
theorem dX11_say_35 : decode cX11_say 35 = .ok (.aload_n 0, 1) := by decide +kernel
theorem dX11_say_36 : decode cX11_say 36 = .ok (.getfield 92, 3) := by decide +kernel
theorem dX11_say_39 : decode cX11_say 39 = .ok (.invokevirtual 308, 3) := by decide +kernel
theorem dX11_say_42 : decode cX11_say 42 = .ok (.ifCond .eq 9, 3) := by decide +kernel
theorem dX11_say_45 : decode cX11_say 45 = .ok (.sipush (-1004), 3) := by decide +kernel
theorem dX11_say_48 : decode cX11_say 48 = .ok (.goto 13, 3) := by decide +kernel
theorem dX11_say_51 : decode cX11_say 51 = .ok (.aload_n 0, 1) := by decide +kernel
theorem dX11_say_52 : decode cX11_say 52 = .ok (.getfield 92, 3) := by decide +kernel
theorem dX11_say_55 : decode cX11_say 55 = .ok (.iload_n 1, 1) := by decide +kernel
theorem dX11_say_56 : decode cX11_say 56 = .ok (.iload_n 2, 1) := by decide +kernel
theorem dX11_say_57 : decode cX11_say 57 = .ok (.iload_n 3, 1) := by decide +kernel
theorem dX11_say_58 : decode cX11_say 58 = .ok (.invokevirtual 309, 3) := by decide +kernel
theorem dX11_say_61 : decode cX11_say 61 = .ok (.ireturn, 1) := by decide +kernel
theorem dX11_judged_0 : decode cX11_judged 0 = .ok (.aload_n 0, 1) := by decide +kernel
theorem dX11_judged_1 : decode cX11_judged 1 = .ok (.getfield 92, 3) := by decide +kernel
theorem dX11_judged_4 : decode cX11_judged 4 = .ok (.iload_n 1, 1) := by decide +kernel
theorem dX11_judged_5 : decode cX11_judged 5 = .ok (.invokevirtual 310, 3) := by decide +kernel
theorem dX11_judged_8 : decode cX11_judged 8 = .ok (.ifCond .ne 7, 3) := by decide +kernel
theorem dX11_judged_11 : decode cX11_judged 11 = .ok (.sipush (-1001), 3) := by decide +kernel
theorem dX11_judged_14 : decode cX11_judged 14 = .ok (.ireturn, 1) := by decide +kernel
theorem dX11_judged_15 : decode cX11_judged 15 = .ok (.iload_n 2, 1) := by decide +kernel
theorem dX11_judged_16 : decode cX11_judged 16 = .ok (.invokestatic 130, 3) := by decide +kernel
theorem dX11_judged_19 : decode cX11_judged 19 = .ok (.ifCond .eq 39, 3) := by decide +kernel
theorem dX11_judged_22 : decode cX11_judged 22 = .ok (.iload_n 3, 1) := by decide +kernel
theorem dX11_judged_23 : decode cX11_judged 23 = .ok (.iconst 1, 1) := by decide +kernel
theorem dX11_judged_24 : decode cX11_judged 24 = .ok (.bipush 60, 2) := by decide +kernel
theorem dX11_judged_26 : decode cX11_judged 26 = .ok (.invokestatic 96, 3) := by decide +kernel
theorem dX11_judged_29 : decode cX11_judged 29 = .ok (.ifCond .eq 29, 3) := by decide +kernel
theorem dX11_judged_32 : decode cX11_judged 32 = .ok (.iload 4, 2) := by decide +kernel
theorem dX11_judged_34 : decode cX11_judged 34 = .ok (.iconst 0, 1) := by decide +kernel
theorem dX11_judged_35 : decode cX11_judged 35 = .ok (.iconst 1, 1) := by decide +kernel
theorem dX11_judged_36 : decode cX11_judged 36 = .ok (.invokestatic 96, 3) := by decide +kernel
theorem dX11_judged_39 : decode cX11_judged 39 = .ok (.ifCond .eq 19, 3) := by decide +kernel
theorem dX11_judged_42 : decode cX11_judged 42 = .ok (.aload_n 0, 1) := by decide +kernel
theorem dX11_judged_43 : decode cX11_judged 43 = .ok (.getfield 92, 3) := by decide +kernel
theorem dX11_judged_46 : decode cX11_judged 46 = .ok (.iload_n 1, 1) := by decide +kernel
theorem dX11_judged_47 : decode cX11_judged 47 = .ok (.invokevirtual 311, 3) := by decide +kernel
theorem dX11_judged_50 : decode cX11_judged 50 = .ok (.iload_n 3, 1) := by decide +kernel
theorem dX11_judged_51 : decode cX11_judged 51 = .ok (.iadd, 1) := by decide +kernel
theorem dX11_judged_52 : decode cX11_judged 52 = .ok (.sipush 399, 3) := by decide +kernel
theorem dX11_judged_55 : decode cX11_judged 55 = .ok (.if_icmp .le 7, 3) := by decide +kernel
theorem dX11_judged_58 : decode cX11_judged 58 = .ok (.sipush (-1002), 3) := by decide +kernel
theorem dX11_judged_61 : decode cX11_judged 61 = .ok (.ireturn, 1) := by decide +kernel
theorem dX11_judged_62 : decode cX11_judged 62 = .ok (.aload_n 0, 1) := by decide +kernel
theorem dX11_judged_63 : decode cX11_judged 63 = .ok (.getfield 92, 3) := by decide +kernel
theorem dX11_judged_66 : decode cX11_judged 66 = .ok (.iload_n 1, 1) := by decide +kernel
theorem dX11_judged_67 : decode cX11_judged 67 = .ok (.iload_n 2, 1) := by decide +kernel
theorem dX11_judged_68 : decode cX11_judged 68 = .ok (.iload_n 3, 1) := by decide +kernel
theorem dX11_judged_69 : decode cX11_judged 69 = .ok (.invokevirtual 312, 3) := by decide +kernel
theorem dX11_judged_72 : decode cX11_judged 72 = .ok (.istore 5, 2) := by decide +kernel
theorem dX11_judged_74 : decode cX11_judged 74 = .ok (.iload 4, 2) := by decide +kernel
theorem dX11_judged_76 : decode cX11_judged 76 = .ok (.ifCond .ne 8, 3) := by decide +kernel
theorem dX11_judged_79 : decode cX11_judged 79 = .ok (.iload 5, 2) := by decide +kernel
theorem dX11_judged_81 : decode cX11_judged 81 = .ok (.goto 16, 3) := by decide +kernel
theorem dX11_judged_84 : decode cX11_judged 84 = .ok (.aload_n 0, 1) := by decide +kernel
theorem dX11_judged_85 : decode cX11_judged 85 = .ok (.getfield 92, 3) := by decide +kernel
theorem dX11_judged_88 : decode cX11_judged 88 = .ok (.iload_n 1, 1) := by decide +kernel
theorem dX11_judged_89 : decode cX11_judged 89 = .ok (.invokevirtual 315, 3) := by decide +kernel
theorem dX11_judged_92 : decode cX11_judged 92 = .ok (.iload 5, 2) := by decide +kernel
theorem dX11_judged_94 : decode cX11_judged 94 = .ok (.invokestatic 318, 3) := by decide +kernel
theorem dX11_judged_97 : decode cX11_judged 97 = .ok (.ireturn, 1) := by decide +kernel
theorem dX11_keep_0 : decode cX11_keep 0 = .ok (.aload_n 0, 1) := by decide +kernel
theorem dX11_keep_1 : decode cX11_keep 1 = .ok (.getfield 33, 3) := by decide +kernel
theorem dX11_keep_4 : decode cX11_keep 4 = .ok (.iload_n 1, 1) := by decide +kernel
theorem dX11_keep_5 : decode cX11_keep 5 = .ok (.invokevirtual 323, 3) := by decide +kernel
theorem dX11_keep_8 : decode cX11_keep 8 = .ok (.ifCond .eq 18, 3) := by decide +kernel
theorem dX11_keep_11 : decode cX11_keep 11 = .ok (.aload_n 0, 1) := by decide +kernel
theorem dX11_keep_12 : decode cX11_keep 12 = .ok (.getfield 33, 3) := by decide +kernel
theorem dX11_keep_15 : decode cX11_keep 15 = .ok (.iload_n 1, 1) := by decide +kernel
theorem dX11_keep_16 : decode cX11_keep 16 = .ok (.aload_n 0, 1) := by decide +kernel
theorem dX11_keep_17 : decode cX11_keep 17 = .ok (.getfield 26, 3) := by decide +kernel
theorem dX11_keep_20 : decode cX11_keep 20 = .ok (.invokevirtual 324, 3) := by decide +kernel
theorem dX11_keep_23 : decode cX11_keep 23 = .ok (.goto 6, 3) := by decide +kernel
theorem dX11_keep_26 : decode cX11_keep 26 = .ok (.sipush (-1001), 3) := by decide +kernel
theorem dX11_keep_29 : decode cX11_keep 29 = .ok (.ireturn, 1) := by decide +kernel
theorem dX11_goBack_0 : decode cX11_goBack 0 = .ok (.aload_n 0, 1) := by decide +kernel
theorem dX11_goBack_1 : decode cX11_goBack 1 = .ok (.getfield 33, 3) := by decide +kernel
theorem dX11_goBack_4 : decode cX11_goBack 4 = .ok (.iload_n 1, 1) := by decide +kernel
theorem dX11_goBack_5 : decode cX11_goBack 5 = .ok (.invokevirtual 323, 3) := by decide +kernel
theorem dX11_goBack_8 : decode cX11_goBack 8 = .ok (.ifCond .ne 7, 3) := by decide +kernel
theorem dX11_goBack_11 : decode cX11_goBack 11 = .ok (.sipush (-1001), 3) := by decide +kernel
theorem dX11_goBack_14 : decode cX11_goBack 14 = .ok (.ireturn, 1) := by decide +kernel
theorem dX11_goBack_15 : decode cX11_goBack 15 = .ok (.aload_n 0, 1) := by decide +kernel
theorem dX11_goBack_16 : decode cX11_goBack 16 = .ok (.getfield 33, 3) := by decide +kernel
theorem dX11_goBack_19 : decode cX11_goBack 19 = .ok (.iload_n 1, 1) := by decide +kernel
theorem dX11_goBack_20 : decode cX11_goBack 20 = .ok (.invokevirtual 328, 3) := by decide +kernel
theorem dX11_goBack_23 : decode cX11_goBack 23 = .ok (.ifCond .eq 18, 3) := by decide +kernel
theorem dX11_goBack_26 : decode cX11_goBack 26 = .ok (.aload_n 0, 1) := by decide +kernel
theorem dX11_goBack_27 : decode cX11_goBack 27 = .ok (.getfield 33, 3) := by decide +kernel
theorem dX11_goBack_30 : decode cX11_goBack 30 = .ok (.iload_n 1, 1) := by decide +kernel
theorem dX11_goBack_31 : decode cX11_goBack 31 = .ok (.aload_n 0, 1) := by decide +kernel
theorem dX11_goBack_32 : decode cX11_goBack 32 = .ok (.getfield 26, 3) := by decide +kernel
theorem dX11_goBack_35 : decode cX11_goBack 35 = .ok (.invokevirtual 331, 3) := by decide +kernel
theorem dX11_goBack_38 : decode cX11_goBack 38 = .ok (.goto 6, 3) := by decide +kernel
theorem dX11_goBack_41 : decode cX11_goBack 41 = .ok (.sipush (-1003), 3) := by decide +kernel
theorem dX11_goBack_44 : decode cX11_goBack 44 = .ok (.ireturn, 1) := by decide +kernel
theorem dX11_within_0 : decode cX11_within 0 = .ok (.iload_n 0, 1) := by decide +kernel
theorem dX11_within_1 : decode cX11_within 1 = .ok (.iload_n 1, 1) := by decide +kernel
theorem dX11_within_2 : decode cX11_within 2 = .ok (.if_icmp .lt 12, 3) := by decide +kernel
theorem dX11_within_5 : decode cX11_within 5 = .ok (.iload_n 0, 1) := by decide +kernel
theorem dX11_within_6 : decode cX11_within 6 = .ok (.iload_n 2, 1) := by decide +kernel
theorem dX11_within_7 : decode cX11_within 7 = .ok (.if_icmp .gt 7, 3) := by decide +kernel
theorem dX11_within_10 : decode cX11_within 10 = .ok (.iconst 1, 1) := by decide +kernel
theorem dX11_within_11 : decode cX11_within 11 = .ok (.goto 4, 3) := by decide +kernel
theorem dX11_within_14 : decode cX11_within 14 = .ok (.iconst 0, 1) := by decide +kernel
theorem dX11_within_15 : decode cX11_within 15 = .ok (.ireturn, 1) := by decide +kernel
theorem dX11_isPlace_0 : decode cX11_isPlace 0 = .ok (.iload_n 0, 1) := by decide +kernel
theorem dX11_isPlace_1 : decode cX11_isPlace 1 = .ok (.iconst 0, 1) := by decide +kernel
theorem dX11_isPlace_2 : decode cX11_isPlace 2 = .ok (.bipush 63, 2) := by decide +kernel
theorem dX11_isPlace_4 : decode cX11_isPlace 4 = .ok (.invokestatic 96, 3) := by decide +kernel
theorem dX11_isPlace_7 : decode cX11_isPlace 7 = .ok (.ireturn, 1) := by decide +kernel
theorem dX11_isDistance_0 : decode cX11_isDistance 0 = .ok (.iload_n 0, 1) := by decide +kernel
theorem dX11_isDistance_1 : decode cX11_isDistance 1 = .ok (.iconst 0, 1) := by decide +kernel
theorem dX11_isDistance_2 : decode cX11_isDistance 2 = .ok (.bipush 7, 2) := by decide +kernel
theorem dX11_isDistance_4 : decode cX11_isDistance 4 = .ok (.invokestatic 96, 3) := by decide +kernel
theorem dX11_isDistance_7 : decode cX11_isDistance 7 = .ok (.ireturn, 1) := by decide +kernel
theorem dX11_isDay_0 : decode cX11_isDay 0 = .ok (.iload_n 0, 1) := by decide +kernel
theorem dX11_isDay_1 : decode cX11_isDay 1 = .ok (.iconst 0, 1) := by decide +kernel
theorem dX11_isDay_2 : decode cX11_isDay 2 = .ok (.sipush 399, 3) := by decide +kernel
theorem dX11_isDay_5 : decode cX11_isDay 5 = .ok (.invokestatic 96, 3) := by decide +kernel
theorem dX11_isDay_8 : decode cX11_isDay 8 = .ok (.ireturn, 1) := by decide +kernel
theorem dX11_areDays_0 : decode cX11_areDays 0 = .ok (.iload_n 0, 1) := by decide +kernel
theorem dX11_areDays_1 : decode cX11_areDays 1 = .ok (.invokestatic 136, 3) := by decide +kernel
theorem dX11_areDays_4 : decode cX11_areDays 4 = .ok (.ifCond .eq 19, 3) := by decide +kernel
theorem dX11_areDays_7 : decode cX11_areDays 7 = .ok (.iload_n 1, 1) := by decide +kernel
theorem dX11_areDays_8 : decode cX11_areDays 8 = .ok (.invokestatic 136, 3) := by decide +kernel
theorem dX11_areDays_11 : decode cX11_areDays 11 = .ok (.ifCond .eq 12, 3) := by decide +kernel
theorem dX11_areDays_14 : decode cX11_areDays 14 = .ok (.iload_n 0, 1) := by decide +kernel
theorem dX11_areDays_15 : decode cX11_areDays 15 = .ok (.iload_n 1, 1) := by decide +kernel
theorem dX11_areDays_16 : decode cX11_areDays 16 = .ok (.if_icmp .gt 7, 3) := by decide +kernel
theorem dX11_areDays_19 : decode cX11_areDays 19 = .ok (.iconst 1, 1) := by decide +kernel
theorem dX11_areDays_20 : decode cX11_areDays 20 = .ok (.goto 4, 3) := by decide +kernel
theorem dX11_areDays_23 : decode cX11_areDays 23 = .ok (.iconst 0, 1) := by decide +kernel
theorem dX11_areDays_24 : decode cX11_areDays 24 = .ok (.ireturn, 1) := by decide +kernel
theorem dX11_areDaysAfter_0 : decode cX11_areDaysAfter 0 = .ok (.iload_n 0, 1) := by decide +kernel
theorem dX11_areDaysAfter_1 : decode cX11_areDaysAfter 1 = .ok (.invokestatic 136, 3) := by decide +kernel
theorem dX11_areDaysAfter_4 : decode cX11_areDaysAfter 4 = .ok (.ifCond .eq 20, 3) := by decide +kernel
theorem dX11_areDaysAfter_7 : decode cX11_areDaysAfter 7 = .ok (.iload_n 1, 1) := by decide +kernel
theorem dX11_areDaysAfter_8 : decode cX11_areDaysAfter 8 = .ok (.iload_n 2, 1) := by decide +kernel
theorem dX11_areDaysAfter_9 : decode cX11_areDaysAfter 9 = .ok (.invokestatic 189, 3) := by decide +kernel
theorem dX11_areDaysAfter_12 : decode cX11_areDaysAfter 12 = .ok (.ifCond .eq 12, 3) := by decide +kernel
theorem dX11_areDaysAfter_15 : decode cX11_areDaysAfter 15 = .ok (.iload_n 1, 1) := by decide +kernel
theorem dX11_areDaysAfter_16 : decode cX11_areDaysAfter 16 = .ok (.iload_n 0, 1) := by decide +kernel
theorem dX11_areDaysAfter_17 : decode cX11_areDaysAfter 17 = .ok (.if_icmp .le 7, 3) := by decide +kernel
theorem dX11_areDaysAfter_20 : decode cX11_areDaysAfter 20 = .ok (.iconst 1, 1) := by decide +kernel
theorem dX11_areDaysAfter_21 : decode cX11_areDaysAfter 21 = .ok (.goto 4, 3) := by decide +kernel
theorem dX11_areDaysAfter_24 : decode cX11_areDaysAfter 24 = .ok (.iconst 0, 1) := by decide +kernel
theorem dX11_areDaysAfter_25 : decode cX11_areDaysAfter 25 = .ok (.ireturn, 1) := by decide +kernel
theorem dX11_isSize_0 : decode cX11_isSize 0 = .ok (.iload_n 0, 1) := by decide +kernel
theorem dX11_isSize_1 : decode cX11_isSize 1 = .ok (.iconst 1, 1) := by decide +kernel
theorem dX11_isSize_2 : decode cX11_isSize 2 = .ok (.bipush 9, 2) := by decide +kernel
theorem dX11_isSize_4 : decode cX11_isSize 4 = .ok (.invokestatic 96, 3) := by decide +kernel
theorem dX11_isSize_7 : decode cX11_isSize 7 = .ok (.ireturn, 1) := by decide +kernel
theorem dX11_isKind_0 : decode cX11_isKind 0 = .ok (.iload_n 0, 1) := by decide +kernel
theorem dX11_isKind_1 : decode cX11_isKind 1 = .ok (.iconst 0, 1) := by decide +kernel
theorem dX11_isKind_2 : decode cX11_isKind 2 = .ok (.bipush 7, 2) := by decide +kernel
theorem dX11_isKind_4 : decode cX11_isKind 4 = .ok (.invokestatic 96, 3) := by decide +kernel
theorem dX11_isKind_7 : decode cX11_isKind 7 = .ok (.ireturn, 1) := by decide +kernel
theorem dX11_isKindSet_0 : decode cX11_isKindSet 0 = .ok (.iload_n 0, 1) := by decide +kernel
theorem dX11_isKindSet_1 : decode cX11_isKindSet 1 = .ok (.iconst 0, 1) := by decide +kernel
theorem dX11_isKindSet_2 : decode cX11_isKindSet 2 = .ok (.sipush 255, 3) := by decide +kernel
theorem dX11_isKindSet_5 : decode cX11_isKindSet 5 = .ok (.invokestatic 96, 3) := by decide +kernel
theorem dX11_isKindSet_8 : decode cX11_isKindSet 8 = .ok (.ireturn, 1) := by decide +kernel
theorem dX11_isWindow_0 : decode cX11_isWindow 0 = .ok (.iload_n 0, 1) := by decide +kernel
theorem dX11_isWindow_1 : decode cX11_isWindow 1 = .ok (.iconst 1, 1) := by decide +kernel
theorem dX11_isWindow_2 : decode cX11_isWindow 2 = .ok (.bipush 60, 2) := by decide +kernel
theorem dX11_isWindow_4 : decode cX11_isWindow 4 = .ok (.invokestatic 96, 3) := by decide +kernel
theorem dX11_isWindow_7 : decode cX11_isWindow 7 = .ok (.ireturn, 1) := by decide +kernel
theorem dX11_isThousandth_0 : decode cX11_isThousandth 0 = .ok (.iload_n 0, 1) := by decide +kernel
theorem dX11_isThousandth_1 : decode cX11_isThousandth 1 = .ok (.iconst 0, 1) := by decide +kernel
theorem dX11_isThousandth_2 : decode cX11_isThousandth 2 = .ok (.sipush 1000, 3) := by decide +kernel
theorem dX11_isThousandth_5 : decode cX11_isThousandth 5 = .ok (.invokestatic 96, 3) := by decide +kernel
theorem dX11_isThousandth_8 : decode cX11_isThousandth 8 = .ok (.ireturn, 1) := by decide +kernel
theorem dX11_areTownBounds_0 : decode cX11_areTownBounds 0 = .ok (.iload_n 0, 1) := by decide +kernel
theorem dX11_areTownBounds_1 : decode cX11_areTownBounds 1 = .ok (.invokestatic 130, 3) := by decide +kernel
theorem dX11_areTownBounds_4 : decode cX11_areTownBounds 4 = .ok (.ifCond .eq 43, 3) := by decide +kernel
theorem dX11_areTownBounds_7 : decode cX11_areTownBounds 7 = .ok (.iload_n 1, 1) := by decide +kernel
theorem dX11_areTownBounds_8 : decode cX11_areTownBounds 8 = .ok (.iconst 1, 1) := by decide +kernel
theorem dX11_areTownBounds_9 : decode cX11_areTownBounds 9 = .ok (.sipush 999, 3) := by decide +kernel
theorem dX11_areTownBounds_12 : decode cX11_areTownBounds 12 = .ok (.invokestatic 96, 3) := by decide +kernel
theorem dX11_areTownBounds_15 : decode cX11_areTownBounds 15 = .ok (.ifCond .eq 32, 3) := by decide +kernel
theorem dX11_areTownBounds_18 : decode cX11_areTownBounds 18 = .ok (.iload_n 2, 1) := by decide +kernel
theorem dX11_areTownBounds_19 : decode cX11_areTownBounds 19 = .ok (.iconst 1, 1) := by decide +kernel
theorem dX11_areTownBounds_20 : decode cX11_areTownBounds 20 = .ok (.sipush 9999, 3) := by decide +kernel
theorem dX11_areTownBounds_23 : decode cX11_areTownBounds 23 = .ok (.invokestatic 96, 3) := by decide +kernel
theorem dX11_areTownBounds_26 : decode cX11_areTownBounds 26 = .ok (.ifCond .eq 21, 3) := by decide +kernel
theorem dX11_areTownBounds_29 : decode cX11_areTownBounds 29 = .ok (.iload_n 3, 1) := by decide +kernel
theorem dX11_areTownBounds_30 : decode cX11_areTownBounds 30 = .ok (.iconst 1, 1) := by decide +kernel
theorem dX11_areTownBounds_31 : decode cX11_areTownBounds 31 = .ok (.if_icmp .lt 16, 3) := by decide +kernel
theorem dX11_areTownBounds_34 : decode cX11_areTownBounds 34 = .ok (.iload_n 3, 1) := by decide +kernel
theorem dX11_areTownBounds_35 : decode cX11_areTownBounds 35 = .ok (.iload 4, 2) := by decide +kernel
theorem dX11_areTownBounds_37 : decode cX11_areTownBounds 37 = .ok (.invokestatic 189, 3) := by decide +kernel
theorem dX11_areTownBounds_40 : decode cX11_areTownBounds 40 = .ok (.ifCond .eq 7, 3) := by decide +kernel
theorem dX11_areTownBounds_43 : decode cX11_areTownBounds 43 = .ok (.iconst 1, 1) := by decide +kernel
theorem dX11_areTownBounds_44 : decode cX11_areTownBounds 44 = .ok (.goto 4, 3) := by decide +kernel
theorem dX11_areTownBounds_47 : decode cX11_areTownBounds 47 = .ok (.iconst 0, 1) := by decide +kernel
theorem dX11_areTownBounds_48 : decode cX11_areTownBounds 48 = .ok (.ireturn, 1) := by decide +kernel
theorem dX11_distance_0 : decode cX11_distance 0 = .ok (.iload_n 0, 1) := by decide +kernel
theorem dX11_distance_1 : decode cX11_distance 1 = .ok (.bipush 8, 2) := by decide +kernel
theorem dX11_distance_3 : decode cX11_distance 3 = .ok (.idiv, 1) := by decide +kernel
theorem dX11_distance_4 : decode cX11_distance 4 = .ok (.iload_n 1, 1) := by decide +kernel
theorem dX11_distance_5 : decode cX11_distance 5 = .ok (.bipush 8, 2) := by decide +kernel
theorem dX11_distance_7 : decode cX11_distance 7 = .ok (.idiv, 1) := by decide +kernel
theorem dX11_distance_8 : decode cX11_distance 8 = .ok (.isub, 1) := by decide +kernel
theorem dX11_distance_9 : decode cX11_distance 9 = .ok (.invokestatic 334, 3) := by decide +kernel
theorem dX11_distance_12 : decode cX11_distance 12 = .ok (.iload_n 0, 1) := by decide +kernel
theorem dX11_distance_13 : decode cX11_distance 13 = .ok (.bipush 8, 2) := by decide +kernel
theorem dX11_distance_15 : decode cX11_distance 15 = .ok (.irem, 1) := by decide +kernel
theorem dX11_distance_16 : decode cX11_distance 16 = .ok (.iload_n 1, 1) := by decide +kernel
theorem dX11_distance_17 : decode cX11_distance 17 = .ok (.bipush 8, 2) := by decide +kernel
theorem dX11_distance_19 : decode cX11_distance 19 = .ok (.irem, 1) := by decide +kernel
theorem dX11_distance_20 : decode cX11_distance 20 = .ok (.isub, 1) := by decide +kernel
theorem dX11_distance_21 : decode cX11_distance 21 = .ok (.invokestatic 334, 3) := by decide +kernel
theorem dX11_distance_24 : decode cX11_distance 24 = .ok (.invokestatic 339, 3) := by decide +kernel
theorem dX11_distance_27 : decode cX11_distance 27 = .ok (.ireturn, 1) := by decide +kernel
theorem dX11_howManyNear_0 : decode cX11_howManyNear 0 = .ok (.iload_n 0, 1) := by decide +kernel
theorem dX11_howManyNear_1 : decode cX11_howManyNear 1 = .ok (.bipush 8, 2) := by decide +kernel
theorem dX11_howManyNear_3 : decode cX11_howManyNear 3 = .ok (.idiv, 1) := by decide +kernel
theorem dX11_howManyNear_4 : decode cX11_howManyNear 4 = .ok (.iload_n 1, 1) := by decide +kernel
theorem dX11_howManyNear_5 : decode cX11_howManyNear 5 = .ok (.iload_n 0, 1) := by decide +kernel
theorem dX11_howManyNear_6 : decode cX11_howManyNear 6 = .ok (.bipush 8, 2) := by decide +kernel
theorem dX11_howManyNear_8 : decode cX11_howManyNear 8 = .ok (.idiv, 1) := by decide +kernel
theorem dX11_howManyNear_9 : decode cX11_howManyNear 9 = .ok (.iload_n 1, 1) := by decide +kernel
theorem dX11_howManyNear_10 : decode cX11_howManyNear 10 = .ok (.invokestatic 342, 3) := by decide +kernel
theorem dX11_howManyNear_13 : decode cX11_howManyNear 13 = .ok (.iload_n 0, 1) := by decide +kernel
theorem dX11_howManyNear_14 : decode cX11_howManyNear 14 = .ok (.bipush 8, 2) := by decide +kernel
theorem dX11_howManyNear_16 : decode cX11_howManyNear 16 = .ok (.irem, 1) := by decide +kernel
theorem dX11_howManyNear_17 : decode cX11_howManyNear 17 = .ok (.iload_n 1, 1) := by decide +kernel
theorem dX11_howManyNear_18 : decode cX11_howManyNear 18 = .ok (.iload_n 0, 1) := by decide +kernel
theorem dX11_howManyNear_19 : decode cX11_howManyNear 19 = .ok (.bipush 8, 2) := by decide +kernel
theorem dX11_howManyNear_21 : decode cX11_howManyNear 21 = .ok (.irem, 1) := by decide +kernel
theorem dX11_howManyNear_22 : decode cX11_howManyNear 22 = .ok (.iload_n 1, 1) := by decide +kernel
theorem dX11_howManyNear_23 : decode cX11_howManyNear 23 = .ok (.invokestatic 342, 3) := by decide +kernel
theorem dX11_howManyNear_26 : decode cX11_howManyNear 26 = .ok (.imul, 1) := by decide +kernel
theorem dX11_howManyNear_27 : decode cX11_howManyNear 27 = .ok (.ireturn, 1) := by decide +kernel
theorem dX11_howManyNearBoth_0 : decode cX11_howManyNearBoth 0 = .ok (.iload_n 0, 1) := by decide +kernel
theorem dX11_howManyNearBoth_1 : decode cX11_howManyNearBoth 1 = .ok (.bipush 8, 2) := by decide +kernel
theorem dX11_howManyNearBoth_3 : decode cX11_howManyNearBoth 3 = .ok (.idiv, 1) := by decide +kernel
theorem dX11_howManyNearBoth_4 : decode cX11_howManyNearBoth 4 = .ok (.iload_n 1, 1) := by decide +kernel
theorem dX11_howManyNearBoth_5 : decode cX11_howManyNearBoth 5 = .ok (.iload_n 2, 1) := by decide +kernel
theorem dX11_howManyNearBoth_6 : decode cX11_howManyNearBoth 6 = .ok (.bipush 8, 2) := by decide +kernel
theorem dX11_howManyNearBoth_8 : decode cX11_howManyNearBoth 8 = .ok (.idiv, 1) := by decide +kernel
theorem dX11_howManyNearBoth_9 : decode cX11_howManyNearBoth 9 = .ok (.iload_n 3, 1) := by decide +kernel
theorem dX11_howManyNearBoth_10 : decode cX11_howManyNearBoth 10 = .ok (.invokestatic 342, 3) := by decide +kernel
theorem dX11_howManyNearBoth_13 : decode cX11_howManyNearBoth 13 = .ok (.iload_n 0, 1) := by decide +kernel
theorem dX11_howManyNearBoth_14 : decode cX11_howManyNearBoth 14 = .ok (.bipush 8, 2) := by decide +kernel
theorem dX11_howManyNearBoth_16 : decode cX11_howManyNearBoth 16 = .ok (.irem, 1) := by decide +kernel
theorem dX11_howManyNearBoth_17 : decode cX11_howManyNearBoth 17 = .ok (.iload_n 1, 1) := by decide +kernel
theorem dX11_howManyNearBoth_18 : decode cX11_howManyNearBoth 18 = .ok (.iload_n 2, 1) := by decide +kernel
theorem dX11_howManyNearBoth_19 : decode cX11_howManyNearBoth 19 = .ok (.bipush 8, 2) := by decide +kernel
theorem dX11_howManyNearBoth_21 : decode cX11_howManyNearBoth 21 = .ok (.irem, 1) := by decide +kernel
theorem dX11_howManyNearBoth_22 : decode cX11_howManyNearBoth 22 = .ok (.iload_n 3, 1) := by decide +kernel
theorem dX11_howManyNearBoth_23 : decode cX11_howManyNearBoth 23 = .ok (.invokestatic 342, 3) := by decide +kernel
theorem dX11_howManyNearBoth_26 : decode cX11_howManyNearBoth 26 = .ok (.imul, 1) := by decide +kernel
theorem dX11_howManyNearBoth_27 : decode cX11_howManyNearBoth 27 = .ok (.ireturn, 1) := by decide +kernel
theorem dX11_sharedLength_0 : decode cX11_sharedLength 0 = .ok (.iconst 0, 1) := by decide +kernel
theorem dX11_sharedLength_1 : decode cX11_sharedLength 1 = .ok (.iload_n 0, 1) := by decide +kernel
theorem dX11_sharedLength_2 : decode cX11_sharedLength 2 = .ok (.iload_n 1, 1) := by decide +kernel
theorem dX11_sharedLength_3 : decode cX11_sharedLength 3 = .ok (.isub, 1) := by decide +kernel
theorem dX11_sharedLength_4 : decode cX11_sharedLength 4 = .ok (.iload_n 2, 1) := by decide +kernel
theorem dX11_sharedLength_5 : decode cX11_sharedLength 5 = .ok (.iload_n 3, 1) := by decide +kernel
theorem dX11_sharedLength_6 : decode cX11_sharedLength 6 = .ok (.isub, 1) := by decide +kernel
theorem dX11_sharedLength_7 : decode cX11_sharedLength 7 = .ok (.invokestatic 339, 3) := by decide +kernel
theorem dX11_sharedLength_10 : decode cX11_sharedLength 10 = .ok (.invokestatic 339, 3) := by decide +kernel
theorem dX11_sharedLength_13 : decode cX11_sharedLength 13 = .ok (.istore 4, 2) := by decide +kernel
theorem dX11_sharedLength_15 : decode cX11_sharedLength 15 = .ok (.bipush 7, 2) := by decide +kernel
theorem dX11_sharedLength_17 : decode cX11_sharedLength 17 = .ok (.iload_n 0, 1) := by decide +kernel
theorem dX11_sharedLength_18 : decode cX11_sharedLength 18 = .ok (.iload_n 1, 1) := by decide +kernel
theorem dX11_sharedLength_19 : decode cX11_sharedLength 19 = .ok (.iadd, 1) := by decide +kernel
theorem dX11_sharedLength_20 : decode cX11_sharedLength 20 = .ok (.iload_n 2, 1) := by decide +kernel
theorem dX11_sharedLength_21 : decode cX11_sharedLength 21 = .ok (.iload_n 3, 1) := by decide +kernel
theorem dX11_sharedLength_22 : decode cX11_sharedLength 22 = .ok (.iadd, 1) := by decide +kernel
theorem dX11_sharedLength_23 : decode cX11_sharedLength 23 = .ok (.invokestatic 345, 3) := by decide +kernel
theorem dX11_sharedLength_26 : decode cX11_sharedLength 26 = .ok (.invokestatic 345, 3) := by decide +kernel
theorem dX11_sharedLength_29 : decode cX11_sharedLength 29 = .ok (.istore 5, 2) := by decide +kernel
theorem dX11_sharedLength_31 : decode cX11_sharedLength 31 = .ok (.iconst 0, 1) := by decide +kernel
theorem dX11_sharedLength_32 : decode cX11_sharedLength 32 = .ok (.iload 5, 2) := by decide +kernel
theorem dX11_sharedLength_34 : decode cX11_sharedLength 34 = .ok (.iload 4, 2) := by decide +kernel
theorem dX11_sharedLength_36 : decode cX11_sharedLength 36 = .ok (.isub, 1) := by decide +kernel
theorem dX11_sharedLength_37 : decode cX11_sharedLength 37 = .ok (.iconst 1, 1) := by decide +kernel
theorem dX11_sharedLength_38 : decode cX11_sharedLength 38 = .ok (.iadd, 1) := by decide +kernel
theorem dX11_sharedLength_39 : decode cX11_sharedLength 39 = .ok (.invokestatic 339, 3) := by decide +kernel
theorem dX11_sharedLength_42 : decode cX11_sharedLength 42 = .ok (.ireturn, 1) := by decide +kernel
theorem dX11_placeNear_0 : decode cX11_placeNear 0 = .ok (.iconst 0, 1) := by decide +kernel
theorem dX11_placeNear_1 : decode cX11_placeNear 1 = .ok (.iload_n 0, 1) := by decide +kernel
theorem dX11_placeNear_2 : decode cX11_placeNear 2 = .ok (.bipush 8, 2) := by decide +kernel
theorem dX11_placeNear_4 : decode cX11_placeNear 4 = .ok (.idiv, 1) := by decide +kernel
theorem dX11_placeNear_5 : decode cX11_placeNear 5 = .ok (.iload_n 1, 1) := by decide +kernel
theorem dX11_placeNear_6 : decode cX11_placeNear 6 = .ok (.isub, 1) := by decide +kernel
theorem dX11_placeNear_7 : decode cX11_placeNear 7 = .ok (.invokestatic 339, 3) := by decide +kernel
theorem dX11_placeNear_10 : decode cX11_placeNear 10 = .ok (.istore_n 3, 1) := by decide +kernel
theorem dX11_placeNear_11 : decode cX11_placeNear 11 = .ok (.iconst 0, 1) := by decide +kernel
theorem dX11_placeNear_12 : decode cX11_placeNear 12 = .ok (.iload_n 0, 1) := by decide +kernel
theorem dX11_placeNear_13 : decode cX11_placeNear 13 = .ok (.bipush 8, 2) := by decide +kernel
theorem dX11_placeNear_15 : decode cX11_placeNear 15 = .ok (.irem, 1) := by decide +kernel
theorem dX11_placeNear_16 : decode cX11_placeNear 16 = .ok (.iload_n 1, 1) := by decide +kernel
theorem dX11_placeNear_17 : decode cX11_placeNear 17 = .ok (.isub, 1) := by decide +kernel
theorem dX11_placeNear_18 : decode cX11_placeNear 18 = .ok (.invokestatic 339, 3) := by decide +kernel
theorem dX11_placeNear_21 : decode cX11_placeNear 21 = .ok (.istore 4, 2) := by decide +kernel
theorem dX11_placeNear_23 : decode cX11_placeNear 23 = .ok (.iload_n 0, 1) := by decide +kernel
theorem dX11_placeNear_24 : decode cX11_placeNear 24 = .ok (.bipush 8, 2) := by decide +kernel
theorem dX11_placeNear_26 : decode cX11_placeNear 26 = .ok (.irem, 1) := by decide +kernel
theorem dX11_placeNear_27 : decode cX11_placeNear 27 = .ok (.iload_n 1, 1) := by decide +kernel
theorem dX11_placeNear_28 : decode cX11_placeNear 28 = .ok (.iload_n 0, 1) := by decide +kernel
theorem dX11_placeNear_29 : decode cX11_placeNear 29 = .ok (.bipush 8, 2) := by decide +kernel
theorem dX11_placeNear_31 : decode cX11_placeNear 31 = .ok (.irem, 1) := by decide +kernel
theorem dX11_placeNear_32 : decode cX11_placeNear 32 = .ok (.iload_n 1, 1) := by decide +kernel
theorem dX11_placeNear_33 : decode cX11_placeNear 33 = .ok (.invokestatic 342, 3) := by decide +kernel
theorem dX11_placeNear_36 : decode cX11_placeNear 36 = .ok (.istore 5, 2) := by decide +kernel
theorem dX11_placeNear_38 : decode cX11_placeNear 38 = .ok (.iload 5, 2) := by decide +kernel
theorem dX11_placeNear_40 : decode cX11_placeNear 40 = .ok (.iconst 1, 1) := by decide +kernel
theorem dX11_placeNear_41 : decode cX11_placeNear 41 = .ok (.if_icmp .ge 7, 3) := by decide +kernel
theorem dX11_placeNear_44 : decode cX11_placeNear 44 = .ok (.iload_n 0, 1) := by decide +kernel
theorem dX11_placeNear_45 : decode cX11_placeNear 45 = .ok (.goto 20, 3) := by decide +kernel
theorem dX11_placeNear_48 : decode cX11_placeNear 48 = .ok (.iload_n 3, 1) := by decide +kernel
theorem dX11_placeNear_49 : decode cX11_placeNear 49 = .ok (.iload_n 2, 1) := by decide +kernel
theorem dX11_placeNear_50 : decode cX11_placeNear 50 = .ok (.iload 5, 2) := by decide +kernel
theorem dX11_placeNear_52 : decode cX11_placeNear 52 = .ok (.idiv, 1) := by decide +kernel
theorem dX11_placeNear_53 : decode cX11_placeNear 53 = .ok (.iadd, 1) := by decide +kernel
theorem dX11_placeNear_54 : decode cX11_placeNear 54 = .ok (.bipush 8, 2) := by decide +kernel
theorem dX11_placeNear_56 : decode cX11_placeNear 56 = .ok (.imul, 1) := by decide +kernel
theorem dX11_placeNear_57 : decode cX11_placeNear 57 = .ok (.iload 4, 2) := by decide +kernel
theorem dX11_placeNear_59 : decode cX11_placeNear 59 = .ok (.iadd, 1) := by decide +kernel
theorem dX11_placeNear_60 : decode cX11_placeNear 60 = .ok (.iload_n 2, 1) := by decide +kernel
theorem dX11_placeNear_61 : decode cX11_placeNear 61 = .ok (.iload 5, 2) := by decide +kernel
theorem dX11_placeNear_63 : decode cX11_placeNear 63 = .ok (.irem, 1) := by decide +kernel
theorem dX11_placeNear_64 : decode cX11_placeNear 64 = .ok (.iadd, 1) := by decide +kernel
theorem dX11_placeNear_65 : decode cX11_placeNear 65 = .ok (.ireturn, 1) := by decide +kernel
theorem dX12_init_0 : decode cX12_init 0 = .ok (.aload_n 0, 1) := by decide +kernel
theorem dX12_init_1 : decode cX12_init 1 = .ok (.invokespecial 1, 3) := by decide +kernel
theorem dX12_init_4 : decode cX12_init 4 = .ok (.aload_n 0, 1) := by decide +kernel
theorem dX12_init_5 : decode cX12_init 5 = .ok (.bipush 8, 2) := by decide +kernel
theorem dX12_init_7 : decode cX12_init 7 = .ok (.newarray .int, 2) := by decide +kernel
theorem dX12_init_9 : decode cX12_init 9 = .ok (.putfield 7, 3) := by decide +kernel
theorem dX12_init_12 : decode cX12_init 12 = .ok (.aload_n 0, 1) := by decide +kernel
theorem dX12_init_13 : decode cX12_init 13 = .ok (.sipush 160, 3) := by decide +kernel
theorem dX12_init_16 : decode cX12_init 16 = .ok (.newarray .int, 2) := by decide +kernel
theorem dX12_init_18 : decode cX12_init 18 = .ok (.putfield 13, 3) := by decide +kernel
theorem dX12_init_21 : decode cX12_init 21 = .ok (.aload_n 0, 1) := by decide +kernel
theorem dX12_init_22 : decode cX12_init 22 = .ok (.iconst (-1), 1) := by decide +kernel
theorem dX12_init_23 : decode cX12_init 23 = .ok (.putfield 16, 3) := by decide +kernel
theorem dX12_init_26 : decode cX12_init 26 = .ok (.aload_n 0, 1) := by decide +kernel
theorem dX12_init_27 : decode cX12_init 27 = .ok (.bipush 8, 2) := by decide +kernel
theorem dX12_init_29 : decode cX12_init 29 = .ok (.newarray .int, 2) := by decide +kernel
theorem dX12_init_31 : decode cX12_init 31 = .ok (.putfield 20, 3) := by decide +kernel
theorem dX12_init_34 : decode cX12_init 34 = .ok (.aload_n 0, 1) := by decide +kernel
theorem dX12_init_35 : decode cX12_init 35 = .ok (.bipush 60, 2) := by decide +kernel
theorem dX12_init_37 : decode cX12_init 37 = .ok (.newarray .int, 2) := by decide +kernel
theorem dX12_init_39 : decode cX12_init 39 = .ok (.putfield 23, 3) := by decide +kernel
theorem dX12_init_42 : decode cX12_init 42 = .ok (.aload_n 0, 1) := by decide +kernel
theorem dX12_init_43 : decode cX12_init 43 = .ok (.bipush 60, 2) := by decide +kernel
theorem dX12_init_45 : decode cX12_init 45 = .ok (.newarray .int, 2) := by decide +kernel
theorem dX12_init_47 : decode cX12_init 47 = .ok (.putfield 26, 3) := by decide +kernel
theorem dX12_init_50 : decode cX12_init 50 = .ok (.aload_n 0, 1) := by decide +kernel
theorem dX12_init_51 : decode cX12_init 51 = .ok (.bipush 60, 2) := by decide +kernel
theorem dX12_init_53 : decode cX12_init 53 = .ok (.newarray .int, 2) := by decide +kernel
theorem dX12_init_55 : decode cX12_init 55 = .ok (.putfield 29, 3) := by decide +kernel
theorem dX12_init_58 : decode cX12_init 58 = .ok (.aload_n 0, 1) := by decide +kernel
theorem dX12_init_59 : decode cX12_init 59 = .ok (.bipush 8, 2) := by decide +kernel
theorem dX12_init_61 : decode cX12_init 61 = .ok (.newarray .int, 2) := by decide +kernel
theorem dX12_init_63 : decode cX12_init 63 = .ok (.putfield 32, 3) := by decide +kernel
theorem dX12_init_66 : decode cX12_init 66 = .ok (.aload_n 0, 1) := by decide +kernel
theorem dX12_init_67 : decode cX12_init 67 = .ok (.bipush 8, 2) := by decide +kernel
theorem dX12_init_69 : decode cX12_init 69 = .ok (.newarray .int, 2) := by decide +kernel
theorem dX12_init_71 : decode cX12_init 71 = .ok (.putfield 35, 3) := by decide +kernel
theorem dX12_init_74 : decode cX12_init 74 = .ok (.aload_n 0, 1) := by decide +kernel
theorem dX12_init_75 : decode cX12_init 75 = .ok (.bipush 8, 2) := by decide +kernel
theorem dX12_init_77 : decode cX12_init 77 = .ok (.newarray .int, 2) := by decide +kernel
theorem dX12_init_79 : decode cX12_init 79 = .ok (.putfield 38, 3) := by decide +kernel
theorem dX12_init_82 : decode cX12_init 82 = .ok (.aload_n 0, 1) := by decide +kernel
theorem dX12_init_83 : decode cX12_init 83 = .ok (.sipush 400, 3) := by decide +kernel
theorem dX12_init_86 : decode cX12_init 86 = .ok (.newarray .boolean, 2) := by decide +kernel
theorem dX12_init_88 : decode cX12_init 88 = .ok (.putfield 41, 3) := by decide +kernel
theorem dX12_init_91 : decode cX12_init 91 = .ok (.aload_n 0, 1) := by decide +kernel
theorem dX12_init_92 : decode cX12_init 92 = .ok (.bipush 100, 2) := by decide +kernel
theorem dX12_init_94 : decode cX12_init 94 = .ok (.newarray .int, 2) := by decide +kernel
theorem dX12_init_96 : decode cX12_init 96 = .ok (.putfield 45, 3) := by decide +kernel
theorem dX12_init_99 : decode cX12_init 99 = .ok (.aload_n 0, 1) := by decide +kernel
theorem dX12_init_100 : decode cX12_init 100 = .ok (.bipush 100, 2) := by decide +kernel
theorem dX12_init_102 : decode cX12_init 102 = .ok (.newarray .int, 2) := by decide +kernel
theorem dX12_init_104 : decode cX12_init 104 = .ok (.putfield 48, 3) := by decide +kernel
theorem dX12_init_107 : decode cX12_init 107 = .ok (.aload_n 0, 1) := by decide +kernel
theorem dX12_init_108 : decode cX12_init 108 = .ok (.bipush 100, 2) := by decide +kernel
theorem dX12_init_110 : decode cX12_init 110 = .ok (.newarray .int, 2) := by decide +kernel
theorem dX12_init_112 : decode cX12_init 112 = .ok (.putfield 51, 3) := by decide +kernel
theorem dX12_init_115 : decode cX12_init 115 = .ok (.aload_n 0, 1) := by decide +kernel
theorem dX12_init_116 : decode cX12_init 116 = .ok (.bipush 100, 2) := by decide +kernel
theorem dX12_init_118 : decode cX12_init 118 = .ok (.newarray .int, 2) := by decide +kernel
theorem dX12_init_120 : decode cX12_init 120 = .ok (.putfield 54, 3) := by decide +kernel
theorem dX12_init_123 : decode cX12_init 123 = .ok (.aload_n 0, 1) := by decide +kernel
theorem dX12_init_124 : decode cX12_init 124 = .ok (.sipush 400, 3) := by decide +kernel
theorem dX12_init_127 : decode cX12_init 127 = .ok (.newarray .boolean, 2) := by decide +kernel
theorem dX12_init_129 : decode cX12_init 129 = .ok (.putfield 57, 3) := by decide +kernel
theorem dX12_init_132 : decode cX12_init 132 = .ok (.aload_n 0, 1) := by decide +kernel
theorem dX12_init_133 : decode cX12_init 133 = .ok (.sipush 400, 3) := by decide +kernel
theorem dX12_init_136 : decode cX12_init 136 = .ok (.newarray .boolean, 2) := by decide +kernel
theorem dX12_init_138 : decode cX12_init 138 = .ok (.putfield 60, 3) := by decide +kernel
theorem dX12_init_141 : decode cX12_init 141 = .ok (.aload_n 0, 1) := by decide +kernel
theorem dX12_init_142 : decode cX12_init 142 = .ok (.iconst 4, 1) := by decide +kernel
theorem dX12_init_143 : decode cX12_init 143 = .ok (.newarray .int, 2) := by decide +kernel
theorem dX12_init_145 : decode cX12_init 145 = .ok (.putfield 63, 3) := by decide +kernel
theorem dX12_init_148 : decode cX12_init 148 = .ok (.aload_n 0, 1) := by decide +kernel
theorem dX12_init_149 : decode cX12_init 149 = .ok (.bipush 84, 2) := by decide +kernel
theorem dX12_init_151 : decode cX12_init 151 = .ok (.newarray .int, 2) := by decide +kernel
theorem dX12_init_153 : decode cX12_init 153 = .ok (.putfield 66, 3) := by decide +kernel
theorem dX12_init_156 : decode cX12_init 156 = .ok (.aload_n 0, 1) := by decide +kernel
theorem dX12_init_157 : decode cX12_init 157 = .ok (.sipush 400, 3) := by decide +kernel
theorem dX12_init_160 : decode cX12_init 160 = .ok (.newarray .int, 2) := by decide +kernel
theorem dX12_init_162 : decode cX12_init 162 = .ok (.putfield 69, 3) := by decide +kernel
theorem dX12_init_165 : decode cX12_init 165 = .ok (.aload_n 0, 1) := by decide +kernel
theorem dX12_init_166 : decode cX12_init 166 = .ok (.sipush 400, 3) := by decide +kernel
theorem dX12_init_169 : decode cX12_init 169 = .ok (.newarray .int, 2) := by decide +kernel
theorem dX12_init_171 : decode cX12_init 171 = .ok (.putfield 72, 3) := by decide +kernel
theorem dX12_init_174 : decode cX12_init 174 = .ok (.aload_n 0, 1) := by decide +kernel
theorem dX12_init_175 : decode cX12_init 175 = .ok (.iconst 4, 1) := by decide +kernel
theorem dX12_init_176 : decode cX12_init 176 = .ok (.newarray .int, 2) := by decide +kernel
theorem dX12_init_178 : decode cX12_init 178 = .ok (.putfield 75, 3) := by decide +kernel
theorem dX12_init_181 : decode cX12_init 181 = .ok (.aload_n 0, 1) := by decide +kernel
theorem dX12_init_182 : decode cX12_init 182 = .ok (.sipush 201, 3) := by decide +kernel
theorem dX12_init_185 : decode cX12_init 185 = .ok (.newarray .int, 2) := by decide +kernel
theorem dX12_init_187 : decode cX12_init 187 = .ok (.putfield 78, 3) := by decide +kernel
theorem dX12_init_190 : decode cX12_init 190 = .ok (.aload_n 0, 1) := by decide +kernel
theorem dX12_init_191 : decode cX12_init 191 = .ok (.sipush 3721, 3) := by decide +kernel
theorem dX12_init_194 : decode cX12_init 194 = .ok (.newarray .int, 2) := by decide +kernel
theorem dX12_init_196 : decode cX12_init 196 = .ok (.putfield 81, 3) := by decide +kernel
theorem dX12_init_199 : decode cX12_init 199 = .ok (.aload_n 0, 1) := by decide +kernel
theorem dX12_init_200 : decode cX12_init 200 = .ok (.bipush 12, 2) := by decide +kernel
theorem dX12_init_202 : decode cX12_init 202 = .ok (.newarray .int, 2) := by decide +kernel
theorem dX12_init_204 : decode cX12_init 204 = .ok (.putfield 84, 3) := by decide +kernel
theorem dX12_init_207 : decode cX12_init 207 = .ok (.aload_n 0, 1) := by decide +kernel
theorem dX12_init_208 : decode cX12_init 208 = .ok (.bipush 12, 2) := by decide +kernel
theorem dX12_init_210 : decode cX12_init 210 = .ok (.newarray .int, 2) := by decide +kernel
theorem dX12_init_212 : decode cX12_init 212 = .ok (.putfield 87, 3) := by decide +kernel
theorem dX12_init_215 : decode cX12_init 215 = .ok (.aload_n 0, 1) := by decide +kernel
theorem dX12_init_216 : decode cX12_init 216 = .ok (.bipush 12, 2) := by decide +kernel
theorem dX12_init_218 : decode cX12_init 218 = .ok (.newarray .int, 2) := by decide +kernel
theorem dX12_init_220 : decode cX12_init 220 = .ok (.putfield 90, 3) := by decide +kernel
theorem dX12_init_223 : decode cX12_init 223 = .ok (.aload_n 0, 1) := by decide +kernel
theorem dX12_init_224 : decode cX12_init 224 = .ok (.sipush 400, 3) := by decide +kernel
theorem dX12_init_227 : decode cX12_init 227 = .ok (.newarray .int, 2) := by decide +kernel
theorem dX12_init_229 : decode cX12_init 229 = .ok (.putfield 93, 3) := by decide +kernel
theorem dX12_init_232 : decode cX12_init 232 = .ok (.aload_n 0, 1) := by decide +kernel
theorem dX12_init_233 : decode cX12_init 233 = .ok (.iconst 2, 1) := by decide +kernel
theorem dX12_init_234 : decode cX12_init 234 = .ok (.newarray .boolean, 2) := by decide +kernel
theorem dX12_init_236 : decode cX12_init 236 = .ok (.putfield 96, 3) := by decide +kernel
theorem dX12_init_239 : decode cX12_init 239 = .ok (.aload_n 0, 1) := by decide +kernel
theorem dX12_init_240 : decode cX12_init 240 = .ok (.invokevirtual 99, 3) := by decide +kernel
theorem dX12_init_243 : decode cX12_init 243 = .ok (.aload_n 0, 1) := by decide +kernel
theorem dX12_init_244 : decode cX12_init 244 = .ok (.invokevirtual 102, 3) := by decide +kernel
theorem dX12_init_247 : decode cX12_init 247 = .ok (.iconst 0, 1) := by decide +kernel
theorem dX12_init_248 : decode cX12_init 248 = .ok (.istore_n 1, 1) := by decide +kernel
theorem dX12_init_249 : decode cX12_init 249 = .ok (.iload_n 1, 1) := by decide +kernel
theorem dX12_init_250 : decode cX12_init 250 = .ok (.bipush 8, 2) := by decide +kernel
theorem dX12_init_252 : decode cX12_init 252 = .ok (.if_icmp .ge 16, 3) := by decide +kernel
theorem dX12_init_255 : decode cX12_init 255 = .ok (.aload_n 0, 1) := by decide +kernel
theorem dX12_init_256 : decode cX12_init 256 = .ok (.getfield 35, 3) := by decide +kernel
theorem dX12_init_259 : decode cX12_init 259 = .ok (.iload_n 1, 1) := by decide +kernel
theorem dX12_init_260 : decode cX12_init 260 = .ok (.iconst (-1), 1) := by decide +kernel
theorem dX12_init_261 : decode cX12_init 261 = .ok (.iastore, 1) := by decide +kernel
theorem dX12_init_262 : decode cX12_init 262 = .ok (.iinc 1 1, 3) := by decide +kernel
theorem dX12_init_265 : decode cX12_init 265 = .ok (.goto (-16), 3) := by decide +kernel
theorem dX12_init_268 : decode cX12_init 268 = .ok (.return_, 1) := by decide +kernel
theorem dX12_in_0 : decode cX12_in 0 = .ok (.lload_n 0, 1) := by decide +kernel
theorem dX12_in_1 : decode cX12_in 1 = .ok (.lload_n 2, 1) := by decide +kernel
theorem dX12_in_2 : decode cX12_in 2 = .ok (.lcmp, 1) := by decide +kernel
theorem dX12_in_3 : decode cX12_in 3 = .ok (.ifCond .lt 14, 3) := by decide +kernel
theorem dX12_in_6 : decode cX12_in 6 = .ok (.lload_n 0, 1) := by decide +kernel
theorem dX12_in_7 : decode cX12_in 7 = .ok (.lload 4, 2) := by decide +kernel
theorem dX12_in_9 : decode cX12_in 9 = .ok (.lcmp, 1) := by decide +kernel
theorem dX12_in_10 : decode cX12_in 10 = .ok (.ifCond .gt 7, 3) := by decide +kernel
theorem dX12_in_13 : decode cX12_in 13 = .ok (.iconst 1, 1) := by decide +kernel
theorem dX12_in_14 : decode cX12_in 14 = .ok (.goto 4, 3) := by decide +kernel
theorem dX12_in_17 : decode cX12_in 17 = .ok (.iconst 0, 1) := by decide +kernel
theorem dX12_in_18 : decode cX12_in 18 = .ok (.ireturn, 1) := by decide +kernel
theorem dX12_isPlace_0 : decode cX12_isPlace 0 = .ok (.iload_n 0, 1) := by decide +kernel
theorem dX12_isPlace_1 : decode cX12_isPlace 1 = .ok (.i2l, 1) := by decide +kernel
theorem dX12_isPlace_2 : decode cX12_isPlace 2 = .ok (.lconst 0, 1) := by decide +kernel
theorem dX12_isPlace_3 : decode cX12_isPlace 3 = .ok (.ldc2_w 105, 3) := by decide +kernel
theorem dX12_isPlace_6 : decode cX12_isPlace 6 = .ok (.invokestatic 107, 3) := by decide +kernel
theorem dX12_isPlace_9 : decode cX12_isPlace 9 = .ok (.ireturn, 1) := by decide +kernel
theorem dX12_isDay_0 : decode cX12_isDay 0 = .ok (.iload_n 0, 1) := by decide +kernel
theorem dX12_isDay_1 : decode cX12_isDay 1 = .ok (.i2l, 1) := by decide +kernel
theorem dX12_isDay_2 : decode cX12_isDay 2 = .ok (.lconst 0, 1) := by decide +kernel
theorem dX12_isDay_3 : decode cX12_isDay 3 = .ok (.ldc2_w 111, 3) := by decide +kernel
theorem dX12_isDay_6 : decode cX12_isDay 6 = .ok (.invokestatic 107, 3) := by decide +kernel
theorem dX12_isDay_9 : decode cX12_isDay 9 = .ok (.ireturn, 1) := by decide +kernel
theorem dX12_isSize_0 : decode cX12_isSize 0 = .ok (.iload_n 0, 1) := by decide +kernel
theorem dX12_isSize_1 : decode cX12_isSize 1 = .ok (.i2l, 1) := by decide +kernel
theorem dX12_isSize_2 : decode cX12_isSize 2 = .ok (.lconst 1, 1) := by decide +kernel
theorem dX12_isSize_3 : decode cX12_isSize 3 = .ok (.ldc2_w 113, 3) := by decide +kernel
theorem dX12_isSize_6 : decode cX12_isSize 6 = .ok (.invokestatic 107, 3) := by decide +kernel
theorem dX12_isSize_9 : decode cX12_isSize 9 = .ok (.ireturn, 1) := by decide +kernel
theorem dX12_isNear_0 : decode cX12_isNear 0 = .ok (.iload_n 0, 1) := by decide +kernel
theorem dX12_isNear_1 : decode cX12_isNear 1 = .ok (.i2l, 1) := by decide +kernel
theorem dX12_isNear_2 : decode cX12_isNear 2 = .ok (.lconst 0, 1) := by decide +kernel
theorem dX12_isNear_3 : decode cX12_isNear 3 = .ok (.ldc2_w 115, 3) := by decide +kernel
theorem dX12_isNear_6 : decode cX12_isNear 6 = .ok (.invokestatic 107, 3) := by decide +kernel
theorem dX12_isNear_9 : decode cX12_isNear 9 = .ok (.ireturn, 1) := by decide +kernel
theorem dX12_far_0 : decode cX12_far 0 = .ok (.iload_n 0, 1) := by decide +kernel
theorem dX12_far_1 : decode cX12_far 1 = .ok (.bipush 8, 2) := by decide +kernel
theorem dX12_far_3 : decode cX12_far 3 = .ok (.idiv, 1) := by decide +kernel
theorem dX12_far_4 : decode cX12_far 4 = .ok (.iload_n 1, 1) := by decide +kernel
theorem dX12_far_5 : decode cX12_far 5 = .ok (.bipush 8, 2) := by decide +kernel
theorem dX12_far_7 : decode cX12_far 7 = .ok (.idiv, 1) := by decide +kernel
theorem dX12_far_8 : decode cX12_far 8 = .ok (.isub, 1) := by decide +kernel
theorem dX12_far_9 : decode cX12_far 9 = .ok (.istore_n 2, 1) := by decide +kernel
theorem dX12_far_10 : decode cX12_far 10 = .ok (.iload_n 0, 1) := by decide +kernel
theorem dX12_far_11 : decode cX12_far 11 = .ok (.bipush 8, 2) := by decide +kernel
theorem dX12_far_13 : decode cX12_far 13 = .ok (.irem, 1) := by decide +kernel
theorem dX12_far_14 : decode cX12_far 14 = .ok (.iload_n 1, 1) := by decide +kernel
theorem dX12_far_15 : decode cX12_far 15 = .ok (.bipush 8, 2) := by decide +kernel
theorem dX12_far_17 : decode cX12_far 17 = .ok (.irem, 1) := by decide +kernel
theorem dX12_far_18 : decode cX12_far 18 = .ok (.isub, 1) := by decide +kernel
theorem dX12_far_19 : decode cX12_far 19 = .ok (.istore_n 3, 1) := by decide +kernel
theorem dX12_far_20 : decode cX12_far 20 = .ok (.iload_n 2, 1) := by decide +kernel
theorem dX12_far_21 : decode cX12_far 21 = .ok (.ifCond .ge 8, 3) := by decide +kernel
theorem dX12_far_24 : decode cX12_far 24 = .ok (.iload_n 2, 1) := by decide +kernel
theorem dX12_far_25 : decode cX12_far 25 = .ok (.ineg, 1) := by decide +kernel
theorem dX12_far_26 : decode cX12_far 26 = .ok (.goto 4, 3) := by decide +kernel
theorem dX12_far_29 : decode cX12_far 29 = .ok (.iload_n 2, 1) := by decide +kernel
theorem dX12_far_30 : decode cX12_far 30 = .ok (.istore_n 2, 1) := by decide +kernel
theorem dX12_far_31 : decode cX12_far 31 = .ok (.iload_n 3, 1) := by decide +kernel
theorem dX12_far_32 : decode cX12_far 32 = .ok (.ifCond .ge 8, 3) := by decide +kernel
theorem dX12_far_35 : decode cX12_far 35 = .ok (.iload_n 3, 1) := by decide +kernel
theorem dX12_far_36 : decode cX12_far 36 = .ok (.ineg, 1) := by decide +kernel
theorem dX12_far_37 : decode cX12_far 37 = .ok (.goto 4, 3) := by decide +kernel
theorem dX12_far_40 : decode cX12_far 40 = .ok (.iload_n 3, 1) := by decide +kernel
theorem dX12_far_41 : decode cX12_far 41 = .ok (.istore_n 3, 1) := by decide +kernel
theorem dX12_far_42 : decode cX12_far 42 = .ok (.iload_n 2, 1) := by decide +kernel
theorem dX12_far_43 : decode cX12_far 43 = .ok (.iload_n 3, 1) := by decide +kernel
theorem dX12_far_44 : decode cX12_far 44 = .ok (.if_icmp .le 7, 3) := by decide +kernel
theorem dX12_far_47 : decode cX12_far 47 = .ok (.iload_n 2, 1) := by decide +kernel
theorem dX12_far_48 : decode cX12_far 48 = .ok (.goto 4, 3) := by decide +kernel
theorem dX12_far_51 : decode cX12_far 51 = .ok (.iload_n 3, 1) := by decide +kernel
theorem dX12_far_52 : decode cX12_far 52 = .ok (.ireturn, 1) := by decide +kernel
theorem dX12_cellsOf_0 : decode cX12_cellsOf 0 = .ok (.iconst 0, 1) := by decide +kernel
theorem dX12_cellsOf_1 : decode cX12_cellsOf 1 = .ok (.istore_n 2, 1) := by decide +kernel
theorem dX12_cellsOf_2 : decode cX12_cellsOf 2 = .ok (.iconst 0, 1) := by decide +kernel
theorem dX12_cellsOf_3 : decode cX12_cellsOf 3 = .ok (.istore_n 3, 1) := by decide +kernel
theorem dX12_cellsOf_4 : decode cX12_cellsOf 4 = .ok (.iload_n 3, 1) := by decide +kernel
theorem dX12_cellsOf_5 : decode cX12_cellsOf 5 = .ok (.bipush 64, 2) := by decide +kernel
theorem dX12_cellsOf_7 : decode cX12_cellsOf 7 = .ok (.if_icmp .ge 26, 3) := by decide +kernel
theorem dX12_cellsOf_10 : decode cX12_cellsOf 10 = .ok (.iload_n 2, 1) := by decide +kernel
theorem dX12_cellsOf_11 : decode cX12_cellsOf 11 = .ok (.iload_n 0, 1) := by decide +kernel
theorem dX12_cellsOf_12 : decode cX12_cellsOf 12 = .ok (.iload_n 3, 1) := by decide +kernel
theorem dX12_cellsOf_13 : decode cX12_cellsOf 13 = .ok (.invokestatic 117, 3) := by decide +kernel
theorem dX12_cellsOf_16 : decode cX12_cellsOf 16 = .ok (.iload_n 1, 1) := by decide +kernel
theorem dX12_cellsOf_17 : decode cX12_cellsOf 17 = .ok (.if_icmp .gt 7, 3) := by decide +kernel
theorem dX12_cellsOf_20 : decode cX12_cellsOf 20 = .ok (.iconst 1, 1) := by decide +kernel
theorem dX12_cellsOf_21 : decode cX12_cellsOf 21 = .ok (.goto 4, 3) := by decide +kernel
theorem dX12_cellsOf_24 : decode cX12_cellsOf 24 = .ok (.iconst 0, 1) := by decide +kernel
theorem dX12_cellsOf_25 : decode cX12_cellsOf 25 = .ok (.iadd, 1) := by decide +kernel
theorem dX12_cellsOf_26 : decode cX12_cellsOf 26 = .ok (.istore_n 2, 1) := by decide +kernel
theorem dX12_cellsOf_27 : decode cX12_cellsOf 27 = .ok (.iinc 3 1, 3) := by decide +kernel
theorem dX12_cellsOf_30 : decode cX12_cellsOf 30 = .ok (.goto (-26), 3) := by decide +kernel
theorem dX12_cellsOf_33 : decode cX12_cellsOf 33 = .ok (.iload_n 2, 1) := by decide +kernel
theorem dX12_cellsOf_34 : decode cX12_cellsOf 34 = .ok (.ireturn, 1) := by decide +kernel
theorem dX12_shared_0 : decode cX12_shared 0 = .ok (.iconst 0, 1) := by decide +kernel
theorem dX12_shared_1 : decode cX12_shared 1 = .ok (.istore 4, 2) := by decide +kernel
theorem dX12_shared_3 : decode cX12_shared 3 = .ok (.iconst 0, 1) := by decide +kernel
theorem dX12_shared_4 : decode cX12_shared 4 = .ok (.istore 5, 2) := by decide +kernel
theorem dX12_shared_6 : decode cX12_shared 6 = .ok (.iload 5, 2) := by decide +kernel
theorem dX12_shared_8 : decode cX12_shared 8 = .ok (.bipush 64, 2) := by decide +kernel
theorem dX12_shared_10 : decode cX12_shared 10 = .ok (.if_icmp .ge 39, 3) := by decide +kernel
theorem dX12_shared_13 : decode cX12_shared 13 = .ok (.iload 4, 2) := by decide +kernel
theorem dX12_shared_15 : decode cX12_shared 15 = .ok (.iload_n 0, 1) := by decide +kernel
theorem dX12_shared_16 : decode cX12_shared 16 = .ok (.iload 5, 2) := by decide +kernel
theorem dX12_shared_18 : decode cX12_shared 18 = .ok (.invokestatic 117, 3) := by decide +kernel
theorem dX12_shared_21 : decode cX12_shared 21 = .ok (.iload_n 1, 1) := by decide +kernel
theorem dX12_shared_22 : decode cX12_shared 22 = .ok (.if_icmp .gt 17, 3) := by decide +kernel
theorem dX12_shared_25 : decode cX12_shared 25 = .ok (.iload_n 2, 1) := by decide +kernel
theorem dX12_shared_26 : decode cX12_shared 26 = .ok (.iload 5, 2) := by decide +kernel
theorem dX12_shared_28 : decode cX12_shared 28 = .ok (.invokestatic 117, 3) := by decide +kernel
theorem dX12_shared_31 : decode cX12_shared 31 = .ok (.iload_n 3, 1) := by decide +kernel
theorem dX12_shared_32 : decode cX12_shared 32 = .ok (.if_icmp .gt 7, 3) := by decide +kernel
theorem dX12_shared_35 : decode cX12_shared 35 = .ok (.iconst 1, 1) := by decide +kernel
theorem dX12_shared_36 : decode cX12_shared 36 = .ok (.goto 4, 3) := by decide +kernel
theorem dX12_shared_39 : decode cX12_shared 39 = .ok (.iconst 0, 1) := by decide +kernel
theorem dX12_shared_40 : decode cX12_shared 40 = .ok (.iadd, 1) := by decide +kernel
theorem dX12_shared_41 : decode cX12_shared 41 = .ok (.istore 4, 2) := by decide +kernel
theorem dX12_shared_43 : decode cX12_shared 43 = .ok (.iinc 5 1, 3) := by decide +kernel
theorem dX12_shared_46 : decode cX12_shared 46 = .ok (.goto (-40), 3) := by decide +kernel
theorem dX12_shared_49 : decode cX12_shared 49 = .ok (.iload 4, 2) := by decide +kernel
theorem dX12_shared_51 : decode cX12_shared 51 = .ok (.ireturn, 1) := by decide +kernel
theorem dX12_cells_0 : decode cX12_cells 0 = .ok (.iload_n 1, 1) := by decide +kernel
theorem dX12_cells_1 : decode cX12_cells 1 = .ok (.invokestatic 121, 3) := by decide +kernel
theorem dX12_cells_4 : decode cX12_cells 4 = .ok (.ifCond .ne 7, 3) := by decide +kernel
theorem dX12_cells_7 : decode cX12_cells 7 = .ok (.sipush (-1001), 3) := by decide +kernel
theorem dX12_cells_10 : decode cX12_cells 10 = .ok (.ireturn, 1) := by decide +kernel
theorem dX12_cells_11 : decode cX12_cells 11 = .ok (.iload_n 2, 1) := by decide +kernel
theorem dX12_cells_12 : decode cX12_cells 12 = .ok (.invokestatic 125, 3) := by decide +kernel
theorem dX12_cells_15 : decode cX12_cells 15 = .ok (.ifCond .eq 11, 3) := by decide +kernel
theorem dX12_cells_18 : decode cX12_cells 18 = .ok (.iload_n 1, 1) := by decide +kernel
theorem dX12_cells_19 : decode cX12_cells 19 = .ok (.iload_n 2, 1) := by decide +kernel
theorem dX12_cells_20 : decode cX12_cells 20 = .ok (.invokestatic 128, 3) := by decide +kernel
theorem dX12_cells_23 : decode cX12_cells 23 = .ok (.goto 6, 3) := by decide +kernel
theorem dX12_cells_26 : decode cX12_cells 26 = .ok (.sipush (-1002), 3) := by decide +kernel
theorem dX12_cells_29 : decode cX12_cells 29 = .ok (.ireturn, 1) := by decide +kernel
theorem dX12_feed_0 : decode cX12_feed 0 = .ok (.iload_n 1, 1) := by decide +kernel
theorem dX12_feed_1 : decode cX12_feed 1 = .ok (.i2l, 1) := by decide +kernel
theorem dX12_feed_2 : decode cX12_feed 2 = .ok (.lconst 1, 1) := by decide +kernel
theorem dX12_feed_3 : decode cX12_feed 3 = .ok (.ldc2_w 131, 3) := by decide +kernel
theorem dX12_feed_6 : decode cX12_feed 6 = .ok (.invokestatic 107, 3) := by decide +kernel
theorem dX12_feed_9 : decode cX12_feed 9 = .ok (.ifCond .ne 7, 3) := by decide +kernel
theorem dX12_feed_12 : decode cX12_feed 12 = .ok (.sipush (-1002), 3) := by decide +kernel
theorem dX12_feed_15 : decode cX12_feed 15 = .ok (.ireturn, 1) := by decide +kernel
theorem dX12_feed_16 : decode cX12_feed 16 = .ok (.aload_n 0, 1) := by decide +kernel
theorem dX12_feed_17 : decode cX12_feed 17 = .ok (.getfield 133, 3) := by decide +kernel
theorem dX12_feed_20 : decode cX12_feed 20 = .ok (.iload_n 1, 1) := by decide +kernel
theorem dX12_feed_21 : decode cX12_feed 21 = .ok (.iadd, 1) := by decide +kernel
theorem dX12_feed_22 : decode cX12_feed 22 = .ok (.sipush 160, 3) := by decide +kernel
theorem dX12_feed_25 : decode cX12_feed 25 = .ok (.if_icmp .le 7, 3) := by decide +kernel
theorem dX12_feed_28 : decode cX12_feed 28 = .ok (.sipush (-1004), 3) := by decide +kernel
theorem dX12_feed_31 : decode cX12_feed 31 = .ok (.ireturn, 1) := by decide +kernel
theorem dX12_feed_32 : decode cX12_feed 32 = .ok (.iload_n 1, 1) := by decide +kernel
theorem dX12_feed_33 : decode cX12_feed 33 = .ok (.iconst 1, 1) := by decide +kernel
theorem dX12_feed_34 : decode cX12_feed 34 = .ok (.isub, 1) := by decide +kernel
theorem dX12_feed_35 : decode cX12_feed 35 = .ok (.istore 4, 2) := by decide +kernel
theorem dX12_feed_37 : decode cX12_feed 37 = .ok (.iload 4, 2) := by decide +kernel
theorem dX12_feed_39 : decode cX12_feed 39 = .ok (.ifCond .lt 40, 3) := by decide +kernel
theorem dX12_feed_42 : decode cX12_feed 42 = .ok (.aload_n 0, 1) := by decide +kernel
theorem dX12_feed_43 : decode cX12_feed 43 = .ok (.getfield 13, 3) := by decide +kernel
theorem dX12_feed_46 : decode cX12_feed 46 = .ok (.aload_n 0, 1) := by decide +kernel
theorem dX12_feed_47 : decode cX12_feed 47 = .ok (.getfield 133, 3) := by decide +kernel
theorem dX12_feed_50 : decode cX12_feed 50 = .ok (.lload_n 2, 1) := by decide +kernel
theorem dX12_feed_51 : decode cX12_feed 51 = .ok (.bipush 8, 2) := by decide +kernel
theorem dX12_feed_53 : decode cX12_feed 53 = .ok (.iload 4, 2) := by decide +kernel
theorem dX12_feed_55 : decode cX12_feed 55 = .ok (.imul, 1) := by decide +kernel
theorem dX12_feed_56 : decode cX12_feed 56 = .ok (.lshr, 1) := by decide +kernel
theorem dX12_feed_57 : decode cX12_feed 57 = .ok (.ldc2_w 136, 3) := by decide +kernel
theorem dX12_feed_60 : decode cX12_feed 60 = .ok (.land, 1) := by decide +kernel
theorem dX12_feed_61 : decode cX12_feed 61 = .ok (.l2i, 1) := by decide +kernel
theorem dX12_feed_62 : decode cX12_feed 62 = .ok (.iastore, 1) := by decide +kernel
theorem dX12_feed_63 : decode cX12_feed 63 = .ok (.aload_n 0, 1) := by decide +kernel
theorem dX12_feed_64 : decode cX12_feed 64 = .ok (.dup, 1) := by decide +kernel
theorem dX12_feed_65 : decode cX12_feed 65 = .ok (.getfield 133, 3) := by decide +kernel
theorem dX12_feed_68 : decode cX12_feed 68 = .ok (.iconst 1, 1) := by decide +kernel
theorem dX12_feed_69 : decode cX12_feed 69 = .ok (.iadd, 1) := by decide +kernel
theorem dX12_feed_70 : decode cX12_feed 70 = .ok (.putfield 133, 3) := by decide +kernel
theorem dX12_feed_73 : decode cX12_feed 73 = .ok (.iinc 4 (-1), 3) := by decide +kernel
theorem dX12_feed_76 : decode cX12_feed 76 = .ok (.goto (-39), 3) := by decide +kernel
theorem dX12_feed_79 : decode cX12_feed 79 = .ok (.aload_n 0, 1) := by decide +kernel
theorem dX12_feed_80 : decode cX12_feed 80 = .ok (.getfield 133, 3) := by decide +kernel
theorem dX12_feed_83 : decode cX12_feed 83 = .ok (.ireturn, 1) := by decide +kernel
theorem dX12_here_0 : decode cX12_here 0 = .ok (.aload_n 0, 1) := by decide +kernel
theorem dX12_here_1 : decode cX12_here 1 = .ok (.getfield 138, 3) := by decide +kernel
theorem dX12_here_4 : decode cX12_here 4 = .ok (.aload_n 0, 1) := by decide +kernel
theorem dX12_here_5 : decode cX12_here 5 = .ok (.getfield 133, 3) := by decide +kernel
theorem dX12_here_8 : decode cX12_here 8 = .ok (.if_icmp .ge 30, 3) := by decide +kernel
theorem dX12_here_11 : decode cX12_here 11 = .ok (.aload_n 0, 1) := by decide +kernel
theorem dX12_here_12 : decode cX12_here 12 = .ok (.getfield 13, 3) := by decide +kernel
theorem dX12_here_15 : decode cX12_here 15 = .ok (.aload_n 0, 1) := by decide +kernel
theorem dX12_here_16 : decode cX12_here 16 = .ok (.getfield 138, 3) := by decide +kernel
theorem dX12_here_19 : decode cX12_here 19 = .ok (.iaload, 1) := by decide +kernel
theorem dX12_here_20 : decode cX12_here 20 = .ok (.bipush 32, 2) := by decide +kernel
theorem dX12_here_22 : decode cX12_here 22 = .ok (.if_icmp .ne 16, 3) := by decide +kernel
theorem dX12_here_25 : decode cX12_here 25 = .ok (.aload_n 0, 1) := by decide +kernel
theorem dX12_here_26 : decode cX12_here 26 = .ok (.dup, 1) := by decide +kernel
theorem dX12_here_27 : decode cX12_here 27 = .ok (.getfield 138, 3) := by decide +kernel
theorem dX12_here_30 : decode cX12_here 30 = .ok (.iconst 1, 1) := by decide +kernel
theorem dX12_here_31 : decode cX12_here 31 = .ok (.iadd, 1) := by decide +kernel
theorem dX12_here_32 : decode cX12_here 32 = .ok (.putfield 138, 3) := by decide +kernel
theorem dX12_here_35 : decode cX12_here 35 = .ok (.goto (-35), 3) := by decide +kernel
theorem dX12_here_38 : decode cX12_here 38 = .ok (.aload_n 0, 1) := by decide +kernel
theorem dX12_here_39 : decode cX12_here 39 = .ok (.getfield 138, 3) := by decide +kernel
theorem dX12_here_42 : decode cX12_here 42 = .ok (.aload_n 0, 1) := by decide +kernel
theorem dX12_here_43 : decode cX12_here 43 = .ok (.getfield 133, 3) := by decide +kernel
theorem dX12_here_46 : decode cX12_here 46 = .ok (.if_icmp .ge 15, 3) := by decide +kernel
theorem dX12_here_49 : decode cX12_here 49 = .ok (.aload_n 0, 1) := by decide +kernel
theorem dX12_here_50 : decode cX12_here 50 = .ok (.getfield 13, 3) := by decide +kernel
theorem dX12_here_53 : decode cX12_here 53 = .ok (.aload_n 0, 1) := by decide +kernel
theorem dX12_here_54 : decode cX12_here 54 = .ok (.getfield 138, 3) := by decide +kernel
theorem dX12_here_57 : decode cX12_here 57 = .ok (.iaload, 1) := by decide +kernel
theorem dX12_here_58 : decode cX12_here 58 = .ok (.goto 4, 3) := by decide +kernel
theorem dX12_here_61 : decode cX12_here 61 = .ok (.iconst (-1), 1) := by decide +kernel
theorem dX12_here_62 : decode cX12_here 62 = .ok (.ireturn, 1) := by decide +kernel
theorem dX12_fails_0 : decode cX12_fails 0 = .ok (.aload_n 0, 1) := by decide +kernel
theorem dX12_fails_1 : decode cX12_fails 1 = .ok (.iload_n 2, 1) := by decide +kernel
theorem dX12_fails_2 : decode cX12_fails 2 = .ok (.putfield 16, 3) := by decide +kernel
theorem dX12_fails_5 : decode cX12_fails 5 = .ok (.iload_n 1, 1) := by decide +kernel
theorem dX12_fails_6 : decode cX12_fails 6 = .ok (.ireturn, 1) := by decide +kernel
theorem dX12_readWord_0 : decode cX12_readWord 0 = .ok (.aload_n 0, 1) := by decide +kernel
theorem dX12_readWord_1 : decode cX12_readWord 1 = .ok (.invokevirtual 141, 3) := by decide +kernel
theorem dX12_readWord_4 : decode cX12_readWord 4 = .ok (.istore_n 1, 1) := by decide +kernel
theorem dX12_readWord_5 : decode cX12_readWord 5 = .ok (.aload_n 0, 1) := by decide +kernel
theorem dX12_readWord_6 : decode cX12_readWord 6 = .ok (.lconst 0, 1) := by decide +kernel
theorem dX12_readWord_7 : decode cX12_readWord 7 = .ok (.putfield 145, 3) := by decide +kernel
theorem dX12_readWord_10 : decode cX12_readWord 10 = .ok (.aload_n 0, 1) := by decide +kernel
theorem dX12_readWord_11 : decode cX12_readWord 11 = .ok (.aload_n 0, 1) := by decide +kernel
theorem dX12_readWord_12 : decode cX12_readWord 12 = .ok (.getfield 138, 3) := by decide +kernel
theorem dX12_readWord_15 : decode cX12_readWord 15 = .ok (.putfield 149, 3) := by decide +kernel
theorem dX12_readWord_18 : decode cX12_readWord 18 = .ok (.aload_n 0, 1) := by decide +kernel
theorem dX12_readWord_19 : decode cX12_readWord 19 = .ok (.getfield 149, 3) := by decide +kernel
theorem dX12_readWord_22 : decode cX12_readWord 22 = .ok (.aload_n 0, 1) := by decide +kernel
theorem dX12_readWord_23 : decode cX12_readWord 23 = .ok (.getfield 133, 3) := by decide +kernel
theorem dX12_readWord_26 : decode cX12_readWord 26 = .ok (.if_icmp .ge 82, 3) := by decide +kernel
theorem dX12_readWord_29 : decode cX12_readWord 29 = .ok (.aload_n 0, 1) := by decide +kernel
theorem dX12_readWord_30 : decode cX12_readWord 30 = .ok (.getfield 13, 3) := by decide +kernel
theorem dX12_readWord_33 : decode cX12_readWord 33 = .ok (.aload_n 0, 1) := by decide +kernel
theorem dX12_readWord_34 : decode cX12_readWord 34 = .ok (.getfield 149, 3) := by decide +kernel
theorem dX12_readWord_37 : decode cX12_readWord 37 = .ok (.iaload, 1) := by decide +kernel
theorem dX12_readWord_38 : decode cX12_readWord 38 = .ok (.i2l, 1) := by decide +kernel
theorem dX12_readWord_39 : decode cX12_readWord 39 = .ok (.ldc2_w 152, 3) := by decide +kernel
theorem dX12_readWord_42 : decode cX12_readWord 42 = .ok (.ldc2_w 154, 3) := by decide +kernel
theorem dX12_readWord_45 : decode cX12_readWord 45 = .ok (.invokestatic 107, 3) := by decide +kernel
theorem dX12_readWord_48 : decode cX12_readWord 48 = .ok (.ifCond .eq 60, 3) := by decide +kernel
theorem dX12_readWord_51 : decode cX12_readWord 51 = .ok (.aload_n 0, 1) := by decide +kernel
theorem dX12_readWord_52 : decode cX12_readWord 52 = .ok (.aload_n 0, 1) := by decide +kernel
theorem dX12_readWord_53 : decode cX12_readWord 53 = .ok (.getfield 145, 3) := by decide +kernel
theorem dX12_readWord_56 : decode cX12_readWord 56 = .ok (.ldc2_w 156, 3) := by decide +kernel
theorem dX12_readWord_59 : decode cX12_readWord 59 = .ok (.lcmp, 1) := by decide +kernel
theorem dX12_readWord_60 : decode cX12_readWord 60 = .ok (.ifCond .le 9, 3) := by decide +kernel
theorem dX12_readWord_63 : decode cX12_readWord 63 = .ok (.ldc2_w 158, 3) := by decide +kernel
theorem dX12_readWord_66 : decode cX12_readWord 66 = .ok (.goto 26, 3) := by decide +kernel
theorem dX12_readWord_69 : decode cX12_readWord 69 = .ok (.ldc2_w 160, 3) := by decide +kernel
theorem dX12_readWord_72 : decode cX12_readWord 72 = .ok (.aload_n 0, 1) := by decide +kernel
theorem dX12_readWord_73 : decode cX12_readWord 73 = .ok (.getfield 145, 3) := by decide +kernel
theorem dX12_readWord_76 : decode cX12_readWord 76 = .ok (.lmul, 1) := by decide +kernel
theorem dX12_readWord_77 : decode cX12_readWord 77 = .ok (.aload_n 0, 1) := by decide +kernel
theorem dX12_readWord_78 : decode cX12_readWord 78 = .ok (.getfield 13, 3) := by decide +kernel
theorem dX12_readWord_81 : decode cX12_readWord 81 = .ok (.aload_n 0, 1) := by decide +kernel
theorem dX12_readWord_82 : decode cX12_readWord 82 = .ok (.getfield 149, 3) := by decide +kernel
theorem dX12_readWord_85 : decode cX12_readWord 85 = .ok (.iaload, 1) := by decide +kernel
theorem dX12_readWord_86 : decode cX12_readWord 86 = .ok (.i2l, 1) := by decide +kernel
theorem dX12_readWord_87 : decode cX12_readWord 87 = .ok (.ladd, 1) := by decide +kernel
theorem dX12_readWord_88 : decode cX12_readWord 88 = .ok (.ldc2_w 162, 3) := by decide +kernel
theorem dX12_readWord_91 : decode cX12_readWord 91 = .ok (.lsub, 1) := by decide +kernel
theorem dX12_readWord_92 : decode cX12_readWord 92 = .ok (.putfield 145, 3) := by decide +kernel
theorem dX12_readWord_95 : decode cX12_readWord 95 = .ok (.aload_n 0, 1) := by decide +kernel
theorem dX12_readWord_96 : decode cX12_readWord 96 = .ok (.dup, 1) := by decide +kernel
theorem dX12_readWord_97 : decode cX12_readWord 97 = .ok (.getfield 149, 3) := by decide +kernel
theorem dX12_readWord_100 : decode cX12_readWord 100 = .ok (.iconst 1, 1) := by decide +kernel
theorem dX12_readWord_101 : decode cX12_readWord 101 = .ok (.iadd, 1) := by decide +kernel
theorem dX12_readWord_102 : decode cX12_readWord 102 = .ok (.putfield 149, 3) := by decide +kernel
theorem dX12_readWord_105 : decode cX12_readWord 105 = .ok (.goto (-87), 3) := by decide +kernel
theorem dX12_readWord_108 : decode cX12_readWord 108 = .ok (.return_, 1) := by decide +kernel
theorem dX12_code_0 : decode cX12_code 0 = .ok (.ldc2_w 160, 3) := by decide +kernel
theorem dX12_code_3 : decode cX12_code 3 = .ok (.ldc2_w 160, 3) := by decide +kernel
theorem dX12_code_6 : decode cX12_code 6 = .ok (.ldc2_w 160, 3) := by decide +kernel
theorem dX12_code_9 : decode cX12_code 9 = .ok (.iload_n 0, 1) := by decide +kernel
theorem dX12_code_10 : decode cX12_code 10 = .ok (.i2l, 1) := by decide +kernel
theorem dX12_code_11 : decode cX12_code 11 = .ok (.ldc2_w 162, 3) := by decide +kernel
theorem dX12_code_14 : decode cX12_code 14 = .ok (.lsub, 1) := by decide +kernel
theorem dX12_code_15 : decode cX12_code 15 = .ok (.lmul, 1) := by decide +kernel
theorem dX12_code_16 : decode cX12_code 16 = .ok (.iload_n 1, 1) := by decide +kernel
theorem dX12_code_17 : decode cX12_code 17 = .ok (.i2l, 1) := by decide +kernel
theorem dX12_code_18 : decode cX12_code 18 = .ok (.ladd, 1) := by decide +kernel
theorem dX12_code_19 : decode cX12_code 19 = .ok (.ldc2_w 162, 3) := by decide +kernel
theorem dX12_code_22 : decode cX12_code 22 = .ok (.lsub, 1) := by decide +kernel
theorem dX12_code_23 : decode cX12_code 23 = .ok (.lmul, 1) := by decide +kernel
theorem dX12_code_24 : decode cX12_code 24 = .ok (.iload_n 2, 1) := by decide +kernel
theorem dX12_code_25 : decode cX12_code 25 = .ok (.i2l, 1) := by decide +kernel
theorem dX12_code_26 : decode cX12_code 26 = .ok (.ladd, 1) := by decide +kernel
theorem dX12_code_27 : decode cX12_code 27 = .ok (.ldc2_w 162, 3) := by decide +kernel
theorem dX12_code_30 : decode cX12_code 30 = .ok (.lsub, 1) := by decide +kernel
theorem dX12_code_31 : decode cX12_code 31 = .ok (.lmul, 1) := by decide +kernel
theorem dX12_code_32 : decode cX12_code 32 = .ok (.iload_n 3, 1) := by decide +kernel
theorem dX12_code_33 : decode cX12_code 33 = .ok (.i2l, 1) := by decide +kernel
theorem dX12_code_34 : decode cX12_code 34 = .ok (.ladd, 1) := by decide +kernel
theorem dX12_code_35 : decode cX12_code 35 = .ok (.ldc2_w 162, 3) := by decide +kernel
theorem dX12_code_38 : decode cX12_code 38 = .ok (.lsub, 1) := by decide +kernel
theorem dX12_code_39 : decode cX12_code 39 = .ok (.lreturn, 1) := by decide +kernel
theorem dX12_clauseOf_0 : decode cX12_clauseOf 0 = .ok (.ldc2_w 160, 3) := by decide +kernel
theorem dX12_clauseOf_3 : decode cX12_clauseOf 3 = .ok (.bipush 97, 2) := by decide +kernel
theorem dX12_clauseOf_5 : decode cX12_clauseOf 5 = .ok (.bipush 102, 2) := by decide +kernel
theorem dX12_clauseOf_7 : decode cX12_clauseOf 7 = .ok (.bipush 116, 2) := by decide +kernel
theorem dX12_clauseOf_9 : decode cX12_clauseOf 9 = .ok (.bipush 101, 2) := by decide +kernel
theorem dX12_clauseOf_11 : decode cX12_clauseOf 11 = .ok (.invokestatic 164, 3) := by decide +kernel
theorem dX12_clauseOf_14 : decode cX12_clauseOf 14 = .ok (.lmul, 1) := by decide +kernel
theorem dX12_clauseOf_15 : decode cX12_clauseOf 15 = .ok (.ldc2_w 168, 3) := by decide +kernel
theorem dX12_clauseOf_18 : decode cX12_clauseOf 18 = .ok (.ladd, 1) := by decide +kernel
theorem dX12_clauseOf_19 : decode cX12_clauseOf 19 = .ok (.ldc2_w 162, 3) := by decide +kernel
theorem dX12_clauseOf_22 : decode cX12_clauseOf 22 = .ok (.lsub, 1) := by decide +kernel
theorem dX12_clauseOf_23 : decode cX12_clauseOf 23 = .ok (.lstore_n 1, 1) := by decide +kernel
theorem dX12_clauseOf_24 : decode cX12_clauseOf 24 = .ok (.aload_n 0, 1) := by decide +kernel
theorem dX12_clauseOf_25 : decode cX12_clauseOf 25 = .ok (.getfield 145, 3) := by decide +kernel
theorem dX12_clauseOf_28 : decode cX12_clauseOf 28 = .ok (.bipush 114, 2) := by decide +kernel
theorem dX12_clauseOf_30 : decode cX12_clauseOf 30 = .ok (.bipush 97, 2) := by decide +kernel
theorem dX12_clauseOf_32 : decode cX12_clauseOf 32 = .ok (.bipush 116, 2) := by decide +kernel
theorem dX12_clauseOf_34 : decode cX12_clauseOf 34 = .ok (.bipush 101, 2) := by decide +kernel
theorem dX12_clauseOf_36 : decode cX12_clauseOf 36 = .ok (.invokestatic 164, 3) := by decide +kernel
theorem dX12_clauseOf_39 : decode cX12_clauseOf 39 = .ok (.lcmp, 1) := by decide +kernel
theorem dX12_clauseOf_40 : decode cX12_clauseOf 40 = .ok (.ifCond .ne 7, 3) := by decide +kernel
theorem dX12_clauseOf_43 : decode cX12_clauseOf 43 = .ok (.iconst 0, 1) := by decide +kernel
theorem dX12_clauseOf_44 : decode cX12_clauseOf 44 = .ok (.goto 63, 3) := by decide +kernel
theorem dX12_clauseOf_47 : decode cX12_clauseOf 47 = .ok (.aload_n 0, 1) := by decide +kernel
theorem dX12_clauseOf_48 : decode cX12_clauseOf 48 = .ok (.getfield 145, 3) := by decide +kernel
theorem dX12_clauseOf_51 : decode cX12_clauseOf 51 = .ok (.bipush 103, 2) := by decide +kernel
theorem dX12_clauseOf_53 : decode cX12_clauseOf 53 = .ok (.bipush 114, 2) := by decide +kernel
theorem dX12_clauseOf_55 : decode cX12_clauseOf 55 = .ok (.bipush 111, 2) := by decide +kernel
theorem dX12_clauseOf_57 : decode cX12_clauseOf 57 = .ok (.bipush 119, 2) := by decide +kernel
theorem dX12_clauseOf_59 : decode cX12_clauseOf 59 = .ok (.invokestatic 164, 3) := by decide +kernel
theorem dX12_clauseOf_62 : decode cX12_clauseOf 62 = .ok (.lcmp, 1) := by decide +kernel
theorem dX12_clauseOf_63 : decode cX12_clauseOf 63 = .ok (.ifCond .ne 7, 3) := by decide +kernel
theorem dX12_clauseOf_66 : decode cX12_clauseOf 66 = .ok (.iconst 1, 1) := by decide +kernel
theorem dX12_clauseOf_67 : decode cX12_clauseOf 67 = .ok (.goto 40, 3) := by decide +kernel
theorem dX12_clauseOf_70 : decode cX12_clauseOf 70 = .ok (.aload_n 0, 1) := by decide +kernel
theorem dX12_clauseOf_71 : decode cX12_clauseOf 71 = .ok (.getfield 145, 3) := by decide +kernel
theorem dX12_clauseOf_74 : decode cX12_clauseOf 74 = .ok (.lload_n 1, 1) := by decide +kernel
theorem dX12_clauseOf_75 : decode cX12_clauseOf 75 = .ok (.lcmp, 1) := by decide +kernel
theorem dX12_clauseOf_76 : decode cX12_clauseOf 76 = .ok (.ifCond .ne 7, 3) := by decide +kernel
theorem dX12_clauseOf_79 : decode cX12_clauseOf 79 = .ok (.iconst 2, 1) := by decide +kernel
theorem dX12_clauseOf_80 : decode cX12_clauseOf 80 = .ok (.goto 27, 3) := by decide +kernel
theorem dX12_clauseOf_83 : decode cX12_clauseOf 83 = .ok (.aload_n 0, 1) := by decide +kernel
theorem dX12_clauseOf_84 : decode cX12_clauseOf 84 = .ok (.getfield 145, 3) := by decide +kernel
theorem dX12_clauseOf_87 : decode cX12_clauseOf 87 = .ok (.bipush 100, 2) := by decide +kernel
theorem dX12_clauseOf_89 : decode cX12_clauseOf 89 = .ok (.bipush 97, 2) := by decide +kernel
theorem dX12_clauseOf_91 : decode cX12_clauseOf 91 = .ok (.bipush 121, 2) := by decide +kernel
theorem dX12_clauseOf_93 : decode cX12_clauseOf 93 = .ok (.bipush 115, 2) := by decide +kernel
theorem dX12_clauseOf_95 : decode cX12_clauseOf 95 = .ok (.invokestatic 164, 3) := by decide +kernel
theorem dX12_clauseOf_98 : decode cX12_clauseOf 98 = .ok (.lcmp, 1) := by decide +kernel
theorem dX12_clauseOf_99 : decode cX12_clauseOf 99 = .ok (.ifCond .ne 7, 3) := by decide +kernel
theorem dX12_clauseOf_102 : decode cX12_clauseOf 102 = .ok (.iconst 3, 1) := by decide +kernel
theorem dX12_clauseOf_103 : decode cX12_clauseOf 103 = .ok (.goto 4, 3) := by decide +kernel
theorem dX12_clauseOf_106 : decode cX12_clauseOf 106 = .ok (.iconst (-1), 1) := by decide +kernel
theorem dX12_clauseOf_107 : decode cX12_clauseOf 107 = .ok (.istore_n 3, 1) := by decide +kernel
theorem dX12_clauseOf_108 : decode cX12_clauseOf 108 = .ok (.aload_n 0, 1) := by decide +kernel
theorem dX12_clauseOf_109 : decode cX12_clauseOf 109 = .ok (.getfield 145, 3) := by decide +kernel
theorem dX12_clauseOf_112 : decode cX12_clauseOf 112 = .ok (.bipush 110, 2) := by decide +kernel
theorem dX12_clauseOf_114 : decode cX12_clauseOf 114 = .ok (.bipush 101, 2) := by decide +kernel
theorem dX12_clauseOf_116 : decode cX12_clauseOf 116 = .ok (.bipush 97, 2) := by decide +kernel
theorem dX12_clauseOf_118 : decode cX12_clauseOf 118 = .ok (.bipush 114, 2) := by decide +kernel
theorem dX12_clauseOf_120 : decode cX12_clauseOf 120 = .ok (.invokestatic 164, 3) := by decide +kernel
theorem dX12_clauseOf_123 : decode cX12_clauseOf 123 = .ok (.lcmp, 1) := by decide +kernel
theorem dX12_clauseOf_124 : decode cX12_clauseOf 124 = .ok (.ifCond .ne 7, 3) := by decide +kernel
theorem dX12_clauseOf_127 : decode cX12_clauseOf 127 = .ok (.iconst 4, 1) := by decide +kernel
theorem dX12_clauseOf_128 : decode cX12_clauseOf 128 = .ok (.goto 51, 3) := by decide +kernel
theorem dX12_clauseOf_131 : decode cX12_clauseOf 131 = .ok (.aload_n 0, 1) := by decide +kernel
theorem dX12_clauseOf_132 : decode cX12_clauseOf 132 = .ok (.getfield 145, 3) := by decide +kernel
theorem dX12_clauseOf_135 : decode cX12_clauseOf 135 = .ok (.bipush 109, 2) := by decide +kernel
theorem dX12_clauseOf_137 : decode cX12_clauseOf 137 = .ok (.bipush 111, 2) := by decide +kernel
theorem dX12_clauseOf_139 : decode cX12_clauseOf 139 = .ok (.bipush 111, 2) := by decide +kernel
theorem dX12_clauseOf_141 : decode cX12_clauseOf 141 = .ok (.bipush 110, 2) := by decide +kernel
theorem dX12_clauseOf_143 : decode cX12_clauseOf 143 = .ok (.invokestatic 164, 3) := by decide +kernel
theorem dX12_clauseOf_146 : decode cX12_clauseOf 146 = .ok (.lcmp, 1) := by decide +kernel
theorem dX12_clauseOf_147 : decode cX12_clauseOf 147 = .ok (.ifCond .ne 7, 3) := by decide +kernel
theorem dX12_clauseOf_150 : decode cX12_clauseOf 150 = .ok (.iconst 5, 1) := by decide +kernel
theorem dX12_clauseOf_151 : decode cX12_clauseOf 151 = .ok (.goto 28, 3) := by decide +kernel
theorem dX12_clauseOf_154 : decode cX12_clauseOf 154 = .ok (.aload_n 0, 1) := by decide +kernel
theorem dX12_clauseOf_155 : decode cX12_clauseOf 155 = .ok (.getfield 145, 3) := by decide +kernel
theorem dX12_clauseOf_158 : decode cX12_clauseOf 158 = .ok (.bipush 114, 2) := by decide +kernel
theorem dX12_clauseOf_160 : decode cX12_clauseOf 160 = .ok (.bipush 97, 2) := by decide +kernel
theorem dX12_clauseOf_162 : decode cX12_clauseOf 162 = .ok (.bipush 105, 2) := by decide +kernel
theorem dX12_clauseOf_164 : decode cX12_clauseOf 164 = .ok (.bipush 110, 2) := by decide +kernel
theorem dX12_clauseOf_166 : decode cX12_clauseOf 166 = .ok (.invokestatic 164, 3) := by decide +kernel
theorem dX12_clauseOf_169 : decode cX12_clauseOf 169 = .ok (.lcmp, 1) := by decide +kernel
theorem dX12_clauseOf_170 : decode cX12_clauseOf 170 = .ok (.ifCond .ne 8, 3) := by decide +kernel
theorem dX12_clauseOf_173 : decode cX12_clauseOf 173 = .ok (.bipush 7, 2) := by decide +kernel
theorem dX12_clauseOf_175 : decode cX12_clauseOf 175 = .ok (.goto 4, 3) := by decide +kernel
theorem dX12_clauseOf_178 : decode cX12_clauseOf 178 = .ok (.iconst (-1), 1) := by decide +kernel
theorem dX12_clauseOf_179 : decode cX12_clauseOf 179 = .ok (.istore 4, 2) := by decide +kernel
theorem dX12_clauseOf_181 : decode cX12_clauseOf 181 = .ok (.iload_n 3, 1) := by decide +kernel
theorem dX12_clauseOf_182 : decode cX12_clauseOf 182 = .ok (.ifCond .lt 7, 3) := by decide +kernel
theorem dX12_clauseOf_185 : decode cX12_clauseOf 185 = .ok (.iload_n 3, 1) := by decide +kernel
theorem dX12_clauseOf_186 : decode cX12_clauseOf 186 = .ok (.goto 5, 3) := by decide +kernel
theorem dX12_clauseOf_189 : decode cX12_clauseOf 189 = .ok (.iload 4, 2) := by decide +kernel
theorem dX12_clauseOf_191 : decode cX12_clauseOf 191 = .ok (.ireturn, 1) := by decide +kernel
theorem dX12_takeNumber_0 : decode cX12_takeNumber 0 = .ok (.aload_n 0, 1) := by decide +kernel
theorem dX12_takeNumber_1 : decode cX12_takeNumber 1 = .ok (.invokevirtual 141, 3) := by decide +kernel
theorem dX12_takeNumber_4 : decode cX12_takeNumber 4 = .ok (.istore_n 3, 1) := by decide +kernel
theorem dX12_takeNumber_5 : decode cX12_takeNumber 5 = .ok (.iload_n 3, 1) := by decide +kernel
theorem dX12_takeNumber_6 : decode cX12_takeNumber 6 = .ok (.i2l, 1) := by decide +kernel
theorem dX12_takeNumber_7 : decode cX12_takeNumber 7 = .ok (.ldc2_w 170, 3) := by decide +kernel
theorem dX12_takeNumber_10 : decode cX12_takeNumber 10 = .ok (.ldc2_w 172, 3) := by decide +kernel
theorem dX12_takeNumber_13 : decode cX12_takeNumber 13 = .ok (.invokestatic 107, 3) := by decide +kernel
theorem dX12_takeNumber_16 : decode cX12_takeNumber 16 = .ok (.ifCond .ne 13, 3) := by decide +kernel
theorem dX12_takeNumber_19 : decode cX12_takeNumber 19 = .ok (.aload_n 0, 1) := by decide +kernel
theorem dX12_takeNumber_20 : decode cX12_takeNumber 20 = .ok (.iconst 1, 1) := by decide +kernel
theorem dX12_takeNumber_21 : decode cX12_takeNumber 21 = .ok (.aload_n 0, 1) := by decide +kernel
theorem dX12_takeNumber_22 : decode cX12_takeNumber 22 = .ok (.getfield 138, 3) := by decide +kernel
theorem dX12_takeNumber_25 : decode cX12_takeNumber 25 = .ok (.invokevirtual 174, 3) := by decide +kernel
theorem dX12_takeNumber_28 : decode cX12_takeNumber 28 = .ok (.ireturn, 1) := by decide +kernel
theorem dX12_takeNumber_29 : decode cX12_takeNumber 29 = .ok (.aload_n 0, 1) := by decide +kernel
theorem dX12_takeNumber_30 : decode cX12_takeNumber 30 = .ok (.getfield 138, 3) := by decide +kernel
theorem dX12_takeNumber_33 : decode cX12_takeNumber 33 = .ok (.istore 4, 2) := by decide +kernel
theorem dX12_takeNumber_35 : decode cX12_takeNumber 35 = .ok (.aload_n 0, 1) := by decide +kernel
theorem dX12_takeNumber_36 : decode cX12_takeNumber 36 = .ok (.iconst 0, 1) := by decide +kernel
theorem dX12_takeNumber_37 : decode cX12_takeNumber 37 = .ok (.putfield 177, 3) := by decide +kernel
theorem dX12_takeNumber_40 : decode cX12_takeNumber 40 = .ok (.aload_n 0, 1) := by decide +kernel
theorem dX12_takeNumber_41 : decode cX12_takeNumber 41 = .ok (.getfield 138, 3) := by decide +kernel
theorem dX12_takeNumber_44 : decode cX12_takeNumber 44 = .ok (.aload_n 0, 1) := by decide +kernel
theorem dX12_takeNumber_45 : decode cX12_takeNumber 45 = .ok (.getfield 133, 3) := by decide +kernel
theorem dX12_takeNumber_48 : decode cX12_takeNumber 48 = .ok (.if_icmp .ge 79, 3) := by decide +kernel
theorem dX12_takeNumber_51 : decode cX12_takeNumber 51 = .ok (.aload_n 0, 1) := by decide +kernel
theorem dX12_takeNumber_52 : decode cX12_takeNumber 52 = .ok (.getfield 13, 3) := by decide +kernel
theorem dX12_takeNumber_55 : decode cX12_takeNumber 55 = .ok (.aload_n 0, 1) := by decide +kernel
theorem dX12_takeNumber_56 : decode cX12_takeNumber 56 = .ok (.getfield 138, 3) := by decide +kernel
theorem dX12_takeNumber_59 : decode cX12_takeNumber 59 = .ok (.iaload, 1) := by decide +kernel
theorem dX12_takeNumber_60 : decode cX12_takeNumber 60 = .ok (.i2l, 1) := by decide +kernel
theorem dX12_takeNumber_61 : decode cX12_takeNumber 61 = .ok (.ldc2_w 170, 3) := by decide +kernel
theorem dX12_takeNumber_64 : decode cX12_takeNumber 64 = .ok (.ldc2_w 172, 3) := by decide +kernel
theorem dX12_takeNumber_67 : decode cX12_takeNumber 67 = .ok (.invokestatic 107, 3) := by decide +kernel
theorem dX12_takeNumber_70 : decode cX12_takeNumber 70 = .ok (.ifCond .eq 57, 3) := by decide +kernel
theorem dX12_takeNumber_73 : decode cX12_takeNumber 73 = .ok (.aload_n 0, 1) := by decide +kernel
theorem dX12_takeNumber_74 : decode cX12_takeNumber 74 = .ok (.aload_n 0, 1) := by decide +kernel
theorem dX12_takeNumber_75 : decode cX12_takeNumber 75 = .ok (.getfield 177, 3) := by decide +kernel
theorem dX12_takeNumber_78 : decode cX12_takeNumber 78 = .ok (.sipush 10000, 3) := by decide +kernel
theorem dX12_takeNumber_81 : decode cX12_takeNumber 81 = .ok (.if_icmp .le 10, 3) := by decide +kernel
theorem dX12_takeNumber_84 : decode cX12_takeNumber 84 = .ok (.aload_n 0, 1) := by decide +kernel
theorem dX12_takeNumber_85 : decode cX12_takeNumber 85 = .ok (.getfield 177, 3) := by decide +kernel
theorem dX12_takeNumber_88 : decode cX12_takeNumber 88 = .ok (.goto 23, 3) := by decide +kernel
theorem dX12_takeNumber_91 : decode cX12_takeNumber 91 = .ok (.bipush 10, 2) := by decide +kernel
theorem dX12_takeNumber_93 : decode cX12_takeNumber 93 = .ok (.aload_n 0, 1) := by decide +kernel
theorem dX12_takeNumber_94 : decode cX12_takeNumber 94 = .ok (.getfield 177, 3) := by decide +kernel
theorem dX12_takeNumber_97 : decode cX12_takeNumber 97 = .ok (.imul, 1) := by decide +kernel
theorem dX12_takeNumber_98 : decode cX12_takeNumber 98 = .ok (.aload_n 0, 1) := by decide +kernel
theorem dX12_takeNumber_99 : decode cX12_takeNumber 99 = .ok (.getfield 13, 3) := by decide +kernel
theorem dX12_takeNumber_102 : decode cX12_takeNumber 102 = .ok (.aload_n 0, 1) := by decide +kernel
theorem dX12_takeNumber_103 : decode cX12_takeNumber 103 = .ok (.getfield 138, 3) := by decide +kernel
theorem dX12_takeNumber_106 : decode cX12_takeNumber 106 = .ok (.iaload, 1) := by decide +kernel
theorem dX12_takeNumber_107 : decode cX12_takeNumber 107 = .ok (.iadd, 1) := by decide +kernel
theorem dX12_takeNumber_108 : decode cX12_takeNumber 108 = .ok (.bipush 48, 2) := by decide +kernel
theorem dX12_takeNumber_110 : decode cX12_takeNumber 110 = .ok (.isub, 1) := by decide +kernel
theorem dX12_takeNumber_111 : decode cX12_takeNumber 111 = .ok (.putfield 177, 3) := by decide +kernel
theorem dX12_takeNumber_114 : decode cX12_takeNumber 114 = .ok (.aload_n 0, 1) := by decide +kernel
theorem dX12_takeNumber_115 : decode cX12_takeNumber 115 = .ok (.dup, 1) := by decide +kernel
theorem dX12_takeNumber_116 : decode cX12_takeNumber 116 = .ok (.getfield 138, 3) := by decide +kernel
theorem dX12_takeNumber_119 : decode cX12_takeNumber 119 = .ok (.iconst 1, 1) := by decide +kernel
theorem dX12_takeNumber_120 : decode cX12_takeNumber 120 = .ok (.iadd, 1) := by decide +kernel
theorem dX12_takeNumber_121 : decode cX12_takeNumber 121 = .ok (.putfield 138, 3) := by decide +kernel
theorem dX12_takeNumber_124 : decode cX12_takeNumber 124 = .ok (.goto (-84), 3) := by decide +kernel
theorem dX12_takeNumber_127 : decode cX12_takeNumber 127 = .ok (.aload_n 0, 1) := by decide +kernel
theorem dX12_takeNumber_128 : decode cX12_takeNumber 128 = .ok (.getfield 138, 3) := by decide +kernel
theorem dX12_takeNumber_131 : decode cX12_takeNumber 131 = .ok (.iload 4, 2) := by decide +kernel
theorem dX12_takeNumber_133 : decode cX12_takeNumber 133 = .ok (.isub, 1) := by decide +kernel
theorem dX12_takeNumber_134 : decode cX12_takeNumber 134 = .ok (.iconst 3, 1) := by decide +kernel
theorem dX12_takeNumber_135 : decode cX12_takeNumber 135 = .ok (.if_icmp .gt 18, 3) := by decide +kernel
theorem dX12_takeNumber_138 : decode cX12_takeNumber 138 = .ok (.aload_n 0, 1) := by decide +kernel
theorem dX12_takeNumber_139 : decode cX12_takeNumber 139 = .ok (.getfield 177, 3) := by decide +kernel
theorem dX12_takeNumber_142 : decode cX12_takeNumber 142 = .ok (.i2l, 1) := by decide +kernel
theorem dX12_takeNumber_143 : decode cX12_takeNumber 143 = .ok (.iload_n 1, 1) := by decide +kernel
theorem dX12_takeNumber_144 : decode cX12_takeNumber 144 = .ok (.i2l, 1) := by decide +kernel
theorem dX12_takeNumber_145 : decode cX12_takeNumber 145 = .ok (.iload_n 2, 1) := by decide +kernel
theorem dX12_takeNumber_146 : decode cX12_takeNumber 146 = .ok (.i2l, 1) := by decide +kernel
theorem dX12_takeNumber_147 : decode cX12_takeNumber 147 = .ok (.invokestatic 107, 3) := by decide +kernel
theorem dX12_takeNumber_150 : decode cX12_takeNumber 150 = .ok (.ifCond .ne 13, 3) := by decide +kernel
theorem dX12_takeNumber_153 : decode cX12_takeNumber 153 = .ok (.aload_n 0, 1) := by decide +kernel
theorem dX12_takeNumber_154 : decode cX12_takeNumber 154 = .ok (.iconst 2, 1) := by decide +kernel
theorem dX12_takeNumber_155 : decode cX12_takeNumber 155 = .ok (.iload 4, 2) := by decide +kernel
theorem dX12_takeNumber_157 : decode cX12_takeNumber 157 = .ok (.invokevirtual 174, 3) := by decide +kernel
theorem dX12_takeNumber_160 : decode cX12_takeNumber 160 = .ok (.goto 4, 3) := by decide +kernel
theorem dX12_takeNumber_163 : decode cX12_takeNumber 163 = .ok (.iconst 0, 1) := by decide +kernel
theorem dX12_takeNumber_164 : decode cX12_takeNumber 164 = .ok (.ireturn, 1) := by decide +kernel
theorem dX12_bare_0 : decode cX12_bare 0 = .ok (.aload_n 0, 1) := by decide +kernel
theorem dX12_bare_1 : decode cX12_bare 1 = .ok (.getfield 20, 3) := by decide +kernel
theorem dX12_bare_4 : decode cX12_bare 4 = .ok (.iconst 0, 1) := by decide +kernel
theorem dX12_bare_5 : decode cX12_bare 5 = .ok (.bipush 20, 2) := by decide +kernel
theorem dX12_bare_7 : decode cX12_bare 7 = .ok (.iastore, 1) := by decide +kernel
theorem dX12_bare_8 : decode cX12_bare 8 = .ok (.aload_n 0, 1) := by decide +kernel
theorem dX12_bare_9 : decode cX12_bare 9 = .ok (.getfield 20, 3) := by decide +kernel
theorem dX12_bare_12 : decode cX12_bare 12 = .ok (.iconst 1, 1) := by decide +kernel
theorem dX12_bare_13 : decode cX12_bare 13 = .ok (.bipush 40, 2) := by decide +kernel
theorem dX12_bare_15 : decode cX12_bare 15 = .ok (.iastore, 1) := by decide +kernel
theorem dX12_bare_16 : decode cX12_bare 16 = .ok (.aload_n 0, 1) := by decide +kernel
theorem dX12_bare_17 : decode cX12_bare 17 = .ok (.getfield 20, 3) := by decide +kernel
theorem dX12_bare_20 : decode cX12_bare 20 = .ok (.iconst 2, 1) := by decide +kernel
theorem dX12_bare_21 : decode cX12_bare 21 = .ok (.bipush 100, 2) := by decide +kernel
theorem dX12_bare_23 : decode cX12_bare 23 = .ok (.iastore, 1) := by decide +kernel
theorem dX12_bare_24 : decode cX12_bare 24 = .ok (.aload_n 0, 1) := by decide +kernel
theorem dX12_bare_25 : decode cX12_bare 25 = .ok (.getfield 20, 3) := by decide +kernel
theorem dX12_bare_28 : decode cX12_bare 28 = .ok (.iconst 3, 1) := by decide +kernel
theorem dX12_bare_29 : decode cX12_bare 29 = .ok (.bipush 10, 2) := by decide +kernel
theorem dX12_bare_31 : decode cX12_bare 31 = .ok (.iastore, 1) := by decide +kernel
theorem dX12_bare_32 : decode cX12_bare 32 = .ok (.aload_n 0, 1) := by decide +kernel
theorem dX12_bare_33 : decode cX12_bare 33 = .ok (.getfield 20, 3) := by decide +kernel
theorem dX12_bare_36 : decode cX12_bare 36 = .ok (.iconst 4, 1) := by decide +kernel
theorem dX12_bare_37 : decode cX12_bare 37 = .ok (.iconst 1, 1) := by decide +kernel
theorem dX12_bare_38 : decode cX12_bare 38 = .ok (.iastore, 1) := by decide +kernel
theorem dX12_bare_39 : decode cX12_bare 39 = .ok (.aload_n 0, 1) := by decide +kernel
theorem dX12_bare_40 : decode cX12_bare 40 = .ok (.getfield 20, 3) := by decide +kernel
theorem dX12_bare_43 : decode cX12_bare 43 = .ok (.iconst 5, 1) := by decide +kernel
theorem dX12_bare_44 : decode cX12_bare 44 = .ok (.iconst (-1), 1) := by decide +kernel
theorem dX12_bare_45 : decode cX12_bare 45 = .ok (.iastore, 1) := by decide +kernel
theorem dX12_bare_46 : decode cX12_bare 46 = .ok (.aload_n 0, 1) := by decide +kernel
theorem dX12_bare_47 : decode cX12_bare 47 = .ok (.getfield 20, 3) := by decide +kernel
theorem dX12_bare_50 : decode cX12_bare 50 = .ok (.bipush 6, 2) := by decide +kernel
theorem dX12_bare_52 : decode cX12_bare 52 = .ok (.iconst (-1), 1) := by decide +kernel
theorem dX12_bare_53 : decode cX12_bare 53 = .ok (.iastore, 1) := by decide +kernel
theorem dX12_bare_54 : decode cX12_bare 54 = .ok (.aload_n 0, 1) := by decide +kernel
theorem dX12_bare_55 : decode cX12_bare 55 = .ok (.getfield 20, 3) := by decide +kernel
theorem dX12_bare_58 : decode cX12_bare 58 = .ok (.bipush 7, 2) := by decide +kernel
theorem dX12_bare_60 : decode cX12_bare 60 = .ok (.iconst 0, 1) := by decide +kernel
theorem dX12_bare_61 : decode cX12_bare 61 = .ok (.iastore, 1) := by decide +kernel
theorem dX12_bare_62 : decode cX12_bare 62 = .ok (.aload_n 0, 1) := by decide +kernel
theorem dX12_bare_63 : decode cX12_bare 63 = .ok (.iconst 0, 1) := by decide +kernel
theorem dX12_bare_64 : decode cX12_bare 64 = .ok (.putfield 180, 3) := by decide +kernel
theorem dX12_bare_67 : decode cX12_bare 67 = .ok (.return_, 1) := by decide +kernel
theorem dX12_mostOf_0 : decode cX12_mostOf 0 = .ok (.iload_n 0, 1) := by decide +kernel
theorem dX12_mostOf_1 : decode cX12_mostOf 1 = .ok (.ifCond .eq 8, 3) := by decide +kernel
theorem dX12_mostOf_4 : decode cX12_mostOf 4 = .ok (.iload_n 0, 1) := by decide +kernel
theorem dX12_mostOf_5 : decode cX12_mostOf 5 = .ok (.iconst 2, 1) := by decide +kernel
theorem dX12_mostOf_6 : decode cX12_mostOf 6 = .ok (.if_icmp .ne 9, 3) := by decide +kernel
theorem dX12_mostOf_9 : decode cX12_mostOf 9 = .ok (.sipush 999, 3) := by decide +kernel
theorem dX12_mostOf_12 : decode cX12_mostOf 12 = .ok (.goto 45, 3) := by decide +kernel
theorem dX12_mostOf_15 : decode cX12_mostOf 15 = .ok (.iload_n 0, 1) := by decide +kernel
theorem dX12_mostOf_16 : decode cX12_mostOf 16 = .ok (.iconst 1, 1) := by decide +kernel
theorem dX12_mostOf_17 : decode cX12_mostOf 17 = .ok (.if_icmp .ne 8, 3) := by decide +kernel
theorem dX12_mostOf_20 : decode cX12_mostOf 20 = .ok (.bipush 99, 2) := by decide +kernel
theorem dX12_mostOf_22 : decode cX12_mostOf 22 = .ok (.goto 35, 3) := by decide +kernel
theorem dX12_mostOf_25 : decode cX12_mostOf 25 = .ok (.iload_n 0, 1) := by decide +kernel
theorem dX12_mostOf_26 : decode cX12_mostOf 26 = .ok (.iconst 3, 1) := by decide +kernel
theorem dX12_mostOf_27 : decode cX12_mostOf 27 = .ok (.if_icmp .ne 8, 3) := by decide +kernel
theorem dX12_mostOf_30 : decode cX12_mostOf 30 = .ok (.bipush 30, 2) := by decide +kernel
theorem dX12_mostOf_32 : decode cX12_mostOf 32 = .ok (.goto 25, 3) := by decide +kernel
theorem dX12_mostOf_35 : decode cX12_mostOf 35 = .ok (.iload_n 0, 1) := by decide +kernel
theorem dX12_mostOf_36 : decode cX12_mostOf 36 = .ok (.iconst 4, 1) := by decide +kernel
theorem dX12_mostOf_37 : decode cX12_mostOf 37 = .ok (.if_icmp .ne 8, 3) := by decide +kernel
theorem dX12_mostOf_40 : decode cX12_mostOf 40 = .ok (.bipush 7, 2) := by decide +kernel
theorem dX12_mostOf_42 : decode cX12_mostOf 42 = .ok (.goto 15, 3) := by decide +kernel
theorem dX12_mostOf_45 : decode cX12_mostOf 45 = .ok (.iload_n 0, 1) := by decide +kernel
theorem dX12_mostOf_46 : decode cX12_mostOf 46 = .ok (.iconst 5, 1) := by decide +kernel
theorem dX12_mostOf_47 : decode cX12_mostOf 47 = .ok (.if_icmp .ne 8, 3) := by decide +kernel
theorem dX12_mostOf_50 : decode cX12_mostOf 50 = .ok (.bipush 27, 2) := by decide +kernel
theorem dX12_mostOf_52 : decode cX12_mostOf 52 = .ok (.goto 5, 3) := by decide +kernel
theorem dX12_mostOf_55 : decode cX12_mostOf 55 = .ok (.bipush 9, 2) := by decide +kernel
theorem dX12_mostOf_57 : decode cX12_mostOf 57 = .ok (.ireturn, 1) := by decide +kernel
theorem dX12_takeClause_0 : decode cX12_takeClause 0 = .ok (.aload_n 0, 1) := by decide +kernel
theorem dX12_takeClause_1 : decode cX12_takeClause 1 = .ok (.invokevirtual 183, 3) := by decide +kernel
theorem dX12_takeClause_4 : decode cX12_takeClause 4 = .ok (.aload_n 0, 1) := by decide +kernel
theorem dX12_takeClause_5 : decode cX12_takeClause 5 = .ok (.invokevirtual 186, 3) := by decide +kernel
theorem dX12_takeClause_8 : decode cX12_takeClause 8 = .ok (.istore_n 1, 1) := by decide +kernel
theorem dX12_takeClause_9 : decode cX12_takeClause 9 = .ok (.iload_n 1, 1) := by decide +kernel
theorem dX12_takeClause_10 : decode cX12_takeClause 10 = .ok (.ifCond .lt 19, 3) := by decide +kernel
theorem dX12_takeClause_13 : decode cX12_takeClause 13 = .ok (.aload_n 0, 1) := by decide +kernel
theorem dX12_takeClause_14 : decode cX12_takeClause 14 = .ok (.getfield 180, 3) := by decide +kernel
theorem dX12_takeClause_17 : decode cX12_takeClause 17 = .ok (.iload_n 1, 1) := by decide +kernel
theorem dX12_takeClause_18 : decode cX12_takeClause 18 = .ok (.ishr, 1) := by decide +kernel
theorem dX12_takeClause_19 : decode cX12_takeClause 19 = .ok (.iconst 1, 1) := by decide +kernel
theorem dX12_takeClause_20 : decode cX12_takeClause 20 = .ok (.iand, 1) := by decide +kernel
theorem dX12_takeClause_21 : decode cX12_takeClause 21 = .ok (.iconst 1, 1) := by decide +kernel
theorem dX12_takeClause_22 : decode cX12_takeClause 22 = .ok (.if_icmp .ne 7, 3) := by decide +kernel
theorem dX12_takeClause_25 : decode cX12_takeClause 25 = .ok (.iconst 1, 1) := by decide +kernel
theorem dX12_takeClause_26 : decode cX12_takeClause 26 = .ok (.goto 4, 3) := by decide +kernel
theorem dX12_takeClause_29 : decode cX12_takeClause 29 = .ok (.iconst 0, 1) := by decide +kernel
theorem dX12_takeClause_30 : decode cX12_takeClause 30 = .ok (.istore_n 2, 1) := by decide +kernel
theorem dX12_takeClause_31 : decode cX12_takeClause 31 = .ok (.iload_n 1, 1) := by decide +kernel
theorem dX12_takeClause_32 : decode cX12_takeClause 32 = .ok (.ifCond .lt 7, 3) := by decide +kernel
theorem dX12_takeClause_35 : decode cX12_takeClause 35 = .ok (.iload_n 2, 1) := by decide +kernel
theorem dX12_takeClause_36 : decode cX12_takeClause 36 = .ok (.ifCond .eq 21, 3) := by decide +kernel
theorem dX12_takeClause_39 : decode cX12_takeClause 39 = .ok (.aload_n 0, 1) := by decide +kernel
theorem dX12_takeClause_40 : decode cX12_takeClause 40 = .ok (.iload_n 1, 1) := by decide +kernel
theorem dX12_takeClause_41 : decode cX12_takeClause 41 = .ok (.ifCond .ge 7, 3) := by decide +kernel
theorem dX12_takeClause_44 : decode cX12_takeClause 44 = .ok (.iconst 1, 1) := by decide +kernel
theorem dX12_takeClause_45 : decode cX12_takeClause 45 = .ok (.goto 4, 3) := by decide +kernel
theorem dX12_takeClause_48 : decode cX12_takeClause 48 = .ok (.iconst 3, 1) := by decide +kernel
theorem dX12_takeClause_49 : decode cX12_takeClause 49 = .ok (.aload_n 0, 1) := by decide +kernel
theorem dX12_takeClause_50 : decode cX12_takeClause 50 = .ok (.getfield 138, 3) := by decide +kernel
theorem dX12_takeClause_53 : decode cX12_takeClause 53 = .ok (.invokevirtual 174, 3) := by decide +kernel
theorem dX12_takeClause_56 : decode cX12_takeClause 56 = .ok (.ireturn, 1) := by decide +kernel
theorem dX12_takeClause_57 : decode cX12_takeClause 57 = .ok (.aload_n 0, 1) := by decide +kernel
theorem dX12_takeClause_58 : decode cX12_takeClause 58 = .ok (.dup, 1) := by decide +kernel
theorem dX12_takeClause_59 : decode cX12_takeClause 59 = .ok (.getfield 180, 3) := by decide +kernel
theorem dX12_takeClause_62 : decode cX12_takeClause 62 = .ok (.iconst 1, 1) := by decide +kernel
theorem dX12_takeClause_63 : decode cX12_takeClause 63 = .ok (.iload_n 1, 1) := by decide +kernel
theorem dX12_takeClause_64 : decode cX12_takeClause 64 = .ok (.ishl, 1) := by decide +kernel
theorem dX12_takeClause_65 : decode cX12_takeClause 65 = .ok (.ior, 1) := by decide +kernel
theorem dX12_takeClause_66 : decode cX12_takeClause 66 = .ok (.putfield 180, 3) := by decide +kernel
theorem dX12_takeClause_69 : decode cX12_takeClause 69 = .ok (.aload_n 0, 1) := by decide +kernel
theorem dX12_takeClause_70 : decode cX12_takeClause 70 = .ok (.aload_n 0, 1) := by decide +kernel
theorem dX12_takeClause_71 : decode cX12_takeClause 71 = .ok (.getfield 149, 3) := by decide +kernel
theorem dX12_takeClause_74 : decode cX12_takeClause 74 = .ok (.putfield 138, 3) := by decide +kernel
theorem dX12_takeClause_77 : decode cX12_takeClause 77 = .ok (.aload_n 0, 1) := by decide +kernel
theorem dX12_takeClause_78 : decode cX12_takeClause 78 = .ok (.iload_n 1, 1) := by decide +kernel
theorem dX12_takeClause_79 : decode cX12_takeClause 79 = .ok (.iconst 3, 1) := by decide +kernel
theorem dX12_takeClause_80 : decode cX12_takeClause 80 = .ok (.if_icmp .ne 7, 3) := by decide +kernel
theorem dX12_takeClause_83 : decode cX12_takeClause 83 = .ok (.iconst 1, 1) := by decide +kernel
theorem dX12_takeClause_84 : decode cX12_takeClause 84 = .ok (.goto 4, 3) := by decide +kernel
theorem dX12_takeClause_87 : decode cX12_takeClause 87 = .ok (.iconst 0, 1) := by decide +kernel
theorem dX12_takeClause_88 : decode cX12_takeClause 88 = .ok (.iload_n 1, 1) := by decide +kernel
theorem dX12_takeClause_89 : decode cX12_takeClause 89 = .ok (.invokestatic 189, 3) := by decide +kernel
theorem dX12_takeClause_92 : decode cX12_takeClause 92 = .ok (.invokevirtual 193, 3) := by decide +kernel
theorem dX12_takeClause_95 : decode cX12_takeClause 95 = .ok (.istore_n 3, 1) := by decide +kernel
theorem dX12_takeClause_96 : decode cX12_takeClause 96 = .ok (.aload_n 0, 1) := by decide +kernel
theorem dX12_takeClause_97 : decode cX12_takeClause 97 = .ok (.getfield 20, 3) := by decide +kernel
theorem dX12_takeClause_100 : decode cX12_takeClause 100 = .ok (.iload_n 1, 1) := by decide +kernel
theorem dX12_takeClause_101 : decode cX12_takeClause 101 = .ok (.aload_n 0, 1) := by decide +kernel
theorem dX12_takeClause_102 : decode cX12_takeClause 102 = .ok (.getfield 177, 3) := by decide +kernel
theorem dX12_takeClause_105 : decode cX12_takeClause 105 = .ok (.iastore, 1) := by decide +kernel
theorem dX12_takeClause_106 : decode cX12_takeClause 106 = .ok (.iload_n 3, 1) := by decide +kernel
theorem dX12_takeClause_107 : decode cX12_takeClause 107 = .ok (.ifCond .ne 83, 3) := by decide +kernel
theorem dX12_takeClause_110 : decode cX12_takeClause 110 = .ok (.iload_n 1, 1) := by decide +kernel
theorem dX12_takeClause_111 : decode cX12_takeClause 111 = .ok (.iconst 5, 1) := by decide +kernel
theorem dX12_takeClause_112 : decode cX12_takeClause 112 = .ok (.if_icmp .ne 78, 3) := by decide +kernel
theorem dX12_takeClause_115 : decode cX12_takeClause 115 = .ok (.aload_n 0, 1) := by decide +kernel
theorem dX12_takeClause_116 : decode cX12_takeClause 116 = .ok (.invokevirtual 183, 3) := by decide +kernel
theorem dX12_takeClause_119 : decode cX12_takeClause 119 = .ok (.aload_n 0, 1) := by decide +kernel
theorem dX12_takeClause_120 : decode cX12_takeClause 120 = .ok (.getfield 145, 3) := by decide +kernel
theorem dX12_takeClause_123 : decode cX12_takeClause 123 = .ok (.ldc2_w 196, 3) := by decide +kernel
theorem dX12_takeClause_126 : decode cX12_takeClause 126 = .ok (.lcmp, 1) := by decide +kernel
theorem dX12_takeClause_127 : decode cX12_takeClause 127 = .ok (.ifCond .ne 7, 3) := by decide +kernel
theorem dX12_takeClause_130 : decode cX12_takeClause 130 = .ok (.iconst 0, 1) := by decide +kernel
theorem dX12_takeClause_131 : decode cX12_takeClause 131 = .ok (.goto 12, 3) := by decide +kernel
theorem dX12_takeClause_134 : decode cX12_takeClause 134 = .ok (.aload_n 0, 1) := by decide +kernel
theorem dX12_takeClause_135 : decode cX12_takeClause 135 = .ok (.iconst 1, 1) := by decide +kernel
theorem dX12_takeClause_136 : decode cX12_takeClause 136 = .ok (.aload_n 0, 1) := by decide +kernel
theorem dX12_takeClause_137 : decode cX12_takeClause 137 = .ok (.getfield 138, 3) := by decide +kernel
theorem dX12_takeClause_140 : decode cX12_takeClause 140 = .ok (.invokevirtual 174, 3) := by decide +kernel
theorem dX12_takeClause_143 : decode cX12_takeClause 143 = .ok (.istore_n 3, 1) := by decide +kernel
theorem dX12_takeClause_144 : decode cX12_takeClause 144 = .ok (.aload_n 0, 1) := by decide +kernel
theorem dX12_takeClause_145 : decode cX12_takeClause 145 = .ok (.iload_n 3, 1) := by decide +kernel
theorem dX12_takeClause_146 : decode cX12_takeClause 146 = .ok (.ifCond .le 10, 3) := by decide +kernel
theorem dX12_takeClause_149 : decode cX12_takeClause 149 = .ok (.aload_n 0, 1) := by decide +kernel
theorem dX12_takeClause_150 : decode cX12_takeClause 150 = .ok (.getfield 138, 3) := by decide +kernel
theorem dX12_takeClause_153 : decode cX12_takeClause 153 = .ok (.goto 7, 3) := by decide +kernel
theorem dX12_takeClause_156 : decode cX12_takeClause 156 = .ok (.aload_n 0, 1) := by decide +kernel
theorem dX12_takeClause_157 : decode cX12_takeClause 157 = .ok (.getfield 149, 3) := by decide +kernel
theorem dX12_takeClause_160 : decode cX12_takeClause 160 = .ok (.putfield 138, 3) := by decide +kernel
theorem dX12_takeClause_163 : decode cX12_takeClause 163 = .ok (.iload_n 3, 1) := by decide +kernel
theorem dX12_takeClause_164 : decode cX12_takeClause 164 = .ok (.ifCond .le 7, 3) := by decide +kernel
theorem dX12_takeClause_167 : decode cX12_takeClause 167 = .ok (.iload_n 3, 1) := by decide +kernel
theorem dX12_takeClause_168 : decode cX12_takeClause 168 = .ok (.goto 10, 3) := by decide +kernel
theorem dX12_takeClause_171 : decode cX12_takeClause 171 = .ok (.aload_n 0, 1) := by decide +kernel
theorem dX12_takeClause_172 : decode cX12_takeClause 172 = .ok (.iconst 0, 1) := by decide +kernel
theorem dX12_takeClause_173 : decode cX12_takeClause 173 = .ok (.bipush 27, 2) := by decide +kernel
theorem dX12_takeClause_175 : decode cX12_takeClause 175 = .ok (.invokevirtual 193, 3) := by decide +kernel
theorem dX12_takeClause_178 : decode cX12_takeClause 178 = .ok (.istore_n 3, 1) := by decide +kernel
theorem dX12_takeClause_179 : decode cX12_takeClause 179 = .ok (.aload_n 0, 1) := by decide +kernel
theorem dX12_takeClause_180 : decode cX12_takeClause 180 = .ok (.getfield 20, 3) := by decide +kernel
theorem dX12_takeClause_183 : decode cX12_takeClause 183 = .ok (.bipush 6, 2) := by decide +kernel
theorem dX12_takeClause_185 : decode cX12_takeClause 185 = .ok (.aload_n 0, 1) := by decide +kernel
theorem dX12_takeClause_186 : decode cX12_takeClause 186 = .ok (.getfield 177, 3) := by decide +kernel
theorem dX12_takeClause_189 : decode cX12_takeClause 189 = .ok (.iastore, 1) := by decide +kernel
theorem dX12_takeClause_190 : decode cX12_takeClause 190 = .ok (.iload_n 3, 1) := by decide +kernel
theorem dX12_takeClause_191 : decode cX12_takeClause 191 = .ok (.ifCond .le 5, 3) := by decide +kernel
theorem dX12_takeClause_194 : decode cX12_takeClause 194 = .ok (.iload_n 3, 1) := by decide +kernel
theorem dX12_takeClause_195 : decode cX12_takeClause 195 = .ok (.ireturn, 1) := by decide +kernel
theorem dX12_takeClause_196 : decode cX12_takeClause 196 = .ok (.aload_n 0, 1) := by decide +kernel
theorem dX12_takeClause_197 : decode cX12_takeClause 197 = .ok (.invokevirtual 141, 3) := by decide +kernel
theorem dX12_takeClause_200 : decode cX12_takeClause 200 = .ok (.bipush 59, 2) := by decide +kernel
theorem dX12_takeClause_202 : decode cX12_takeClause 202 = .ok (.if_icmp .eq 13, 3) := by decide +kernel
theorem dX12_takeClause_205 : decode cX12_takeClause 205 = .ok (.aload_n 0, 1) := by decide +kernel
theorem dX12_takeClause_206 : decode cX12_takeClause 206 = .ok (.iconst 1, 1) := by decide +kernel
theorem dX12_takeClause_207 : decode cX12_takeClause 207 = .ok (.aload_n 0, 1) := by decide +kernel
theorem dX12_takeClause_208 : decode cX12_takeClause 208 = .ok (.getfield 138, 3) := by decide +kernel
theorem dX12_takeClause_211 : decode cX12_takeClause 211 = .ok (.invokevirtual 174, 3) := by decide +kernel
theorem dX12_takeClause_214 : decode cX12_takeClause 214 = .ok (.ireturn, 1) := by decide +kernel
theorem dX12_takeClause_215 : decode cX12_takeClause 215 = .ok (.aload_n 0, 1) := by decide +kernel
theorem dX12_takeClause_216 : decode cX12_takeClause 216 = .ok (.dup, 1) := by decide +kernel
theorem dX12_takeClause_217 : decode cX12_takeClause 217 = .ok (.getfield 138, 3) := by decide +kernel
theorem dX12_takeClause_220 : decode cX12_takeClause 220 = .ok (.iconst 1, 1) := by decide +kernel
theorem dX12_takeClause_221 : decode cX12_takeClause 221 = .ok (.iadd, 1) := by decide +kernel
theorem dX12_takeClause_222 : decode cX12_takeClause 222 = .ok (.putfield 138, 3) := by decide +kernel
theorem dX12_takeClause_225 : decode cX12_takeClause 225 = .ok (.iconst 0, 1) := by decide +kernel
theorem dX12_takeClause_226 : decode cX12_takeClause 226 = .ok (.ireturn, 1) := by decide +kernel
theorem dX12_law_0 : decode cX12_law 0 = .ok (.aload_n 0, 1) := by decide +kernel
theorem dX12_law_1 : decode cX12_law 1 = .ok (.iconst (-1), 1) := by decide +kernel
theorem dX12_law_2 : decode cX12_law 2 = .ok (.putfield 16, 3) := by decide +kernel
theorem dX12_law_5 : decode cX12_law 5 = .ok (.aload_n 0, 1) := by decide +kernel
theorem dX12_law_6 : decode cX12_law 6 = .ok (.iconst 0, 1) := by decide +kernel
theorem dX12_law_7 : decode cX12_law 7 = .ok (.putfield 138, 3) := by decide +kernel
theorem dX12_law_10 : decode cX12_law 10 = .ok (.aload_n 0, 1) := by decide +kernel
theorem dX12_law_11 : decode cX12_law 11 = .ok (.invokevirtual 99, 3) := by decide +kernel
theorem dX12_law_14 : decode cX12_law 14 = .ok (.iconst 0, 1) := by decide +kernel
theorem dX12_law_15 : decode cX12_law 15 = .ok (.istore_n 1, 1) := by decide +kernel
theorem dX12_law_16 : decode cX12_law 16 = .ok (.iconst 0, 1) := by decide +kernel
theorem dX12_law_17 : decode cX12_law 17 = .ok (.istore_n 2, 1) := by decide +kernel
theorem dX12_law_18 : decode cX12_law 18 = .ok (.iload_n 2, 1) := by decide +kernel
theorem dX12_law_19 : decode cX12_law 19 = .ok (.ifCond .ne 21, 3) := by decide +kernel
theorem dX12_law_22 : decode cX12_law 22 = .ok (.aload_n 0, 1) := by decide +kernel
theorem dX12_law_23 : decode cX12_law 23 = .ok (.invokevirtual 141, 3) := by decide +kernel
theorem dX12_law_26 : decode cX12_law 26 = .ok (.ifCond .lt 14, 3) := by decide +kernel
theorem dX12_law_29 : decode cX12_law 29 = .ok (.aload_n 0, 1) := by decide +kernel
theorem dX12_law_30 : decode cX12_law 30 = .ok (.invokevirtual 198, 3) := by decide +kernel
theorem dX12_law_33 : decode cX12_law 33 = .ok (.istore_n 2, 1) := by decide +kernel
theorem dX12_law_34 : decode cX12_law 34 = .ok (.iinc 1 1, 3) := by decide +kernel
theorem dX12_law_37 : decode cX12_law 37 = .ok (.goto (-19), 3) := by decide +kernel
theorem dX12_law_40 : decode cX12_law 40 = .ok (.aload_n 0, 1) := by decide +kernel
theorem dX12_law_41 : decode cX12_law 41 = .ok (.iconst 0, 1) := by decide +kernel
theorem dX12_law_42 : decode cX12_law 42 = .ok (.putfield 133, 3) := by decide +kernel
theorem dX12_law_45 : decode cX12_law 45 = .ok (.iload_n 2, 1) := by decide +kernel
theorem dX12_law_46 : decode cX12_law 46 = .ok (.ifCond .le 8, 3) := by decide +kernel
theorem dX12_law_49 : decode cX12_law 49 = .ok (.bipush (-10), 2) := by decide +kernel
theorem dX12_law_51 : decode cX12_law 51 = .ok (.iload_n 2, 1) := by decide +kernel
theorem dX12_law_52 : decode cX12_law 52 = .ok (.isub, 1) := by decide +kernel
theorem dX12_law_53 : decode cX12_law 53 = .ok (.ireturn, 1) := by decide +kernel
theorem dX12_law_54 : decode cX12_law 54 = .ok (.aload_n 0, 1) := by decide +kernel
theorem dX12_law_55 : decode cX12_law 55 = .ok (.invokevirtual 102, 3) := by decide +kernel
theorem dX12_law_58 : decode cX12_law 58 = .ok (.iload_n 1, 1) := by decide +kernel
theorem dX12_law_59 : decode cX12_law 59 = .ok (.ireturn, 1) := by decide +kernel
theorem dX12_keepLaw_0 : decode cX12_keepLaw 0 = .ok (.iconst 0, 1) := by decide +kernel
theorem dX12_keepLaw_1 : decode cX12_keepLaw 1 = .ok (.istore_n 1, 1) := by decide +kernel
theorem dX12_keepLaw_2 : decode cX12_keepLaw 2 = .ok (.iload_n 1, 1) := by decide +kernel
theorem dX12_keepLaw_3 : decode cX12_keepLaw 3 = .ok (.bipush 8, 2) := by decide +kernel
theorem dX12_keepLaw_5 : decode cX12_keepLaw 5 = .ok (.if_icmp .ge 21, 3) := by decide +kernel
theorem dX12_keepLaw_8 : decode cX12_keepLaw 8 = .ok (.aload_n 0, 1) := by decide +kernel
theorem dX12_keepLaw_9 : decode cX12_keepLaw 9 = .ok (.getfield 7, 3) := by decide +kernel
theorem dX12_keepLaw_12 : decode cX12_keepLaw 12 = .ok (.iload_n 1, 1) := by decide +kernel
theorem dX12_keepLaw_13 : decode cX12_keepLaw 13 = .ok (.aload_n 0, 1) := by decide +kernel
theorem dX12_keepLaw_14 : decode cX12_keepLaw 14 = .ok (.getfield 20, 3) := by decide +kernel
theorem dX12_keepLaw_17 : decode cX12_keepLaw 17 = .ok (.iload_n 1, 1) := by decide +kernel
theorem dX12_keepLaw_18 : decode cX12_keepLaw 18 = .ok (.iaload, 1) := by decide +kernel
theorem dX12_keepLaw_19 : decode cX12_keepLaw 19 = .ok (.iastore, 1) := by decide +kernel
theorem dX12_keepLaw_20 : decode cX12_keepLaw 20 = .ok (.iinc 1 1, 3) := by decide +kernel
theorem dX12_keepLaw_23 : decode cX12_keepLaw 23 = .ok (.goto (-21), 3) := by decide +kernel
theorem dX12_keepLaw_26 : decode cX12_keepLaw 26 = .ok (.return_, 1) := by decide +kernel
theorem dX12_fault_0 : decode cX12_fault 0 = .ok (.aload_n 0, 1) := by decide +kernel
theorem dX12_fault_1 : decode cX12_fault 1 = .ok (.getfield 16, 3) := by decide +kernel
theorem dX12_fault_4 : decode cX12_fault 4 = .ok (.ireturn, 1) := by decide +kernel
theorem dX12_told_0 : decode cX12_told 0 = .ok (.iload_n 1, 1) := by decide +kernel
theorem dX12_told_1 : decode cX12_told 1 = .ok (.i2l, 1) := by decide +kernel
theorem dX12_told_2 : decode cX12_told 2 = .ok (.lconst 0, 1) := by decide +kernel
theorem dX12_told_3 : decode cX12_told 3 = .ok (.ldc2_w 115, 3) := by decide +kernel
theorem dX12_told_6 : decode cX12_told 6 = .ok (.invokestatic 107, 3) := by decide +kernel
theorem dX12_told_9 : decode cX12_told 9 = .ok (.ifCond .eq 12, 3) := by decide +kernel
theorem dX12_told_12 : decode cX12_told 12 = .ok (.aload_n 0, 1) := by decide +kernel
theorem dX12_told_13 : decode cX12_told 13 = .ok (.getfield 7, 3) := by decide +kernel
theorem dX12_told_16 : decode cX12_told 16 = .ok (.iload_n 1, 1) := by decide +kernel
theorem dX12_told_17 : decode cX12_told 17 = .ok (.iaload, 1) := by decide +kernel
theorem dX12_told_18 : decode cX12_told 18 = .ok (.goto 6, 3) := by decide +kernel
theorem dX12_told_21 : decode cX12_told 21 = .ok (.sipush (-1002), 3) := by decide +kernel
theorem dX12_told_24 : decode cX12_told 24 = .ok (.ireturn, 1) := by decide +kernel
theorem dX12_greaterOf_0 : decode cX12_greaterOf 0 = .ok (.ldc 201, 2) := by decide +kernel
theorem dX12_greaterOf_2 : decode cX12_greaterOf 2 = .ok (.istore_n 2, 1) := by decide +kernel
theorem dX12_greaterOf_3 : decode cX12_greaterOf 3 = .ok (.iconst 1, 1) := by decide +kernel
theorem dX12_greaterOf_4 : decode cX12_greaterOf 4 = .ok (.istore_n 3, 1) := by decide +kernel
theorem dX12_greaterOf_5 : decode cX12_greaterOf 5 = .ok (.iload_n 3, 1) := by decide +kernel
theorem dX12_greaterOf_6 : decode cX12_greaterOf 6 = .ok (.iload_n 1, 1) := by decide +kernel
theorem dX12_greaterOf_7 : decode cX12_greaterOf 7 = .ok (.if_icmp .ge 25, 3) := by decide +kernel
theorem dX12_greaterOf_10 : decode cX12_greaterOf 10 = .ok (.iload_n 2, 1) := by decide +kernel
theorem dX12_greaterOf_11 : decode cX12_greaterOf 11 = .ok (.i2l, 1) := by decide +kernel
theorem dX12_greaterOf_12 : decode cX12_greaterOf 12 = .ok (.aload_n 0, 1) := by decide +kernel
theorem dX12_greaterOf_13 : decode cX12_greaterOf 13 = .ok (.getfield 7, 3) := by decide +kernel
theorem dX12_greaterOf_16 : decode cX12_greaterOf 16 = .ok (.iconst 1, 1) := by decide +kernel
theorem dX12_greaterOf_17 : decode cX12_greaterOf 17 = .ok (.iaload, 1) := by decide +kernel
theorem dX12_greaterOf_18 : decode cX12_greaterOf 18 = .ok (.i2l, 1) := by decide +kernel
theorem dX12_greaterOf_19 : decode cX12_greaterOf 19 = .ok (.lmul, 1) := by decide +kernel
theorem dX12_greaterOf_20 : decode cX12_greaterOf 20 = .ok (.ldc2_w 202, 3) := by decide +kernel
theorem dX12_greaterOf_23 : decode cX12_greaterOf 23 = .ok (.ldiv, 1) := by decide +kernel
theorem dX12_greaterOf_24 : decode cX12_greaterOf 24 = .ok (.l2i, 1) := by decide +kernel
theorem dX12_greaterOf_25 : decode cX12_greaterOf 25 = .ok (.istore_n 2, 1) := by decide +kernel
theorem dX12_greaterOf_26 : decode cX12_greaterOf 26 = .ok (.iinc 3 1, 3) := by decide +kernel
theorem dX12_greaterOf_29 : decode cX12_greaterOf 29 = .ok (.goto (-24), 3) := by decide +kernel
theorem dX12_greaterOf_32 : decode cX12_greaterOf 32 = .ok (.iload_n 2, 1) := by decide +kernel
theorem dX12_greaterOf_33 : decode cX12_greaterOf 33 = .ok (.ireturn, 1) := by decide +kernel
theorem dX12_greater_0 : decode cX12_greater 0 = .ok (.iload_n 1, 1) := by decide +kernel
theorem dX12_greater_1 : decode cX12_greater 1 = .ok (.invokestatic 204, 3) := by decide +kernel
theorem dX12_greater_4 : decode cX12_greater 4 = .ok (.ifCond .eq 11, 3) := by decide +kernel
theorem dX12_greater_7 : decode cX12_greater 7 = .ok (.aload_n 0, 1) := by decide +kernel
theorem dX12_greater_8 : decode cX12_greater 8 = .ok (.iload_n 1, 1) := by decide +kernel
theorem dX12_greater_9 : decode cX12_greater 9 = .ok (.invokevirtual 207, 3) := by decide +kernel
theorem dX12_greater_12 : decode cX12_greater 12 = .ok (.goto 6, 3) := by decide +kernel
theorem dX12_greater_15 : decode cX12_greater 15 = .ok (.sipush (-1002), 3) := by decide +kernel
theorem dX12_greater_18 : decode cX12_greater 18 = .ok (.ireturn, 1) := by decide +kernel
theorem dX12_isShake_0 : decode cX12_isShake 0 = .ok (.iload_n 1, 1) := by decide +kernel
theorem dX12_isShake_1 : decode cX12_isShake 1 = .ok (.i2l, 1) := by decide +kernel
theorem dX12_isShake_2 : decode cX12_isShake 2 = .ok (.lconst 0, 1) := by decide +kernel
theorem dX12_isShake_3 : decode cX12_isShake 3 = .ok (.aload_n 0, 1) := by decide +kernel
theorem dX12_isShake_4 : decode cX12_isShake 4 = .ok (.getfield 210, 3) := by decide +kernel
theorem dX12_isShake_7 : decode cX12_isShake 7 = .ok (.iconst 1, 1) := by decide +kernel
theorem dX12_isShake_8 : decode cX12_isShake 8 = .ok (.isub, 1) := by decide +kernel
theorem dX12_isShake_9 : decode cX12_isShake 9 = .ok (.i2l, 1) := by decide +kernel
theorem dX12_isShake_10 : decode cX12_isShake 10 = .ok (.invokestatic 107, 3) := by decide +kernel
theorem dX12_isShake_13 : decode cX12_isShake 13 = .ok (.ireturn, 1) := by decide +kernel
theorem dX12_addShake_0 : decode cX12_addShake 0 = .ok (.aload_n 0, 1) := by decide +kernel
theorem dX12_addShake_1 : decode cX12_addShake 1 = .ok (.getfield 23, 3) := by decide +kernel
theorem dX12_addShake_4 : decode cX12_addShake 4 = .ok (.aload_n 0, 1) := by decide +kernel
theorem dX12_addShake_5 : decode cX12_addShake 5 = .ok (.getfield 210, 3) := by decide +kernel
theorem dX12_addShake_8 : decode cX12_addShake 8 = .ok (.iload_n 1, 1) := by decide +kernel
theorem dX12_addShake_9 : decode cX12_addShake 9 = .ok (.iastore, 1) := by decide +kernel
theorem dX12_addShake_10 : decode cX12_addShake 10 = .ok (.aload_n 0, 1) := by decide +kernel
theorem dX12_addShake_11 : decode cX12_addShake 11 = .ok (.getfield 26, 3) := by decide +kernel
theorem dX12_addShake_14 : decode cX12_addShake 14 = .ok (.aload_n 0, 1) := by decide +kernel
theorem dX12_addShake_15 : decode cX12_addShake 15 = .ok (.getfield 210, 3) := by decide +kernel
theorem dX12_addShake_18 : decode cX12_addShake 18 = .ok (.iload_n 2, 1) := by decide +kernel
theorem dX12_addShake_19 : decode cX12_addShake 19 = .ok (.iastore, 1) := by decide +kernel
theorem dX12_addShake_20 : decode cX12_addShake 20 = .ok (.aload_n 0, 1) := by decide +kernel
theorem dX12_addShake_21 : decode cX12_addShake 21 = .ok (.getfield 29, 3) := by decide +kernel
theorem dX12_addShake_24 : decode cX12_addShake 24 = .ok (.aload_n 0, 1) := by decide +kernel
theorem dX12_addShake_25 : decode cX12_addShake 25 = .ok (.getfield 210, 3) := by decide +kernel
theorem dX12_addShake_28 : decode cX12_addShake 28 = .ok (.iload_n 3, 1) := by decide +kernel
theorem dX12_addShake_29 : decode cX12_addShake 29 = .ok (.iastore, 1) := by decide +kernel
theorem dX12_addShake_30 : decode cX12_addShake 30 = .ok (.aload_n 0, 1) := by decide +kernel
theorem dX12_addShake_31 : decode cX12_addShake 31 = .ok (.dup, 1) := by decide +kernel
theorem dX12_addShake_32 : decode cX12_addShake 32 = .ok (.getfield 210, 3) := by decide +kernel
theorem dX12_addShake_35 : decode cX12_addShake 35 = .ok (.iconst 1, 1) := by decide +kernel
