theorem dX0_init_0 : decode cX0_init 0 = .ok (.aload_n 0, 1) := by decide +kernel
theorem dX0_init_1 : decode cX0_init 1 = .ok (.invokespecial 3, 3) := by decide +kernel
theorem dX0_init_4 : decode cX0_init 4 = .ok (.aload_n 0, 1) := by decide +kernel
theorem dX0_init_5 : decode cX0_init 5 = .ok (.bipush 60, 2) := by decide +kernel
theorem dX0_init_7 : decode cX0_init 7 = .ok (.newarray .int, 2) := by decide +kernel
theorem dX0_init_9 : decode cX0_init 9 = .ok (.putfield 9, 3) := by decide +kernel
theorem dX0_init_12 : decode cX0_init 12 = .ok (.aload_n 0, 1) := by decide +kernel
theorem dX0_init_13 : decode cX0_init 13 = .ok (.bipush 60, 2) := by decide +kernel
theorem dX0_init_15 : decode cX0_init 15 = .ok (.newarray .int, 2) := by decide +kernel
theorem dX0_init_17 : decode cX0_init 17 = .ok (.putfield 15, 3) := by decide +kernel
theorem dX0_init_20 : decode cX0_init 20 = .ok (.aload_n 0, 1) := by decide +kernel
theorem dX0_init_21 : decode cX0_init 21 = .ok (.bipush 60, 2) := by decide +kernel
theorem dX0_init_23 : decode cX0_init 23 = .ok (.newarray .int, 2) := by decide +kernel
theorem dX0_init_25 : decode cX0_init 25 = .ok (.putfield 18, 3) := by decide +kernel
theorem dX0_init_28 : decode cX0_init 28 = .ok (.aload_n 0, 1) := by decide +kernel
theorem dX0_init_29 : decode cX0_init 29 = .ok (.iconst 0, 1) := by decide +kernel
theorem dX0_init_30 : decode cX0_init 30 = .ok (.putfield 21, 3) := by decide +kernel
theorem dX0_init_33 : decode cX0_init 33 = .ok (.aload_n 0, 1) := by decide +kernel
theorem dX0_init_34 : decode cX0_init 34 = .ok (.iconst 0, 1) := by decide +kernel
theorem dX0_init_35 : decode cX0_init 35 = .ok (.putfield 25, 3) := by decide +kernel
theorem dX0_init_38 : decode cX0_init 38 = .ok (.aload_n 0, 1) := by decide +kernel
theorem dX0_init_39 : decode cX0_init 39 = .ok (.iconst 0, 1) := by decide +kernel
theorem dX0_init_40 : decode cX0_init 40 = .ok (.putfield 28, 3) := by decide +kernel
theorem dX0_init_43 : decode cX0_init 43 = .ok (.return_, 1) := by decide +kernel
theorem dX0_size_0 : decode cX0_size 0 = .ok (.aload_n 0, 1) := by decide +kernel
theorem dX0_size_1 : decode cX0_size 1 = .ok (.getfield 21, 3) := by decide +kernel
theorem dX0_size_4 : decode cX0_size 4 = .ok (.ireturn, 1) := by decide +kernel
theorem dX0_today_0 : decode cX0_today 0 = .ok (.aload_n 0, 1) := by decide +kernel
theorem dX0_today_1 : decode cX0_today 1 = .ok (.getfield 25, 3) := by decide +kernel
theorem dX0_today_4 : decode cX0_today 4 = .ok (.ireturn, 1) := by decide +kernel
theorem dX0_isFull_0 : decode cX0_isFull 0 = .ok (.aload_n 0, 1) := by decide +kernel
theorem dX0_isFull_1 : decode cX0_isFull 1 = .ok (.getfield 21, 3) := by decide +kernel
theorem dX0_isFull_4 : decode cX0_isFull 4 = .ok (.bipush 60, 2) := by decide +kernel
theorem dX0_isFull_6 : decode cX0_isFull 6 = .ok (.if_icmp .lt 7, 3) := by decide +kernel
theorem dX0_isFull_9 : decode cX0_isFull 9 = .ok (.iconst 1, 1) := by decide +kernel
theorem dX0_isFull_10 : decode cX0_isFull 10 = .ok (.goto 4, 3) := by decide +kernel
theorem dX0_isFull_13 : decode cX0_isFull 13 = .ok (.iconst 0, 1) := by decide +kernel
theorem dX0_isFull_14 : decode cX0_isFull 14 = .ok (.ireturn, 1) := by decide +kernel
theorem dX0_has_0 : decode cX0_has 0 = .ok (.iload_n 1, 1) := by decide +kernel
theorem dX0_has_1 : decode cX0_has 1 = .ok (.ifCond .lt 21, 3) := by decide +kernel
theorem dX0_has_4 : decode cX0_has 4 = .ok (.iload_n 1, 1) := by decide +kernel
theorem dX0_has_5 : decode cX0_has 5 = .ok (.aload_n 0, 1) := by decide +kernel
theorem dX0_has_6 : decode cX0_has 6 = .ok (.getfield 21, 3) := by decide +kernel
theorem dX0_has_9 : decode cX0_has 9 = .ok (.if_icmp .ge 13, 3) := by decide +kernel
theorem dX0_has_12 : decode cX0_has 12 = .ok (.iload_n 1, 1) := by decide +kernel
theorem dX0_has_13 : decode cX0_has 13 = .ok (.bipush 60, 2) := by decide +kernel
theorem dX0_has_15 : decode cX0_has 15 = .ok (.if_icmp .ge 7, 3) := by decide +kernel
theorem dX0_has_18 : decode cX0_has 18 = .ok (.iconst 1, 1) := by decide +kernel
theorem dX0_has_19 : decode cX0_has 19 = .ok (.goto 4, 3) := by decide +kernel
theorem dX0_has_22 : decode cX0_has 22 = .ok (.iconst 0, 1) := by decide +kernel
theorem dX0_has_23 : decode cX0_has 23 = .ok (.ireturn, 1) := by decide +kernel
theorem dX0_dayOf_0 : decode cX0_dayOf 0 = .ok (.aload_n 0, 1) := by decide +kernel
theorem dX0_dayOf_1 : decode cX0_dayOf 1 = .ok (.iload_n 1, 1) := by decide +kernel
theorem dX0_dayOf_2 : decode cX0_dayOf 2 = .ok (.invokevirtual 31, 3) := by decide +kernel
theorem dX0_dayOf_5 : decode cX0_dayOf 5 = .ok (.ifCond .eq 12, 3) := by decide +kernel
theorem dX0_dayOf_8 : decode cX0_dayOf 8 = .ok (.aload_n 0, 1) := by decide +kernel
theorem dX0_dayOf_9 : decode cX0_dayOf 9 = .ok (.getfield 9, 3) := by decide +kernel
theorem dX0_dayOf_12 : decode cX0_dayOf 12 = .ok (.iload_n 1, 1) := by decide +kernel
theorem dX0_dayOf_13 : decode cX0_dayOf 13 = .ok (.iaload, 1) := by decide +kernel
theorem dX0_dayOf_14 : decode cX0_dayOf 14 = .ok (.goto 4, 3) := by decide +kernel
theorem dX0_dayOf_17 : decode cX0_dayOf 17 = .ok (.iconst (-1), 1) := by decide +kernel
theorem dX0_dayOf_18 : decode cX0_dayOf 18 = .ok (.ireturn, 1) := by decide +kernel
theorem dX0_placeOf_0 : decode cX0_placeOf 0 = .ok (.aload_n 0, 1) := by decide +kernel
theorem dX0_placeOf_1 : decode cX0_placeOf 1 = .ok (.iload_n 1, 1) := by decide +kernel
theorem dX0_placeOf_2 : decode cX0_placeOf 2 = .ok (.invokevirtual 31, 3) := by decide +kernel
theorem dX0_placeOf_5 : decode cX0_placeOf 5 = .ok (.ifCond .eq 12, 3) := by decide +kernel
theorem dX0_placeOf_8 : decode cX0_placeOf 8 = .ok (.aload_n 0, 1) := by decide +kernel
theorem dX0_placeOf_9 : decode cX0_placeOf 9 = .ok (.getfield 15, 3) := by decide +kernel
theorem dX0_placeOf_12 : decode cX0_placeOf 12 = .ok (.iload_n 1, 1) := by decide +kernel
theorem dX0_placeOf_13 : decode cX0_placeOf 13 = .ok (.iaload, 1) := by decide +kernel
theorem dX0_placeOf_14 : decode cX0_placeOf 14 = .ok (.goto 4, 3) := by decide +kernel
theorem dX0_placeOf_17 : decode cX0_placeOf 17 = .ok (.iconst (-1), 1) := by decide +kernel
theorem dX0_placeOf_18 : decode cX0_placeOf 18 = .ok (.ireturn, 1) := by decide +kernel
theorem dX0_sizeOf_0 : decode cX0_sizeOf 0 = .ok (.aload_n 0, 1) := by decide +kernel
theorem dX0_sizeOf_1 : decode cX0_sizeOf 1 = .ok (.iload_n 1, 1) := by decide +kernel
theorem dX0_sizeOf_2 : decode cX0_sizeOf 2 = .ok (.invokevirtual 31, 3) := by decide +kernel
theorem dX0_sizeOf_5 : decode cX0_sizeOf 5 = .ok (.ifCond .eq 12, 3) := by decide +kernel
theorem dX0_sizeOf_8 : decode cX0_sizeOf 8 = .ok (.aload_n 0, 1) := by decide +kernel
theorem dX0_sizeOf_9 : decode cX0_sizeOf 9 = .ok (.getfield 18, 3) := by decide +kernel
theorem dX0_sizeOf_12 : decode cX0_sizeOf 12 = .ok (.iload_n 1, 1) := by decide +kernel
theorem dX0_sizeOf_13 : decode cX0_sizeOf 13 = .ok (.iaload, 1) := by decide +kernel
theorem dX0_sizeOf_14 : decode cX0_sizeOf 14 = .ok (.goto 4, 3) := by decide +kernel
theorem dX0_sizeOf_17 : decode cX0_sizeOf 17 = .ok (.iconst (-1), 1) := by decide +kernel
theorem dX0_sizeOf_18 : decode cX0_sizeOf 18 = .ok (.ireturn, 1) := by decide +kernel
theorem dX0_changeSeed_0 : decode cX0_changeSeed 0 = .ok (.aload_n 0, 1) := by decide +kernel
theorem dX0_changeSeed_1 : decode cX0_changeSeed 1 = .ok (.getfield 28, 3) := by decide +kernel
theorem dX0_changeSeed_4 : decode cX0_changeSeed 4 = .ok (.istore_n 2, 1) := by decide +kernel
theorem dX0_changeSeed_5 : decode cX0_changeSeed 5 = .ok (.aload_n 0, 1) := by decide +kernel
theorem dX0_changeSeed_6 : decode cX0_changeSeed 6 = .ok (.iload_n 1, 1) := by decide +kernel
theorem dX0_changeSeed_7 : decode cX0_changeSeed 7 = .ok (.putfield 28, 3) := by decide +kernel
theorem dX0_changeSeed_10 : decode cX0_changeSeed 10 = .ok (.iload_n 2, 1) := by decide +kernel
theorem dX0_changeSeed_11 : decode cX0_changeSeed 11 = .ok (.ireturn, 1) := by decide +kernel
theorem dX0_write_0 : decode cX0_write 0 = .ok (.aload_n 0, 1) := by decide +kernel
theorem dX0_write_1 : decode cX0_write 1 = .ok (.getfield 21, 3) := by decide +kernel
theorem dX0_write_4 : decode cX0_write 4 = .ok (.ifCond .lt 10, 3) := by decide +kernel
theorem dX0_write_7 : decode cX0_write 7 = .ok (.aload_n 0, 1) := by decide +kernel
theorem dX0_write_8 : decode cX0_write 8 = .ok (.invokevirtual 35, 3) := by decide +kernel
theorem dX0_write_11 : decode cX0_write 11 = .ok (.ifCond .eq 5, 3) := by decide +kernel
theorem dX0_write_14 : decode cX0_write 14 = .ok (.iconst (-1), 1) := by decide +kernel
theorem dX0_write_15 : decode cX0_write 15 = .ok (.ireturn, 1) := by decide +kernel
theorem dX0_write_16 : decode cX0_write 16 = .ok (.aload_n 0, 1) := by decide +kernel
theorem dX0_write_17 : decode cX0_write 17 = .ok (.getfield 9, 3) := by decide +kernel
theorem dX0_write_20 : decode cX0_write 20 = .ok (.aload_n 0, 1) := by decide +kernel
theorem dX0_write_21 : decode cX0_write 21 = .ok (.getfield 21, 3) := by decide +kernel
theorem dX0_write_24 : decode cX0_write 24 = .ok (.iload_n 1, 1) := by decide +kernel
theorem dX0_write_25 : decode cX0_write 25 = .ok (.iastore, 1) := by decide +kernel
theorem dX0_write_26 : decode cX0_write 26 = .ok (.aload_n 0, 1) := by decide +kernel
theorem dX0_write_27 : decode cX0_write 27 = .ok (.getfield 15, 3) := by decide +kernel
theorem dX0_write_30 : decode cX0_write 30 = .ok (.aload_n 0, 1) := by decide +kernel
theorem dX0_write_31 : decode cX0_write 31 = .ok (.getfield 21, 3) := by decide +kernel
theorem dX0_write_34 : decode cX0_write 34 = .ok (.iload_n 2, 1) := by decide +kernel
theorem dX0_write_35 : decode cX0_write 35 = .ok (.iastore, 1) := by decide +kernel
theorem dX0_write_36 : decode cX0_write 36 = .ok (.aload_n 0, 1) := by decide +kernel
theorem dX0_write_37 : decode cX0_write 37 = .ok (.getfield 18, 3) := by decide +kernel
theorem dX0_write_40 : decode cX0_write 40 = .ok (.aload_n 0, 1) := by decide +kernel
theorem dX0_write_41 : decode cX0_write 41 = .ok (.getfield 21, 3) := by decide +kernel
theorem dX0_write_44 : decode cX0_write 44 = .ok (.iload_n 3, 1) := by decide +kernel
theorem dX0_write_45 : decode cX0_write 45 = .ok (.iastore, 1) := by decide +kernel
theorem dX0_write_46 : decode cX0_write 46 = .ok (.aload_n 0, 1) := by decide +kernel
theorem dX0_write_47 : decode cX0_write 47 = .ok (.iload_n 1, 1) := by decide +kernel
theorem dX0_write_48 : decode cX0_write 48 = .ok (.putfield 25, 3) := by decide +kernel
theorem dX0_write_51 : decode cX0_write 51 = .ok (.aload_n 0, 1) := by decide +kernel
theorem dX0_write_52 : decode cX0_write 52 = .ok (.dup, 1) := by decide +kernel
theorem dX0_write_53 : decode cX0_write 53 = .ok (.getfield 21, 3) := by decide +kernel
theorem dX0_write_56 : decode cX0_write 56 = .ok (.iconst 1, 1) := by decide +kernel
theorem dX0_write_57 : decode cX0_write 57 = .ok (.iadd, 1) := by decide +kernel
theorem dX0_write_58 : decode cX0_write 58 = .ok (.putfield 21, 3) := by decide +kernel
theorem dX0_write_61 : decode cX0_write 61 = .ok (.aload_n 0, 1) := by decide +kernel
theorem dX0_write_62 : decode cX0_write 62 = .ok (.getfield 21, 3) := by decide +kernel
theorem dX0_write_65 : decode cX0_write 65 = .ok (.iconst 1, 1) := by decide +kernel
theorem dX0_write_66 : decode cX0_write 66 = .ok (.isub, 1) := by decide +kernel
theorem dX0_write_67 : decode cX0_write 67 = .ok (.ireturn, 1) := by decide +kernel
theorem dX0_becomeLike_0 : decode cX0_becomeLike 0 = .ok (.aload_n 1, 1) := by decide +kernel
theorem dX0_becomeLike_1 : decode cX0_becomeLike 1 = .ok (.getfield 9, 3) := by decide +kernel
theorem dX0_becomeLike_4 : decode cX0_becomeLike 4 = .ok (.iconst 0, 1) := by decide +kernel
theorem dX0_becomeLike_5 : decode cX0_becomeLike 5 = .ok (.aload_n 0, 1) := by decide +kernel
theorem dX0_becomeLike_6 : decode cX0_becomeLike 6 = .ok (.getfield 9, 3) := by decide +kernel
theorem dX0_becomeLike_9 : decode cX0_becomeLike 9 = .ok (.iconst 0, 1) := by decide +kernel
theorem dX0_becomeLike_10 : decode cX0_becomeLike 10 = .ok (.bipush 60, 2) := by decide +kernel
theorem dX0_becomeLike_12 : decode cX0_becomeLike 12 = .ok (.invokestatic 39, 3) := by decide +kernel
theorem dX0_becomeLike_15 : decode cX0_becomeLike 15 = .ok (.aload_n 1, 1) := by decide +kernel
theorem dX0_becomeLike_16 : decode cX0_becomeLike 16 = .ok (.getfield 15, 3) := by decide +kernel
theorem dX0_becomeLike_19 : decode cX0_becomeLike 19 = .ok (.iconst 0, 1) := by decide +kernel
theorem dX0_becomeLike_20 : decode cX0_becomeLike 20 = .ok (.aload_n 0, 1) := by decide +kernel
theorem dX0_becomeLike_21 : decode cX0_becomeLike 21 = .ok (.getfield 15, 3) := by decide +kernel
theorem dX0_becomeLike_24 : decode cX0_becomeLike 24 = .ok (.iconst 0, 1) := by decide +kernel
theorem dX0_becomeLike_25 : decode cX0_becomeLike 25 = .ok (.bipush 60, 2) := by decide +kernel
theorem dX0_becomeLike_27 : decode cX0_becomeLike 27 = .ok (.invokestatic 39, 3) := by decide +kernel
theorem dX0_becomeLike_30 : decode cX0_becomeLike 30 = .ok (.aload_n 1, 1) := by decide +kernel
theorem dX0_becomeLike_31 : decode cX0_becomeLike 31 = .ok (.getfield 18, 3) := by decide +kernel
theorem dX0_becomeLike_34 : decode cX0_becomeLike 34 = .ok (.iconst 0, 1) := by decide +kernel
theorem dX0_becomeLike_35 : decode cX0_becomeLike 35 = .ok (.aload_n 0, 1) := by decide +kernel
theorem dX0_becomeLike_36 : decode cX0_becomeLike 36 = .ok (.getfield 18, 3) := by decide +kernel
theorem dX0_becomeLike_39 : decode cX0_becomeLike 39 = .ok (.iconst 0, 1) := by decide +kernel
theorem dX0_becomeLike_40 : decode cX0_becomeLike 40 = .ok (.bipush 60, 2) := by decide +kernel
theorem dX0_becomeLike_42 : decode cX0_becomeLike 42 = .ok (.invokestatic 39, 3) := by decide +kernel
theorem dX0_becomeLike_45 : decode cX0_becomeLike 45 = .ok (.aload_n 0, 1) := by decide +kernel
theorem dX0_becomeLike_46 : decode cX0_becomeLike 46 = .ok (.aload_n 1, 1) := by decide +kernel
theorem dX0_becomeLike_47 : decode cX0_becomeLike 47 = .ok (.getfield 21, 3) := by decide +kernel
theorem dX0_becomeLike_50 : decode cX0_becomeLike 50 = .ok (.putfield 21, 3) := by decide +kernel
theorem dX0_becomeLike_53 : decode cX0_becomeLike 53 = .ok (.aload_n 0, 1) := by decide +kernel
theorem dX0_becomeLike_54 : decode cX0_becomeLike 54 = .ok (.aload_n 1, 1) := by decide +kernel
theorem dX0_becomeLike_55 : decode cX0_becomeLike 55 = .ok (.getfield 25, 3) := by decide +kernel
theorem dX0_becomeLike_58 : decode cX0_becomeLike 58 = .ok (.putfield 25, 3) := by decide +kernel
theorem dX0_becomeLike_61 : decode cX0_becomeLike 61 = .ok (.aload_n 0, 1) := by decide +kernel
theorem dX0_becomeLike_62 : decode cX0_becomeLike 62 = .ok (.aload_n 1, 1) := by decide +kernel
theorem dX0_becomeLike_63 : decode cX0_becomeLike 63 = .ok (.getfield 28, 3) := by decide +kernel
theorem dX0_becomeLike_66 : decode cX0_becomeLike 66 = .ok (.putfield 28, 3) := by decide +kernel
theorem dX0_becomeLike_69 : decode cX0_becomeLike 69 = .ok (.return_, 1) := by decide +kernel
theorem dX0_goOn_0 : decode cX0_goOn 0 = .ok (.aload_n 0, 1) := by decide +kernel
theorem dX0_goOn_1 : decode cX0_goOn 1 = .ok (.getfield 21, 3) := by decide +kernel
theorem dX0_goOn_4 : decode cX0_goOn 4 = .ok (.istore_n 3, 1) := by decide +kernel
theorem dX0_goOn_5 : decode cX0_goOn 5 = .ok (.sipush 399, 3) := by decide +kernel
theorem dX0_goOn_8 : decode cX0_goOn 8 = .ok (.aload_n 0, 1) := by decide +kernel
theorem dX0_goOn_9 : decode cX0_goOn 9 = .ok (.getfield 25, 3) := by decide +kernel
theorem dX0_goOn_12 : decode cX0_goOn 12 = .ok (.iload_n 1, 1) := by decide +kernel
theorem dX0_goOn_13 : decode cX0_goOn 13 = .ok (.iadd, 1) := by decide +kernel
theorem dX0_goOn_14 : decode cX0_goOn 14 = .ok (.invokestatic 45, 3) := by decide +kernel
theorem dX0_goOn_17 : decode cX0_goOn 17 = .ok (.istore 4, 2) := by decide +kernel
theorem dX0_goOn_19 : decode cX0_goOn 19 = .ok (.aload_n 0, 1) := by decide +kernel
theorem dX0_goOn_20 : decode cX0_goOn 20 = .ok (.getfield 25, 3) := by decide +kernel
theorem dX0_goOn_23 : decode cX0_goOn 23 = .ok (.iconst 1, 1) := by decide +kernel
theorem dX0_goOn_24 : decode cX0_goOn 24 = .ok (.iadd, 1) := by decide +kernel
theorem dX0_goOn_25 : decode cX0_goOn 25 = .ok (.istore 5, 2) := by decide +kernel
theorem dX0_goOn_27 : decode cX0_goOn 27 = .ok (.iload 5, 2) := by decide +kernel
theorem dX0_goOn_29 : decode cX0_goOn 29 = .ok (.iload 4, 2) := by decide +kernel
theorem dX0_goOn_31 : decode cX0_goOn 31 = .ok (.if_icmp .gt 29, 3) := by decide +kernel
theorem dX0_goOn_34 : decode cX0_goOn 34 = .ok (.aload_n 0, 1) := by decide +kernel
theorem dX0_goOn_35 : decode cX0_goOn 35 = .ok (.invokevirtual 35, 3) := by decide +kernel
theorem dX0_goOn_38 : decode cX0_goOn 38 = .ok (.ifCond .ne 22, 3) := by decide +kernel
theorem dX0_goOn_41 : decode cX0_goOn 41 = .ok (.aload_n 0, 1) := by decide +kernel
theorem dX0_goOn_42 : decode cX0_goOn 42 = .ok (.iload 5, 2) := by decide +kernel
theorem dX0_goOn_44 : decode cX0_goOn 44 = .ok (.putfield 25, 3) := by decide +kernel
theorem dX0_goOn_47 : decode cX0_goOn 47 = .ok (.aload_n 0, 1) := by decide +kernel
theorem dX0_goOn_48 : decode cX0_goOn 48 = .ok (.iload 5, 2) := by decide +kernel
theorem dX0_goOn_50 : decode cX0_goOn 50 = .ok (.aload_n 2, 1) := by decide +kernel
theorem dX0_goOn_51 : decode cX0_goOn 51 = .ok (.invokevirtual 51, 3) := by decide +kernel
theorem dX0_goOn_54 : decode cX0_goOn 54 = .ok (.iinc 5 1, 3) := by decide +kernel
theorem dX0_goOn_57 : decode cX0_goOn 57 = .ok (.goto (-30), 3) := by decide +kernel
theorem dX0_goOn_60 : decode cX0_goOn 60 = .ok (.aload_n 0, 1) := by decide +kernel
theorem dX0_goOn_61 : decode cX0_goOn 61 = .ok (.getfield 21, 3) := by decide +kernel
theorem dX0_goOn_64 : decode cX0_goOn 64 = .ok (.iload_n 3, 1) := by decide +kernel
theorem dX0_goOn_65 : decode cX0_goOn 65 = .ok (.isub, 1) := by decide +kernel
theorem dX0_goOn_66 : decode cX0_goOn 66 = .ok (.ireturn, 1) := by decide +kernel
theorem dX0_liveThrough_0 : decode cX0_liveThrough 0 = .ok (.aload_n 0, 1) := by decide +kernel
theorem dX0_liveThrough_1 : decode cX0_liveThrough 1 = .ok (.getfield 21, 3) := by decide +kernel
theorem dX0_liveThrough_4 : decode cX0_liveThrough 4 = .ok (.istore_n 3, 1) := by decide +kernel
theorem dX0_liveThrough_5 : decode cX0_liveThrough 5 = .ok (.aload_n 0, 1) := by decide +kernel
theorem dX0_liveThrough_6 : decode cX0_liveThrough 6 = .ok (.sipush 1000, 3) := by decide +kernel
theorem dX0_liveThrough_9 : decode cX0_liveThrough 9 = .ok (.invokevirtual 55, 3) := by decide +kernel
theorem dX0_liveThrough_12 : decode cX0_liveThrough 12 = .ok (.aload_n 2, 1) := by decide +kernel
theorem dX0_liveThrough_13 : decode cX0_liveThrough 13 = .ok (.iconst 0, 1) := by decide +kernel
theorem dX0_liveThrough_14 : decode cX0_liveThrough 14 = .ok (.invokevirtual 59, 3) := by decide +kernel
theorem dX0_liveThrough_17 : decode cX0_liveThrough 17 = .ok (.if_icmp .ge 15, 3) := by decide +kernel
theorem dX0_liveThrough_20 : decode cX0_liveThrough 20 = .ok (.aload_n 0, 1) := by decide +kernel
theorem dX0_liveThrough_21 : decode cX0_liveThrough 21 = .ok (.iload_n 1, 1) := by decide +kernel
theorem dX0_liveThrough_22 : decode cX0_liveThrough 22 = .ok (.aload_n 0, 1) := by decide +kernel
theorem dX0_liveThrough_23 : decode cX0_liveThrough 23 = .ok (.bipush 64, 2) := by decide +kernel
theorem dX0_liveThrough_25 : decode cX0_liveThrough 25 = .ok (.invokevirtual 55, 3) := by decide +kernel
theorem dX0_liveThrough_28 : decode cX0_liveThrough 28 = .ok (.aload_n 2, 1) := by decide +kernel
theorem dX0_liveThrough_29 : decode cX0_liveThrough 29 = .ok (.invokevirtual 64, 3) := by decide +kernel
theorem dX0_liveThrough_32 : decode cX0_liveThrough 32 = .ok (.iconst 0, 1) := by decide +kernel
theorem dX0_liveThrough_33 : decode cX0_liveThrough 33 = .ok (.istore 4, 2) := by decide +kernel
theorem dX0_liveThrough_35 : decode cX0_liveThrough 35 = .ok (.iload 4, 2) := by decide +kernel
theorem dX0_liveThrough_37 : decode cX0_liveThrough 37 = .ok (.iload_n 3, 1) := by decide +kernel
theorem dX0_liveThrough_38 : decode cX0_liveThrough 38 = .ok (.if_icmp .ge 86, 3) := by decide +kernel
theorem dX0_liveThrough_41 : decode cX0_liveThrough 41 = .ok (.aload_n 0, 1) := by decide +kernel
theorem dX0_liveThrough_42 : decode cX0_liveThrough 42 = .ok (.invokevirtual 35, 3) := by decide +kernel
theorem dX0_liveThrough_45 : decode cX0_liveThrough 45 = .ok (.ifCond .ne 79, 3) := by decide +kernel
theorem dX0_liveThrough_48 : decode cX0_liveThrough 48 = .ok (.iload_n 1, 1) := by decide +kernel
theorem dX0_liveThrough_49 : decode cX0_liveThrough 49 = .ok (.aload_n 0, 1) := by decide +kernel
theorem dX0_liveThrough_50 : decode cX0_liveThrough 50 = .ok (.iload 4, 2) := by decide +kernel
theorem dX0_liveThrough_52 : decode cX0_liveThrough 52 = .ok (.invokevirtual 68, 3) := by decide +kernel
theorem dX0_liveThrough_55 : decode cX0_liveThrough 55 = .ok (.isub, 1) := by decide +kernel
theorem dX0_liveThrough_56 : decode cX0_liveThrough 56 = .ok (.istore 5, 2) := by decide +kernel
theorem dX0_liveThrough_58 : decode cX0_liveThrough 58 = .ok (.iload 5, 2) := by decide +kernel
theorem dX0_liveThrough_60 : decode cX0_liveThrough 60 = .ok (.iconst 1, 1) := by decide +kernel
theorem dX0_liveThrough_61 : decode cX0_liveThrough 61 = .ok (.aload_n 2, 1) := by decide +kernel
theorem dX0_liveThrough_62 : decode cX0_liveThrough 62 = .ok (.iconst 3, 1) := by decide +kernel
theorem dX0_liveThrough_63 : decode cX0_liveThrough 63 = .ok (.invokevirtual 59, 3) := by decide +kernel
theorem dX0_liveThrough_66 : decode cX0_liveThrough 66 = .ok (.invokestatic 71, 3) := by decide +kernel
theorem dX0_liveThrough_69 : decode cX0_liveThrough 69 = .ok (.ifCond .eq 49, 3) := by decide +kernel
theorem dX0_liveThrough_72 : decode cX0_liveThrough 72 = .ok (.aload_n 0, 1) := by decide +kernel
theorem dX0_liveThrough_73 : decode cX0_liveThrough 73 = .ok (.sipush 1000, 3) := by decide +kernel
theorem dX0_liveThrough_76 : decode cX0_liveThrough 76 = .ok (.invokevirtual 55, 3) := by decide +kernel
theorem dX0_liveThrough_79 : decode cX0_liveThrough 79 = .ok (.aload_n 2, 1) := by decide +kernel
theorem dX0_liveThrough_80 : decode cX0_liveThrough 80 = .ok (.iconst 2, 1) := by decide +kernel
theorem dX0_liveThrough_81 : decode cX0_liveThrough 81 = .ok (.invokevirtual 59, 3) := by decide +kernel
theorem dX0_liveThrough_84 : decode cX0_liveThrough 84 = .ok (.aload_n 0, 1) := by decide +kernel
theorem dX0_liveThrough_85 : decode cX0_liveThrough 85 = .ok (.iload 4, 2) := by decide +kernel
theorem dX0_liveThrough_87 : decode cX0_liveThrough 87 = .ok (.invokevirtual 75, 3) := by decide +kernel
theorem dX0_liveThrough_90 : decode cX0_liveThrough 90 = .ok (.imul, 1) := by decide +kernel
theorem dX0_liveThrough_91 : decode cX0_liveThrough 91 = .ok (.iload 5, 2) := by decide +kernel
theorem dX0_liveThrough_93 : decode cX0_liveThrough 93 = .ok (.idiv, 1) := by decide +kernel
theorem dX0_liveThrough_94 : decode cX0_liveThrough 94 = .ok (.if_icmp .ge 24, 3) := by decide +kernel
theorem dX0_liveThrough_97 : decode cX0_liveThrough 97 = .ok (.aload_n 0, 1) := by decide +kernel
theorem dX0_liveThrough_98 : decode cX0_liveThrough 98 = .ok (.iload_n 1, 1) := by decide +kernel
theorem dX0_liveThrough_99 : decode cX0_liveThrough 99 = .ok (.aload_n 0, 1) := by decide +kernel
theorem dX0_liveThrough_100 : decode cX0_liveThrough 100 = .ok (.aload_n 0, 1) := by decide +kernel
theorem dX0_liveThrough_101 : decode cX0_liveThrough 101 = .ok (.iload 4, 2) := by decide +kernel
theorem dX0_liveThrough_103 : decode cX0_liveThrough 103 = .ok (.invokevirtual 78, 3) := by decide +kernel
theorem dX0_liveThrough_106 : decode cX0_liveThrough 106 = .ok (.aload_n 2, 1) := by decide +kernel
theorem dX0_liveThrough_107 : decode cX0_liveThrough 107 = .ok (.iconst 4, 1) := by decide +kernel
theorem dX0_liveThrough_108 : decode cX0_liveThrough 108 = .ok (.invokevirtual 59, 3) := by decide +kernel
theorem dX0_liveThrough_111 : decode cX0_liveThrough 111 = .ok (.invokevirtual 81, 3) := by decide +kernel
theorem dX0_liveThrough_114 : decode cX0_liveThrough 114 = .ok (.aload_n 2, 1) := by decide +kernel
theorem dX0_liveThrough_115 : decode cX0_liveThrough 115 = .ok (.invokevirtual 64, 3) := by decide +kernel
theorem dX0_liveThrough_118 : decode cX0_liveThrough 118 = .ok (.iinc 4 1, 3) := by decide +kernel
theorem dX0_liveThrough_121 : decode cX0_liveThrough 121 = .ok (.goto (-86), 3) := by decide +kernel
theorem dX0_liveThrough_124 : decode cX0_liveThrough 124 = .ok (.return_, 1) := by decide +kernel
theorem dX0_drawNear_0 : decode cX0_drawNear 0 = .ok (.iload_n 1, 1) := by decide +kernel
theorem dX0_drawNear_1 : decode cX0_drawNear 1 = .ok (.iload_n 2, 1) := by decide +kernel
theorem dX0_drawNear_2 : decode cX0_drawNear 2 = .ok (.aload_n 0, 1) := by decide +kernel
theorem dX0_drawNear_3 : decode cX0_drawNear 3 = .ok (.iload_n 1, 1) := by decide +kernel
theorem dX0_drawNear_4 : decode cX0_drawNear 4 = .ok (.iload_n 2, 1) := by decide +kernel
theorem dX0_drawNear_5 : decode cX0_drawNear 5 = .ok (.invokestatic 84, 3) := by decide +kernel
theorem dX0_drawNear_8 : decode cX0_drawNear 8 = .ok (.invokevirtual 55, 3) := by decide +kernel
theorem dX0_drawNear_11 : decode cX0_drawNear 11 = .ok (.invokestatic 87, 3) := by decide +kernel
theorem dX0_drawNear_14 : decode cX0_drawNear 14 = .ok (.ireturn, 1) := by decide +kernel
theorem dX0_come_0 : decode cX0_come 0 = .ok (.iconst 1, 1) := by decide +kernel
theorem dX0_come_1 : decode cX0_come 1 = .ok (.istore 4, 2) := by decide +kernel
theorem dX0_come_3 : decode cX0_come 3 = .ok (.iload 4, 2) := by decide +kernel
theorem dX0_come_5 : decode cX0_come 5 = .ok (.bipush 9, 2) := by decide +kernel
theorem dX0_come_7 : decode cX0_come 7 = .ok (.if_icmp .ge 23, 3) := by decide +kernel
theorem dX0_come_10 : decode cX0_come 10 = .ok (.aload_n 0, 1) := by decide +kernel
theorem dX0_come_11 : decode cX0_come 11 = .ok (.bipush 100, 2) := by decide +kernel
theorem dX0_come_13 : decode cX0_come 13 = .ok (.invokevirtual 55, 3) := by decide +kernel
theorem dX0_come_16 : decode cX0_come 16 = .ok (.aload_n 3, 1) := by decide +kernel
theorem dX0_come_17 : decode cX0_come 17 = .ok (.iconst 1, 1) := by decide +kernel
theorem dX0_come_18 : decode cX0_come 18 = .ok (.invokevirtual 59, 3) := by decide +kernel
theorem dX0_come_21 : decode cX0_come 21 = .ok (.if_icmp .ge 9, 3) := by decide +kernel
theorem dX0_come_24 : decode cX0_come 24 = .ok (.iinc 4 1, 3) := by decide +kernel
theorem dX0_come_27 : decode cX0_come 27 = .ok (.goto (-24), 3) := by decide +kernel
theorem dX0_come_30 : decode cX0_come 30 = .ok (.aload_n 0, 1) := by decide +kernel
theorem dX0_come_31 : decode cX0_come 31 = .ok (.iload_n 1, 1) := by decide +kernel
theorem dX0_come_32 : decode cX0_come 32 = .ok (.iload_n 2, 1) := by decide +kernel
theorem dX0_come_33 : decode cX0_come 33 = .ok (.iload 4, 2) := by decide +kernel
theorem dX0_come_35 : decode cX0_come 35 = .ok (.invokevirtual 91, 3) := by decide +kernel
theorem dX0_come_38 : decode cX0_come 38 = .ok (.pop, 1) := by decide +kernel
theorem dX0_come_39 : decode cX0_come 39 = .ok (.return_, 1) := by decide +kernel
theorem dX0_draw_0 : decode cX0_draw 0 = .ok (.aload_n 0, 1) := by decide +kernel
theorem dX0_draw_1 : decode cX0_draw 1 = .ok (.aload_n 0, 1) := by decide +kernel
theorem dX0_draw_2 : decode cX0_draw 2 = .ok (.getfield 28, 3) := by decide +kernel
theorem dX0_draw_5 : decode cX0_draw 5 = .ok (.i2l, 1) := by decide +kernel
theorem dX0_draw_6 : decode cX0_draw 6 = .ok (.ldc2_w 94, 3) := by decide +kernel
theorem dX0_draw_9 : decode cX0_draw 9 = .ok (.lmul, 1) := by decide +kernel
theorem dX0_draw_10 : decode cX0_draw 10 = .ok (.ldc2_w 96, 3) := by decide +kernel
theorem dX0_draw_13 : decode cX0_draw 13 = .ok (.ladd, 1) := by decide +kernel
theorem dX0_draw_14 : decode cX0_draw 14 = .ok (.ldc2_w 98, 3) := by decide +kernel
theorem dX0_draw_17 : decode cX0_draw 17 = .ok (.land, 1) := by decide +kernel
theorem dX0_draw_18 : decode cX0_draw 18 = .ok (.l2i, 1) := by decide +kernel
theorem dX0_draw_19 : decode cX0_draw 19 = .ok (.putfield 28, 3) := by decide +kernel
theorem dX0_draw_22 : decode cX0_draw 22 = .ok (.iload_n 1, 1) := by decide +kernel
theorem dX0_draw_23 : decode cX0_draw 23 = .ok (.iconst 1, 1) := by decide +kernel
theorem dX0_draw_24 : decode cX0_draw 24 = .ok (.if_icmp .ge 7, 3) := by decide +kernel
theorem dX0_draw_27 : decode cX0_draw 27 = .ok (.iconst 0, 1) := by decide +kernel
theorem dX0_draw_28 : decode cX0_draw 28 = .ok (.goto 12, 3) := by decide +kernel
theorem dX0_draw_31 : decode cX0_draw 31 = .ok (.aload_n 0, 1) := by decide +kernel
theorem dX0_draw_32 : decode cX0_draw 32 = .ok (.getfield 28, 3) := by decide +kernel
theorem dX0_draw_35 : decode cX0_draw 35 = .ok (.ldc 100, 2) := by decide +kernel
theorem dX0_draw_37 : decode cX0_draw 37 = .ok (.idiv, 1) := by decide +kernel
theorem dX0_draw_38 : decode cX0_draw 38 = .ok (.iload_n 1, 1) := by decide +kernel
theorem dX0_draw_39 : decode cX0_draw 39 = .ok (.irem, 1) := by decide +kernel
theorem dX0_draw_40 : decode cX0_draw 40 = .ok (.ireturn, 1) := by decide +kernel
theorem dX0_isSuch_0 : decode cX0_isSuch 0 = .ok (.aload_n 0, 1) := by decide +kernel
theorem dX0_isSuch_1 : decode cX0_isSuch 1 = .ok (.iload_n 1, 1) := by decide +kernel
theorem dX0_isSuch_2 : decode cX0_isSuch 2 = .ok (.invokevirtual 31, 3) := by decide +kernel
theorem dX0_isSuch_5 : decode cX0_isSuch 5 = .ok (.ifCond .eq 32, 3) := by decide +kernel
theorem dX0_isSuch_8 : decode cX0_isSuch 8 = .ok (.aload_n 0, 1) := by decide +kernel
theorem dX0_isSuch_9 : decode cX0_isSuch 9 = .ok (.getfield 18, 3) := by decide +kernel
theorem dX0_isSuch_12 : decode cX0_isSuch 12 = .ok (.iload_n 1, 1) := by decide +kernel
theorem dX0_isSuch_13 : decode cX0_isSuch 13 = .ok (.iaload, 1) := by decide +kernel
theorem dX0_isSuch_14 : decode cX0_isSuch 14 = .ok (.iload 4, 2) := by decide +kernel
theorem dX0_isSuch_16 : decode cX0_isSuch 16 = .ok (.if_icmp .lt 21, 3) := by decide +kernel
theorem dX0_isSuch_19 : decode cX0_isSuch 19 = .ok (.aload_n 0, 1) := by decide +kernel
theorem dX0_isSuch_20 : decode cX0_isSuch 20 = .ok (.getfield 15, 3) := by decide +kernel
theorem dX0_isSuch_23 : decode cX0_isSuch 23 = .ok (.iload_n 1, 1) := by decide +kernel
theorem dX0_isSuch_24 : decode cX0_isSuch 24 = .ok (.iaload, 1) := by decide +kernel
theorem dX0_isSuch_25 : decode cX0_isSuch 25 = .ok (.iload_n 2, 1) := by decide +kernel
theorem dX0_isSuch_26 : decode cX0_isSuch 26 = .ok (.invokestatic 101, 3) := by decide +kernel
theorem dX0_isSuch_29 : decode cX0_isSuch 29 = .ok (.iload_n 3, 1) := by decide +kernel
theorem dX0_isSuch_30 : decode cX0_isSuch 30 = .ok (.if_icmp .gt 7, 3) := by decide +kernel
theorem dX0_isSuch_33 : decode cX0_isSuch 33 = .ok (.iconst 1, 1) := by decide +kernel
theorem dX0_isSuch_34 : decode cX0_isSuch 34 = .ok (.goto 4, 3) := by decide +kernel
theorem dX0_isSuch_37 : decode cX0_isSuch 37 = .ok (.iconst 0, 1) := by decide +kernel
theorem dX0_isSuch_38 : decode cX0_isSuch 38 = .ok (.ireturn, 1) := by decide +kernel
theorem dX0_firstSuch_0 : decode cX0_firstSuch 0 = .ok (.iconst 0, 1) := by decide +kernel
theorem dX0_firstSuch_1 : decode cX0_firstSuch 1 = .ok (.istore 6, 2) := by decide +kernel
theorem dX0_firstSuch_3 : decode cX0_firstSuch 3 = .ok (.iload 6, 2) := by decide +kernel
theorem dX0_firstSuch_5 : decode cX0_firstSuch 5 = .ok (.aload_n 0, 1) := by decide +kernel
theorem dX0_firstSuch_6 : decode cX0_firstSuch 6 = .ok (.getfield 21, 3) := by decide +kernel
theorem dX0_firstSuch_9 : decode cX0_firstSuch 9 = .ok (.if_icmp .ge 40, 3) := by decide +kernel
theorem dX0_firstSuch_12 : decode cX0_firstSuch 12 = .ok (.aload_n 0, 1) := by decide +kernel
theorem dX0_firstSuch_13 : decode cX0_firstSuch 13 = .ok (.iload 6, 2) := by decide +kernel
theorem dX0_firstSuch_15 : decode cX0_firstSuch 15 = .ok (.invokevirtual 68, 3) := by decide +kernel
theorem dX0_firstSuch_18 : decode cX0_firstSuch 18 = .ok (.iload 4, 2) := by decide +kernel
theorem dX0_firstSuch_20 : decode cX0_firstSuch 20 = .ok (.iload 5, 2) := by decide +kernel
theorem dX0_firstSuch_22 : decode cX0_firstSuch 22 = .ok (.invokestatic 71, 3) := by decide +kernel
theorem dX0_firstSuch_25 : decode cX0_firstSuch 25 = .ok (.ifCond .eq 18, 3) := by decide +kernel
theorem dX0_firstSuch_28 : decode cX0_firstSuch 28 = .ok (.aload_n 0, 1) := by decide +kernel
theorem dX0_firstSuch_29 : decode cX0_firstSuch 29 = .ok (.iload 6, 2) := by decide +kernel
theorem dX0_firstSuch_31 : decode cX0_firstSuch 31 = .ok (.iload_n 1, 1) := by decide +kernel
theorem dX0_firstSuch_32 : decode cX0_firstSuch 32 = .ok (.iload_n 2, 1) := by decide +kernel
theorem dX0_firstSuch_33 : decode cX0_firstSuch 33 = .ok (.iload_n 3, 1) := by decide +kernel
theorem dX0_firstSuch_34 : decode cX0_firstSuch 34 = .ok (.invokevirtual 104, 3) := by decide +kernel
theorem dX0_firstSuch_37 : decode cX0_firstSuch 37 = .ok (.ifCond .eq 6, 3) := by decide +kernel
theorem dX0_firstSuch_40 : decode cX0_firstSuch 40 = .ok (.iload 6, 2) := by decide +kernel
theorem dX0_firstSuch_42 : decode cX0_firstSuch 42 = .ok (.ireturn, 1) := by decide +kernel
theorem dX0_firstSuch_43 : decode cX0_firstSuch 43 = .ok (.iinc 6 1, 3) := by decide +kernel
theorem dX0_firstSuch_46 : decode cX0_firstSuch 46 = .ok (.goto (-43), 3) := by decide +kernel
theorem dX0_firstSuch_49 : decode cX0_firstSuch 49 = .ok (.iconst (-1), 1) := by decide +kernel
theorem dX0_firstSuch_50 : decode cX0_firstSuch 50 = .ok (.ireturn, 1) := by decide +kernel
theorem dX0_howManySuch_0 : decode cX0_howManySuch 0 = .ok (.iconst 0, 1) := by decide +kernel
theorem dX0_howManySuch_1 : decode cX0_howManySuch 1 = .ok (.istore 5, 2) := by decide +kernel
theorem dX0_howManySuch_3 : decode cX0_howManySuch 3 = .ok (.iconst 0, 1) := by decide +kernel
theorem dX0_howManySuch_4 : decode cX0_howManySuch 4 = .ok (.istore 6, 2) := by decide +kernel
theorem dX0_howManySuch_6 : decode cX0_howManySuch 6 = .ok (.iload 6, 2) := by decide +kernel
theorem dX0_howManySuch_8 : decode cX0_howManySuch 8 = .ok (.aload_n 0, 1) := by decide +kernel
theorem dX0_howManySuch_9 : decode cX0_howManySuch 9 = .ok (.getfield 21, 3) := by decide +kernel
theorem dX0_howManySuch_12 : decode cX0_howManySuch 12 = .ok (.if_icmp .ge 35, 3) := by decide +kernel
theorem dX0_howManySuch_15 : decode cX0_howManySuch 15 = .ok (.aload_n 0, 1) := by decide +kernel
theorem dX0_howManySuch_16 : decode cX0_howManySuch 16 = .ok (.iload 6, 2) := by decide +kernel
theorem dX0_howManySuch_18 : decode cX0_howManySuch 18 = .ok (.invokevirtual 68, 3) := by decide +kernel
theorem dX0_howManySuch_21 : decode cX0_howManySuch 21 = .ok (.iload 4, 2) := by decide +kernel
theorem dX0_howManySuch_23 : decode cX0_howManySuch 23 = .ok (.if_icmp .ne 18, 3) := by decide +kernel
theorem dX0_howManySuch_26 : decode cX0_howManySuch 26 = .ok (.aload_n 0, 1) := by decide +kernel
theorem dX0_howManySuch_27 : decode cX0_howManySuch 27 = .ok (.iload 6, 2) := by decide +kernel
theorem dX0_howManySuch_29 : decode cX0_howManySuch 29 = .ok (.iload_n 1, 1) := by decide +kernel
theorem dX0_howManySuch_30 : decode cX0_howManySuch 30 = .ok (.iload_n 2, 1) := by decide +kernel
theorem dX0_howManySuch_31 : decode cX0_howManySuch 31 = .ok (.iload_n 3, 1) := by decide +kernel
theorem dX0_howManySuch_32 : decode cX0_howManySuch 32 = .ok (.invokevirtual 104, 3) := by decide +kernel
theorem dX0_howManySuch_35 : decode cX0_howManySuch 35 = .ok (.ifCond .eq 6, 3) := by decide +kernel
theorem dX0_howManySuch_38 : decode cX0_howManySuch 38 = .ok (.iinc 5 1, 3) := by decide +kernel
theorem dX0_howManySuch_41 : decode cX0_howManySuch 41 = .ok (.iinc 6 1, 3) := by decide +kernel
theorem dX0_howManySuch_44 : decode cX0_howManySuch 44 = .ok (.goto (-38), 3) := by decide +kernel
theorem dX0_howManySuch_47 : decode cX0_howManySuch 47 = .ok (.iload 5, 2) := by decide +kernel
theorem dX0_howManySuch_49 : decode cX0_howManySuch 49 = .ok (.ireturn, 1) := by decide +kernel
theorem dX1_init_0 : decode cX1_init 0 = .ok (.aload_n 0, 1) := by decide +kernel
theorem dX1_init_1 : decode cX1_init 1 = .ok (.invokespecial 3, 3) := by decide +kernel
theorem dX1_init_4 : decode cX1_init 4 = .ok (.aload_n 0, 1) := by decide +kernel
theorem dX1_init_5 : decode cX1_init 5 = .ok (.bipush 12, 2) := by decide +kernel
theorem dX1_init_7 : decode cX1_init 7 = .ok (.newarray .int, 2) := by decide +kernel
theorem dX1_init_9 : decode cX1_init 9 = .ok (.putfield 9, 3) := by decide +kernel
theorem dX1_init_12 : decode cX1_init 12 = .ok (.aload_n 0, 1) := by decide +kernel
theorem dX1_init_13 : decode cX1_init 13 = .ok (.bipush 12, 2) := by decide +kernel
theorem dX1_init_15 : decode cX1_init 15 = .ok (.newarray .int, 2) := by decide +kernel
theorem dX1_init_17 : decode cX1_init 17 = .ok (.putfield 15, 3) := by decide +kernel
theorem dX1_init_20 : decode cX1_init 20 = .ok (.aload_n 0, 1) := by decide +kernel
theorem dX1_init_21 : decode cX1_init 21 = .ok (.bipush 12, 2) := by decide +kernel
theorem dX1_init_23 : decode cX1_init 23 = .ok (.newarray .int, 2) := by decide +kernel
theorem dX1_init_25 : decode cX1_init 25 = .ok (.putfield 18, 3) := by decide +kernel
theorem dX1_init_28 : decode cX1_init 28 = .ok (.aload_n 0, 1) := by decide +kernel
theorem dX1_init_29 : decode cX1_init 29 = .ok (.bipush 12, 2) := by decide +kernel
theorem dX1_init_31 : decode cX1_init 31 = .ok (.newarray .int, 2) := by decide +kernel
theorem dX1_init_33 : decode cX1_init 33 = .ok (.putfield 21, 3) := by decide +kernel
theorem dX1_init_36 : decode cX1_init 36 = .ok (.aload_n 0, 1) := by decide +kernel
theorem dX1_init_37 : decode cX1_init 37 = .ok (.bipush 12, 2) := by decide +kernel
theorem dX1_init_39 : decode cX1_init 39 = .ok (.newarray .int, 2) := by decide +kernel
theorem dX1_init_41 : decode cX1_init 41 = .ok (.putfield 24, 3) := by decide +kernel
theorem dX1_init_44 : decode cX1_init 44 = .ok (.aload_n 0, 1) := by decide +kernel
theorem dX1_init_45 : decode cX1_init 45 = .ok (.bipush 12, 2) := by decide +kernel
theorem dX1_init_47 : decode cX1_init 47 = .ok (.newarray .int, 2) := by decide +kernel
theorem dX1_init_49 : decode cX1_init 49 = .ok (.putfield 27, 3) := by decide +kernel
theorem dX1_init_52 : decode cX1_init 52 = .ok (.aload_n 0, 1) := by decide +kernel
theorem dX1_init_53 : decode cX1_init 53 = .ok (.bipush 12, 2) := by decide +kernel
theorem dX1_init_55 : decode cX1_init 55 = .ok (.newarray .int, 2) := by decide +kernel
theorem dX1_init_57 : decode cX1_init 57 = .ok (.putfield 30, 3) := by decide +kernel
theorem dX1_init_60 : decode cX1_init 60 = .ok (.aload_n 0, 1) := by decide +kernel
theorem dX1_init_61 : decode cX1_init 61 = .ok (.iconst 0, 1) := by decide +kernel
theorem dX1_init_62 : decode cX1_init 62 = .ok (.putfield 33, 3) := by decide +kernel
theorem dX1_init_65 : decode cX1_init 65 = .ok (.aload_n 0, 1) := by decide +kernel
theorem dX1_init_66 : decode cX1_init 66 = .ok (.aload_n 1, 1) := by decide +kernel
theorem dX1_init_67 : decode cX1_init 67 = .ok (.putfield 37, 3) := by decide +kernel
theorem dX1_init_70 : decode cX1_init 70 = .ok (.aload_n 0, 1) := by decide +kernel
theorem dX1_init_71 : decode cX1_init 71 = .ok (.aload_n 2, 1) := by decide +kernel
theorem dX1_init_72 : decode cX1_init 72 = .ok (.putfield 41, 3) := by decide +kernel
theorem dX1_init_75 : decode cX1_init 75 = .ok (.return_, 1) := by decide +kernel
theorem dX1_size_0 : decode cX1_size 0 = .ok (.aload_n 0, 1) := by decide +kernel
theorem dX1_size_1 : decode cX1_size 1 = .ok (.getfield 33, 3) := by decide +kernel
theorem dX1_size_4 : decode cX1_size 4 = .ok (.ireturn, 1) := by decide +kernel
theorem dX1_isFull_0 : decode cX1_isFull 0 = .ok (.aload_n 0, 1) := by decide +kernel
theorem dX1_isFull_1 : decode cX1_isFull 1 = .ok (.getfield 33, 3) := by decide +kernel
theorem dX1_isFull_4 : decode cX1_isFull 4 = .ok (.bipush 12, 2) := by decide +kernel
theorem dX1_isFull_6 : decode cX1_isFull 6 = .ok (.if_icmp .lt 7, 3) := by decide +kernel
theorem dX1_isFull_9 : decode cX1_isFull 9 = .ok (.iconst 1, 1) := by decide +kernel
theorem dX1_isFull_10 : decode cX1_isFull 10 = .ok (.goto 4, 3) := by decide +kernel
theorem dX1_isFull_13 : decode cX1_isFull 13 = .ok (.iconst 0, 1) := by decide +kernel
theorem dX1_isFull_14 : decode cX1_isFull 14 = .ok (.ireturn, 1) := by decide +kernel
theorem dX1_has_0 : decode cX1_has 0 = .ok (.iload_n 1, 1) := by decide +kernel
theorem dX1_has_1 : decode cX1_has 1 = .ok (.ifCond .lt 21, 3) := by decide +kernel
theorem dX1_has_4 : decode cX1_has 4 = .ok (.iload_n 1, 1) := by decide +kernel
theorem dX1_has_5 : decode cX1_has 5 = .ok (.aload_n 0, 1) := by decide +kernel
theorem dX1_has_6 : decode cX1_has 6 = .ok (.getfield 33, 3) := by decide +kernel
theorem dX1_has_9 : decode cX1_has 9 = .ok (.if_icmp .ge 13, 3) := by decide +kernel
theorem dX1_has_12 : decode cX1_has 12 = .ok (.iload_n 1, 1) := by decide +kernel
theorem dX1_has_13 : decode cX1_has 13 = .ok (.bipush 12, 2) := by decide +kernel
theorem dX1_has_15 : decode cX1_has 15 = .ok (.if_icmp .ge 7, 3) := by decide +kernel
theorem dX1_has_18 : decode cX1_has 18 = .ok (.iconst 1, 1) := by decide +kernel
theorem dX1_has_19 : decode cX1_has 19 = .ok (.goto 4, 3) := by decide +kernel
theorem dX1_has_22 : decode cX1_has 22 = .ok (.iconst 0, 1) := by decide +kernel
theorem dX1_has_23 : decode cX1_has 23 = .ok (.ireturn, 1) := by decide +kernel
theorem dX1_write_0 : decode cX1_write 0 = .ok (.aload_n 0, 1) := by decide +kernel
theorem dX1_write_1 : decode cX1_write 1 = .ok (.getfield 33, 3) := by decide +kernel
theorem dX1_write_4 : decode cX1_write 4 = .ok (.ifCond .lt 10, 3) := by decide +kernel
theorem dX1_write_7 : decode cX1_write 7 = .ok (.aload_n 0, 1) := by decide +kernel
theorem dX1_write_8 : decode cX1_write 8 = .ok (.invokevirtual 45, 3) := by decide +kernel
theorem dX1_write_11 : decode cX1_write 11 = .ok (.ifCond .eq 5, 3) := by decide +kernel
theorem dX1_write_14 : decode cX1_write 14 = .ok (.iconst (-1), 1) := by decide +kernel
theorem dX1_write_15 : decode cX1_write 15 = .ok (.ireturn, 1) := by decide +kernel
theorem dX1_write_16 : decode cX1_write 16 = .ok (.aload_n 0, 1) := by decide +kernel
theorem dX1_write_17 : decode cX1_write 17 = .ok (.getfield 9, 3) := by decide +kernel
theorem dX1_write_20 : decode cX1_write 20 = .ok (.aload_n 0, 1) := by decide +kernel
theorem dX1_write_21 : decode cX1_write 21 = .ok (.getfield 33, 3) := by decide +kernel
theorem dX1_write_24 : decode cX1_write 24 = .ok (.iload_n 1, 1) := by decide +kernel
theorem dX1_write_25 : decode cX1_write 25 = .ok (.iastore, 1) := by decide +kernel
theorem dX1_write_26 : decode cX1_write 26 = .ok (.aload_n 0, 1) := by decide +kernel
theorem dX1_write_27 : decode cX1_write 27 = .ok (.getfield 15, 3) := by decide +kernel
theorem dX1_write_30 : decode cX1_write 30 = .ok (.aload_n 0, 1) := by decide +kernel
theorem dX1_write_31 : decode cX1_write 31 = .ok (.getfield 33, 3) := by decide +kernel
theorem dX1_write_34 : decode cX1_write 34 = .ok (.iload_n 2, 1) := by decide +kernel
theorem dX1_write_35 : decode cX1_write 35 = .ok (.iastore, 1) := by decide +kernel
theorem dX1_write_36 : decode cX1_write 36 = .ok (.aload_n 0, 1) := by decide +kernel
theorem dX1_write_37 : decode cX1_write 37 = .ok (.getfield 18, 3) := by decide +kernel
theorem dX1_write_40 : decode cX1_write 40 = .ok (.aload_n 0, 1) := by decide +kernel
theorem dX1_write_41 : decode cX1_write 41 = .ok (.getfield 33, 3) := by decide +kernel
theorem dX1_write_44 : decode cX1_write 44 = .ok (.iload_n 3, 1) := by decide +kernel
theorem dX1_write_45 : decode cX1_write 45 = .ok (.iastore, 1) := by decide +kernel
theorem dX1_write_46 : decode cX1_write 46 = .ok (.aload_n 0, 1) := by decide +kernel
theorem dX1_write_47 : decode cX1_write 47 = .ok (.getfield 21, 3) := by decide +kernel
theorem dX1_write_50 : decode cX1_write 50 = .ok (.aload_n 0, 1) := by decide +kernel
theorem dX1_write_51 : decode cX1_write 51 = .ok (.getfield 33, 3) := by decide +kernel
theorem dX1_write_54 : decode cX1_write 54 = .ok (.iload 4, 2) := by decide +kernel
theorem dX1_write_56 : decode cX1_write 56 = .ok (.iastore, 1) := by decide +kernel
theorem dX1_write_57 : decode cX1_write 57 = .ok (.aload_n 0, 1) := by decide +kernel
theorem dX1_write_58 : decode cX1_write 58 = .ok (.getfield 24, 3) := by decide +kernel
theorem dX1_write_61 : decode cX1_write 61 = .ok (.aload_n 0, 1) := by decide +kernel
theorem dX1_write_62 : decode cX1_write 62 = .ok (.getfield 33, 3) := by decide +kernel
theorem dX1_write_65 : decode cX1_write 65 = .ok (.iload 5, 2) := by decide +kernel
theorem dX1_write_67 : decode cX1_write 67 = .ok (.iastore, 1) := by decide +kernel
theorem dX1_write_68 : decode cX1_write 68 = .ok (.aload_n 0, 1) := by decide +kernel
theorem dX1_write_69 : decode cX1_write 69 = .ok (.getfield 27, 3) := by decide +kernel
theorem dX1_write_72 : decode cX1_write 72 = .ok (.aload_n 0, 1) := by decide +kernel
theorem dX1_write_73 : decode cX1_write 73 = .ok (.getfield 33, 3) := by decide +kernel
theorem dX1_write_76 : decode cX1_write 76 = .ok (.iload 6, 2) := by decide +kernel
theorem dX1_write_78 : decode cX1_write 78 = .ok (.iastore, 1) := by decide +kernel
theorem dX1_write_79 : decode cX1_write 79 = .ok (.aload_n 0, 1) := by decide +kernel
theorem dX1_write_80 : decode cX1_write 80 = .ok (.getfield 30, 3) := by decide +kernel
theorem dX1_write_83 : decode cX1_write 83 = .ok (.aload_n 0, 1) := by decide +kernel
theorem dX1_write_84 : decode cX1_write 84 = .ok (.getfield 33, 3) := by decide +kernel
theorem dX1_write_87 : decode cX1_write 87 = .ok (.iload 7, 2) := by decide +kernel
theorem dX1_write_89 : decode cX1_write 89 = .ok (.iastore, 1) := by decide +kernel
theorem dX1_write_90 : decode cX1_write 90 = .ok (.aload_n 0, 1) := by decide +kernel
theorem dX1_write_91 : decode cX1_write 91 = .ok (.dup, 1) := by decide +kernel
theorem dX1_write_92 : decode cX1_write 92 = .ok (.getfield 33, 3) := by decide +kernel
theorem dX1_write_95 : decode cX1_write 95 = .ok (.iconst 1, 1) := by decide +kernel
theorem dX1_write_96 : decode cX1_write 96 = .ok (.iadd, 1) := by decide +kernel
theorem dX1_write_97 : decode cX1_write 97 = .ok (.putfield 33, 3) := by decide +kernel
theorem dX1_write_100 : decode cX1_write 100 = .ok (.aload_n 0, 1) := by decide +kernel
theorem dX1_write_101 : decode cX1_write 101 = .ok (.getfield 33, 3) := by decide +kernel
theorem dX1_write_104 : decode cX1_write 104 = .ok (.iconst 1, 1) := by decide +kernel
theorem dX1_write_105 : decode cX1_write 105 = .ok (.isub, 1) := by decide +kernel
theorem dX1_write_106 : decode cX1_write 106 = .ok (.ireturn, 1) := by decide +kernel
theorem dX1_hitBy_0 : decode cX1_hitBy 0 = .ok (.aload_n 0, 1) := by decide +kernel
theorem dX1_hitBy_1 : decode cX1_hitBy 1 = .ok (.iload_n 1, 1) := by decide +kernel
theorem dX1_hitBy_2 : decode cX1_hitBy 2 = .ok (.invokevirtual 49, 3) := by decide +kernel
theorem dX1_hitBy_5 : decode cX1_hitBy 5 = .ok (.ifCond .eq 43, 3) := by decide +kernel
theorem dX1_hitBy_8 : decode cX1_hitBy 8 = .ok (.aload_n 0, 1) := by decide +kernel
theorem dX1_hitBy_9 : decode cX1_hitBy 9 = .ok (.getfield 41, 3) := by decide +kernel
theorem dX1_hitBy_12 : decode cX1_hitBy 12 = .ok (.aload_n 0, 1) := by decide +kernel
theorem dX1_hitBy_13 : decode cX1_hitBy 13 = .ok (.getfield 15, 3) := by decide +kernel
theorem dX1_hitBy_16 : decode cX1_hitBy 16 = .ok (.iload_n 1, 1) := by decide +kernel
theorem dX1_hitBy_17 : decode cX1_hitBy 17 = .ok (.iaload, 1) := by decide +kernel
theorem dX1_hitBy_18 : decode cX1_hitBy 18 = .ok (.aload_n 0, 1) := by decide +kernel
theorem dX1_hitBy_19 : decode cX1_hitBy 19 = .ok (.getfield 18, 3) := by decide +kernel
theorem dX1_hitBy_22 : decode cX1_hitBy 22 = .ok (.iload_n 1, 1) := by decide +kernel
theorem dX1_hitBy_23 : decode cX1_hitBy 23 = .ok (.iaload, 1) := by decide +kernel
theorem dX1_hitBy_24 : decode cX1_hitBy 24 = .ok (.aload_n 0, 1) := by decide +kernel
theorem dX1_hitBy_25 : decode cX1_hitBy 25 = .ok (.getfield 21, 3) := by decide +kernel
theorem dX1_hitBy_28 : decode cX1_hitBy 28 = .ok (.iload_n 1, 1) := by decide +kernel
theorem dX1_hitBy_29 : decode cX1_hitBy 29 = .ok (.iaload, 1) := by decide +kernel
theorem dX1_hitBy_30 : decode cX1_hitBy 30 = .ok (.aload_n 0, 1) := by decide +kernel
theorem dX1_hitBy_31 : decode cX1_hitBy 31 = .ok (.getfield 24, 3) := by decide +kernel
theorem dX1_hitBy_34 : decode cX1_hitBy 34 = .ok (.iload_n 1, 1) := by decide +kernel
theorem dX1_hitBy_35 : decode cX1_hitBy 35 = .ok (.iaload, 1) := by decide +kernel
theorem dX1_hitBy_36 : decode cX1_hitBy 36 = .ok (.aload_n 0, 1) := by decide +kernel
theorem dX1_hitBy_37 : decode cX1_hitBy 37 = .ok (.getfield 27, 3) := by decide +kernel
theorem dX1_hitBy_40 : decode cX1_hitBy 40 = .ok (.iload_n 1, 1) := by decide +kernel
theorem dX1_hitBy_41 : decode cX1_hitBy 41 = .ok (.iaload, 1) := by decide +kernel
theorem dX1_hitBy_42 : decode cX1_hitBy 42 = .ok (.invokevirtual 53, 3) := by decide +kernel
theorem dX1_hitBy_45 : decode cX1_hitBy 45 = .ok (.goto 4, 3) := by decide +kernel
theorem dX1_hitBy_48 : decode cX1_hitBy 48 = .ok (.iconst (-1), 1) := by decide +kernel
theorem dX1_hitBy_49 : decode cX1_hitBy 49 = .ok (.ireturn, 1) := by decide +kernel
theorem dX1_aloneOf_0 : decode cX1_aloneOf 0 = .ok (.aload_n 0, 1) := by decide +kernel
theorem dX1_aloneOf_1 : decode cX1_aloneOf 1 = .ok (.iload_n 1, 1) := by decide +kernel
theorem dX1_aloneOf_2 : decode cX1_aloneOf 2 = .ok (.invokevirtual 49, 3) := by decide +kernel
theorem dX1_aloneOf_5 : decode cX1_aloneOf 5 = .ok (.ifCond .eq 53, 3) := by decide +kernel
theorem dX1_aloneOf_8 : decode cX1_aloneOf 8 = .ok (.aload_n 0, 1) := by decide +kernel
theorem dX1_aloneOf_9 : decode cX1_aloneOf 9 = .ok (.getfield 37, 3) := by decide +kernel
theorem dX1_aloneOf_12 : decode cX1_aloneOf 12 = .ok (.aload_n 0, 1) := by decide +kernel
theorem dX1_aloneOf_13 : decode cX1_aloneOf 13 = .ok (.getfield 9, 3) := by decide +kernel
theorem dX1_aloneOf_16 : decode cX1_aloneOf 16 = .ok (.iload_n 1, 1) := by decide +kernel
theorem dX1_aloneOf_17 : decode cX1_aloneOf 17 = .ok (.iaload, 1) := by decide +kernel
theorem dX1_aloneOf_18 : decode cX1_aloneOf 18 = .ok (.aload_n 0, 1) := by decide +kernel
theorem dX1_aloneOf_19 : decode cX1_aloneOf 19 = .ok (.getfield 15, 3) := by decide +kernel
theorem dX1_aloneOf_22 : decode cX1_aloneOf 22 = .ok (.iload_n 1, 1) := by decide +kernel
theorem dX1_aloneOf_23 : decode cX1_aloneOf 23 = .ok (.iaload, 1) := by decide +kernel
theorem dX1_aloneOf_24 : decode cX1_aloneOf 24 = .ok (.aload_n 0, 1) := by decide +kernel
theorem dX1_aloneOf_25 : decode cX1_aloneOf 25 = .ok (.getfield 18, 3) := by decide +kernel
theorem dX1_aloneOf_28 : decode cX1_aloneOf 28 = .ok (.iload_n 1, 1) := by decide +kernel
theorem dX1_aloneOf_29 : decode cX1_aloneOf 29 = .ok (.iaload, 1) := by decide +kernel
theorem dX1_aloneOf_30 : decode cX1_aloneOf 30 = .ok (.aload_n 0, 1) := by decide +kernel
theorem dX1_aloneOf_31 : decode cX1_aloneOf 31 = .ok (.getfield 21, 3) := by decide +kernel
theorem dX1_aloneOf_34 : decode cX1_aloneOf 34 = .ok (.iload_n 1, 1) := by decide +kernel
theorem dX1_aloneOf_35 : decode cX1_aloneOf 35 = .ok (.iaload, 1) := by decide +kernel
theorem dX1_aloneOf_36 : decode cX1_aloneOf 36 = .ok (.aload_n 0, 1) := by decide +kernel
theorem dX1_aloneOf_37 : decode cX1_aloneOf 37 = .ok (.getfield 24, 3) := by decide +kernel
theorem dX1_aloneOf_40 : decode cX1_aloneOf 40 = .ok (.iload_n 1, 1) := by decide +kernel
theorem dX1_aloneOf_41 : decode cX1_aloneOf 41 = .ok (.iaload, 1) := by decide +kernel
theorem dX1_aloneOf_42 : decode cX1_aloneOf 42 = .ok (.aload_n 0, 1) := by decide +kernel
theorem dX1_aloneOf_43 : decode cX1_aloneOf 43 = .ok (.getfield 27, 3) := by decide +kernel
theorem dX1_aloneOf_46 : decode cX1_aloneOf 46 = .ok (.iload_n 1, 1) := by decide +kernel
theorem dX1_aloneOf_47 : decode cX1_aloneOf 47 = .ok (.iaload, 1) := by decide +kernel
theorem dX1_aloneOf_48 : decode cX1_aloneOf 48 = .ok (.invokevirtual 59, 3) := by decide +kernel
theorem dX1_aloneOf_51 : decode cX1_aloneOf 51 = .ok (.sipush 10000, 3) := by decide +kernel
theorem dX1_aloneOf_54 : decode cX1_aloneOf 54 = .ok (.idiv, 1) := by decide +kernel
theorem dX1_aloneOf_55 : decode cX1_aloneOf 55 = .ok (.goto 4, 3) := by decide +kernel
theorem dX1_aloneOf_58 : decode cX1_aloneOf 58 = .ok (.iconst 0, 1) := by decide +kernel
theorem dX1_aloneOf_59 : decode cX1_aloneOf 59 = .ok (.ireturn, 1) := by decide +kernel
theorem dX1_scoreOf_0 : decode cX1_scoreOf 0 = .ok (.aload_n 0, 1) := by decide +kernel
theorem dX1_scoreOf_1 : decode cX1_scoreOf 1 = .ok (.iload_n 1, 1) := by decide +kernel
theorem dX1_scoreOf_2 : decode cX1_scoreOf 2 = .ok (.invokevirtual 49, 3) := by decide +kernel
theorem dX1_scoreOf_5 : decode cX1_scoreOf 5 = .ok (.ifCond .ne 5, 3) := by decide +kernel
theorem dX1_scoreOf_8 : decode cX1_scoreOf 8 = .ok (.iconst 0, 1) := by decide +kernel
theorem dX1_scoreOf_9 : decode cX1_scoreOf 9 = .ok (.ireturn, 1) := by decide +kernel
theorem dX1_scoreOf_10 : decode cX1_scoreOf 10 = .ok (.aload_n 0, 1) := by decide +kernel
theorem dX1_scoreOf_11 : decode cX1_scoreOf 11 = .ok (.iload_n 1, 1) := by decide +kernel
theorem dX1_scoreOf_12 : decode cX1_scoreOf 12 = .ok (.invokevirtual 65, 3) := by decide +kernel
theorem dX1_scoreOf_15 : decode cX1_scoreOf 15 = .ok (.iconst (-1), 1) := by decide +kernel
theorem dX1_scoreOf_16 : decode cX1_scoreOf 16 = .ok (.if_icmp .ne 7, 3) := by decide +kernel
theorem dX1_scoreOf_19 : decode cX1_scoreOf 19 = .ok (.iconst 0, 1) := by decide +kernel
theorem dX1_scoreOf_20 : decode cX1_scoreOf 20 = .ok (.goto 5, 3) := by decide +kernel
theorem dX1_scoreOf_23 : decode cX1_scoreOf 23 = .ok (.bipush 100, 2) := by decide +kernel
theorem dX1_scoreOf_25 : decode cX1_scoreOf 25 = .ok (.istore_n 2, 1) := by decide +kernel
theorem dX1_scoreOf_26 : decode cX1_scoreOf 26 = .ok (.aload_n 0, 1) := by decide +kernel
theorem dX1_scoreOf_27 : decode cX1_scoreOf 27 = .ok (.iload_n 1, 1) := by decide +kernel
theorem dX1_scoreOf_28 : decode cX1_scoreOf 28 = .ok (.invokevirtual 69, 3) := by decide +kernel
theorem dX1_scoreOf_31 : decode cX1_scoreOf 31 = .ok (.istore_n 3, 1) := by decide +kernel
theorem dX1_scoreOf_32 : decode cX1_scoreOf 32 = .ok (.iload_n 3, 1) := by decide +kernel
theorem dX1_scoreOf_33 : decode cX1_scoreOf 33 = .ok (.iload_n 2, 1) := by decide +kernel
theorem dX1_scoreOf_34 : decode cX1_scoreOf 34 = .ok (.isub, 1) := by decide +kernel
theorem dX1_scoreOf_35 : decode cX1_scoreOf 35 = .ok (.iload_n 3, 1) := by decide +kernel
theorem dX1_scoreOf_36 : decode cX1_scoreOf 36 = .ok (.iload_n 2, 1) := by decide +kernel
theorem dX1_scoreOf_37 : decode cX1_scoreOf 37 = .ok (.isub, 1) := by decide +kernel
theorem dX1_scoreOf_38 : decode cX1_scoreOf 38 = .ok (.imul, 1) := by decide +kernel
theorem dX1_scoreOf_39 : decode cX1_scoreOf 39 = .ok (.aload_n 0, 1) := by decide +kernel
theorem dX1_scoreOf_40 : decode cX1_scoreOf 40 = .ok (.getfield 30, 3) := by decide +kernel
theorem dX1_scoreOf_43 : decode cX1_scoreOf 43 = .ok (.iload_n 1, 1) := by decide +kernel
theorem dX1_scoreOf_44 : decode cX1_scoreOf 44 = .ok (.iaload, 1) := by decide +kernel
theorem dX1_scoreOf_45 : decode cX1_scoreOf 45 = .ok (.iload_n 2, 1) := by decide +kernel
theorem dX1_scoreOf_46 : decode cX1_scoreOf 46 = .ok (.isub, 1) := by decide +kernel
theorem dX1_scoreOf_47 : decode cX1_scoreOf 47 = .ok (.aload_n 0, 1) := by decide +kernel
theorem dX1_scoreOf_48 : decode cX1_scoreOf 48 = .ok (.getfield 30, 3) := by decide +kernel
theorem dX1_scoreOf_51 : decode cX1_scoreOf 51 = .ok (.iload_n 1, 1) := by decide +kernel
theorem dX1_scoreOf_52 : decode cX1_scoreOf 52 = .ok (.iaload, 1) := by decide +kernel
theorem dX1_scoreOf_53 : decode cX1_scoreOf 53 = .ok (.iload_n 2, 1) := by decide +kernel
theorem dX1_scoreOf_54 : decode cX1_scoreOf 54 = .ok (.isub, 1) := by decide +kernel
theorem dX1_scoreOf_55 : decode cX1_scoreOf 55 = .ok (.imul, 1) := by decide +kernel
theorem dX1_scoreOf_56 : decode cX1_scoreOf 56 = .ok (.isub, 1) := by decide +kernel
theorem dX1_scoreOf_57 : decode cX1_scoreOf 57 = .ok (.ireturn, 1) := by decide +kernel
theorem dX2_init_0 : decode cX2_init 0 = .ok (.aload_n 0, 1) := by decide +kernel
theorem dX2_init_1 : decode cX2_init 1 = .ok (.invokespecial 3, 3) := by decide +kernel
theorem dX2_init_4 : decode cX2_init 4 = .ok (.aload_n 0, 1) := by decide +kernel
theorem dX2_init_5 : decode cX2_init 5 = .ok (.sipush 201, 3) := by decide +kernel
theorem dX2_init_8 : decode cX2_init 8 = .ok (.newarray .long, 2) := by decide +kernel
theorem dX2_init_10 : decode cX2_init 10 = .ok (.putfield 9, 3) := by decide +kernel
theorem dX2_init_13 : decode cX2_init 13 = .ok (.aload_n 0, 1) := by decide +kernel
theorem dX2_init_14 : decode cX2_init 14 = .ok (.sipush 201, 3) := by decide +kernel
theorem dX2_init_17 : decode cX2_init 17 = .ok (.newarray .long, 2) := by decide +kernel
theorem dX2_init_19 : decode cX2_init 19 = .ok (.putfield 15, 3) := by decide +kernel
theorem dX2_init_22 : decode cX2_init 22 = .ok (.aload_n 0, 1) := by decide +kernel
theorem dX2_init_23 : decode cX2_init 23 = .ok (.iconst (-1), 1) := by decide +kernel
theorem dX2_init_24 : decode cX2_init 24 = .ok (.putfield 18, 3) := by decide +kernel
theorem dX2_init_27 : decode cX2_init 27 = .ok (.return_, 1) := by decide +kernel
theorem dX2_rightByLuck_0 : decode cX2_rightByLuck 0 = .ok (.aload_n 0, 1) := by decide +kernel
theorem dX2_rightByLuck_1 : decode cX2_rightByLuck 1 = .ok (.getfield 9, 3) := by decide +kernel
theorem dX2_rightByLuck_4 : decode cX2_rightByLuck 4 = .ok (.invokestatic 22, 3) := by decide +kernel
theorem dX2_rightByLuck_7 : decode cX2_rightByLuck 7 = .ok (.iconst 1, 1) := by decide +kernel
theorem dX2_rightByLuck_8 : decode cX2_rightByLuck 8 = .ok (.istore 4, 2) := by decide +kernel
theorem dX2_rightByLuck_10 : decode cX2_rightByLuck 10 = .ok (.iload 4, 2) := by decide +kernel
theorem dX2_rightByLuck_12 : decode cX2_rightByLuck 12 = .ok (.iload_n 1, 1) := by decide +kernel
theorem dX2_rightByLuck_13 : decode cX2_rightByLuck 13 = .ok (.if_icmp .gt 19, 3) := by decide +kernel
theorem dX2_rightByLuck_16 : decode cX2_rightByLuck 16 = .ok (.aload_n 0, 1) := by decide +kernel
theorem dX2_rightByLuck_17 : decode cX2_rightByLuck 17 = .ok (.getfield 9, 3) := by decide +kernel
theorem dX2_rightByLuck_20 : decode cX2_rightByLuck 20 = .ok (.iload 4, 2) := by decide +kernel
theorem dX2_rightByLuck_22 : decode cX2_rightByLuck 22 = .ok (.iload_n 2, 1) := by decide +kernel
theorem dX2_rightByLuck_23 : decode cX2_rightByLuck 23 = .ok (.invokestatic 26, 3) := by decide +kernel
theorem dX2_rightByLuck_26 : decode cX2_rightByLuck 26 = .ok (.iinc 4 1, 3) := by decide +kernel
theorem dX2_rightByLuck_29 : decode cX2_rightByLuck 29 = .ok (.goto (-19), 3) := by decide +kernel
theorem dX2_rightByLuck_32 : decode cX2_rightByLuck 32 = .ok (.lconst 0, 1) := by decide +kernel
theorem dX2_rightByLuck_33 : decode cX2_rightByLuck 33 = .ok (.lstore 4, 2) := by decide +kernel
theorem dX2_rightByLuck_35 : decode cX2_rightByLuck 35 = .ok (.iconst 0, 1) := by decide +kernel
theorem dX2_rightByLuck_36 : decode cX2_rightByLuck 36 = .ok (.iload_n 3, 1) := by decide +kernel
theorem dX2_rightByLuck_37 : decode cX2_rightByLuck 37 = .ok (.invokestatic 30, 3) := by decide +kernel
theorem dX2_rightByLuck_40 : decode cX2_rightByLuck 40 = .ok (.istore 6, 2) := by decide +kernel
theorem dX2_rightByLuck_42 : decode cX2_rightByLuck 42 = .ok (.iload 6, 2) := by decide +kernel
theorem dX2_rightByLuck_44 : decode cX2_rightByLuck 44 = .ok (.iload_n 1, 1) := by decide +kernel
theorem dX2_rightByLuck_45 : decode cX2_rightByLuck 45 = .ok (.if_icmp .gt 31, 3) := by decide +kernel
theorem dX2_rightByLuck_48 : decode cX2_rightByLuck 48 = .ok (.iload 6, 2) := by decide +kernel
theorem dX2_rightByLuck_50 : decode cX2_rightByLuck 50 = .ok (.aload_n 0, 1) := by decide +kernel
theorem dX2_rightByLuck_51 : decode cX2_rightByLuck 51 = .ok (.getfield 9, 3) := by decide +kernel
theorem dX2_rightByLuck_54 : decode cX2_rightByLuck 54 = .ok (.arraylength, 1) := by decide +kernel
theorem dX2_rightByLuck_55 : decode cX2_rightByLuck 55 = .ok (.if_icmp .ge 21, 3) := by decide +kernel
theorem dX2_rightByLuck_58 : decode cX2_rightByLuck 58 = .ok (.lload 4, 2) := by decide +kernel
theorem dX2_rightByLuck_60 : decode cX2_rightByLuck 60 = .ok (.aload_n 0, 1) := by decide +kernel
theorem dX2_rightByLuck_61 : decode cX2_rightByLuck 61 = .ok (.getfield 9, 3) := by decide +kernel
theorem dX2_rightByLuck_64 : decode cX2_rightByLuck 64 = .ok (.iload 6, 2) := by decide +kernel
theorem dX2_rightByLuck_66 : decode cX2_rightByLuck 66 = .ok (.laload, 1) := by decide +kernel
theorem dX2_rightByLuck_67 : decode cX2_rightByLuck 67 = .ok (.ladd, 1) := by decide +kernel
theorem dX2_rightByLuck_68 : decode cX2_rightByLuck 68 = .ok (.lstore 4, 2) := by decide +kernel
theorem dX2_rightByLuck_70 : decode cX2_rightByLuck 70 = .ok (.iinc 6 1, 3) := by decide +kernel
theorem dX2_rightByLuck_73 : decode cX2_rightByLuck 73 = .ok (.goto (-31), 3) := by decide +kernel
theorem dX2_rightByLuck_76 : decode cX2_rightByLuck 76 = .ok (.lload 4, 2) := by decide +kernel
theorem dX2_rightByLuck_78 : decode cX2_rightByLuck 78 = .ok (.l2i, 1) := by decide +kernel
theorem dX2_rightByLuck_79 : decode cX2_rightByLuck 79 = .ok (.ireturn, 1) := by decide +kernel
theorem dX2_begin_0 : decode cX2_begin 0 = .ok (.iconst 0, 1) := by decide +kernel
theorem dX2_begin_1 : decode cX2_begin 1 = .ok (.istore_n 1, 1) := by decide +kernel
theorem dX2_begin_2 : decode cX2_begin 2 = .ok (.iload_n 1, 1) := by decide +kernel
theorem dX2_begin_3 : decode cX2_begin 3 = .ok (.aload_n 0, 1) := by decide +kernel
theorem dX2_begin_4 : decode cX2_begin 4 = .ok (.arraylength, 1) := by decide +kernel
theorem dX2_begin_5 : decode cX2_begin 5 = .ok (.if_icmp .ge 23, 3) := by decide +kernel
theorem dX2_begin_8 : decode cX2_begin 8 = .ok (.aload_n 0, 1) := by decide +kernel
theorem dX2_begin_9 : decode cX2_begin 9 = .ok (.iload_n 1, 1) := by decide +kernel
theorem dX2_begin_10 : decode cX2_begin 10 = .ok (.iload_n 1, 1) := by decide +kernel
theorem dX2_begin_11 : decode cX2_begin 11 = .ok (.ifCond .ne 9, 3) := by decide +kernel
theorem dX2_begin_14 : decode cX2_begin 14 = .ok (.ldc2_w 36, 3) := by decide +kernel
theorem dX2_begin_17 : decode cX2_begin 17 = .ok (.goto 4, 3) := by decide +kernel
theorem dX2_begin_20 : decode cX2_begin 20 = .ok (.lconst 0, 1) := by decide +kernel
theorem dX2_begin_21 : decode cX2_begin 21 = .ok (.lastore, 1) := by decide +kernel
theorem dX2_begin_22 : decode cX2_begin 22 = .ok (.iinc 1 1, 3) := by decide +kernel
theorem dX2_begin_25 : decode cX2_begin 25 = .ok (.goto (-23), 3) := by decide +kernel
theorem dX2_begin_28 : decode cX2_begin 28 = .ok (.return_, 1) := by decide +kernel
theorem dX2_addOne_0 : decode cX2_addOne 0 = .ok (.iload_n 1, 1) := by decide +kernel
theorem dX2_addOne_1 : decode cX2_addOne 1 = .ok (.aload_n 0, 1) := by decide +kernel
theorem dX2_addOne_2 : decode cX2_addOne 2 = .ok (.arraylength, 1) := by decide +kernel
theorem dX2_addOne_3 : decode cX2_addOne 3 = .ok (.iconst 1, 1) := by decide +kernel
theorem dX2_addOne_4 : decode cX2_addOne 4 = .ok (.isub, 1) := by decide +kernel
theorem dX2_addOne_5 : decode cX2_addOne 5 = .ok (.invokestatic 38, 3) := by decide +kernel
theorem dX2_addOne_8 : decode cX2_addOne 8 = .ok (.istore_n 3, 1) := by decide +kernel
theorem dX2_addOne_9 : decode cX2_addOne 9 = .ok (.iload_n 3, 1) := by decide +kernel
theorem dX2_addOne_10 : decode cX2_addOne 10 = .ok (.ifCond .lt 47, 3) := by decide +kernel
theorem dX2_addOne_13 : decode cX2_addOne 13 = .ok (.iload_n 3, 1) := by decide +kernel
theorem dX2_addOne_14 : decode cX2_addOne 14 = .ok (.ifCond .le 11, 3) := by decide +kernel
theorem dX2_addOne_17 : decode cX2_addOne 17 = .ok (.aload_n 0, 1) := by decide +kernel
theorem dX2_addOne_18 : decode cX2_addOne 18 = .ok (.iload_n 3, 1) := by decide +kernel
theorem dX2_addOne_19 : decode cX2_addOne 19 = .ok (.iconst 1, 1) := by decide +kernel
theorem dX2_addOne_20 : decode cX2_addOne 20 = .ok (.isub, 1) := by decide +kernel
theorem dX2_addOne_21 : decode cX2_addOne 21 = .ok (.laload, 1) := by decide +kernel
theorem dX2_addOne_22 : decode cX2_addOne 22 = .ok (.goto 4, 3) := by decide +kernel
theorem dX2_addOne_25 : decode cX2_addOne 25 = .ok (.lconst 0, 1) := by decide +kernel
theorem dX2_addOne_26 : decode cX2_addOne 26 = .ok (.lstore 4, 2) := by decide +kernel
theorem dX2_addOne_28 : decode cX2_addOne 28 = .ok (.aload_n 0, 1) := by decide +kernel
theorem dX2_addOne_29 : decode cX2_addOne 29 = .ok (.iload_n 3, 1) := by decide +kernel
theorem dX2_addOne_30 : decode cX2_addOne 30 = .ok (.aload_n 0, 1) := by decide +kernel
theorem dX2_addOne_31 : decode cX2_addOne 31 = .ok (.iload_n 3, 1) := by decide +kernel
theorem dX2_addOne_32 : decode cX2_addOne 32 = .ok (.laload, 1) := by decide +kernel
theorem dX2_addOne_33 : decode cX2_addOne 33 = .ok (.sipush 1000, 3) := by decide +kernel
theorem dX2_addOne_36 : decode cX2_addOne 36 = .ok (.iload_n 2, 1) := by decide +kernel
theorem dX2_addOne_37 : decode cX2_addOne 37 = .ok (.isub, 1) := by decide +kernel
theorem dX2_addOne_38 : decode cX2_addOne 38 = .ok (.i2l, 1) := by decide +kernel
theorem dX2_addOne_39 : decode cX2_addOne 39 = .ok (.lmul, 1) := by decide +kernel
theorem dX2_addOne_40 : decode cX2_addOne 40 = .ok (.lload 4, 2) := by decide +kernel
theorem dX2_addOne_42 : decode cX2_addOne 42 = .ok (.iload_n 2, 1) := by decide +kernel
theorem dX2_addOne_43 : decode cX2_addOne 43 = .ok (.i2l, 1) := by decide +kernel
theorem dX2_addOne_44 : decode cX2_addOne 44 = .ok (.lmul, 1) := by decide +kernel
theorem dX2_addOne_45 : decode cX2_addOne 45 = .ok (.ladd, 1) := by decide +kernel
theorem dX2_addOne_46 : decode cX2_addOne 46 = .ok (.ldc2_w 41, 3) := by decide +kernel
theorem dX2_addOne_49 : decode cX2_addOne 49 = .ok (.ldiv, 1) := by decide +kernel
theorem dX2_addOne_50 : decode cX2_addOne 50 = .ok (.lastore, 1) := by decide +kernel
theorem dX2_addOne_51 : decode cX2_addOne 51 = .ok (.iinc 3 (-1), 3) := by decide +kernel
theorem dX2_addOne_54 : decode cX2_addOne 54 = .ok (.goto (-45), 3) := by decide +kernel
theorem dX2_addOne_57 : decode cX2_addOne 57 = .ok (.return_, 1) := by decide +kernel
theorem dX2_yearsToCount_0 : decode cX2_yearsToCount 0 = .ok (.aload_n 0, 1) := by decide +kernel
theorem dX2_yearsToCount_1 : decode cX2_yearsToCount 1 = .ok (.getfield 9, 3) := by decide +kernel
theorem dX2_yearsToCount_4 : decode cX2_yearsToCount 4 = .ok (.invokestatic 22, 3) := by decide +kernel
theorem dX2_yearsToCount_7 : decode cX2_yearsToCount 7 = .ok (.aload_n 0, 1) := by decide +kernel
theorem dX2_yearsToCount_8 : decode cX2_yearsToCount 8 = .ok (.getfield 15, 3) := by decide +kernel
theorem dX2_yearsToCount_11 : decode cX2_yearsToCount 11 = .ok (.invokestatic 22, 3) := by decide +kernel
theorem dX2_yearsToCount_14 : decode cX2_yearsToCount 14 = .ok (.iconst 1, 1) := by decide +kernel
theorem dX2_yearsToCount_15 : decode cX2_yearsToCount 15 = .ok (.istore 5, 2) := by decide +kernel
theorem dX2_yearsToCount_17 : decode cX2_yearsToCount 17 = .ok (.iload 5, 2) := by decide +kernel
theorem dX2_yearsToCount_19 : decode cX2_yearsToCount 19 = .ok (.bipush 60, 2) := by decide +kernel
theorem dX2_yearsToCount_21 : decode cX2_yearsToCount 21 = .ok (.if_icmp .gt 53, 3) := by decide +kernel
theorem dX2_yearsToCount_24 : decode cX2_yearsToCount 24 = .ok (.aload_n 0, 1) := by decide +kernel
theorem dX2_yearsToCount_25 : decode cX2_yearsToCount 25 = .ok (.getfield 9, 3) := by decide +kernel
theorem dX2_yearsToCount_28 : decode cX2_yearsToCount 28 = .ok (.iload 5, 2) := by decide +kernel
theorem dX2_yearsToCount_30 : decode cX2_yearsToCount 30 = .ok (.iload_n 1, 1) := by decide +kernel
theorem dX2_yearsToCount_31 : decode cX2_yearsToCount 31 = .ok (.invokestatic 26, 3) := by decide +kernel
theorem dX2_yearsToCount_34 : decode cX2_yearsToCount 34 = .ok (.aload_n 0, 1) := by decide +kernel
theorem dX2_yearsToCount_35 : decode cX2_yearsToCount 35 = .ok (.getfield 15, 3) := by decide +kernel
theorem dX2_yearsToCount_38 : decode cX2_yearsToCount 38 = .ok (.iload 5, 2) := by decide +kernel
theorem dX2_yearsToCount_40 : decode cX2_yearsToCount 40 = .ok (.iload_n 2, 1) := by decide +kernel
theorem dX2_yearsToCount_41 : decode cX2_yearsToCount 41 = .ok (.invokestatic 26, 3) := by decide +kernel
theorem dX2_yearsToCount_44 : decode cX2_yearsToCount 44 = .ok (.aload_n 0, 1) := by decide +kernel
theorem dX2_yearsToCount_45 : decode cX2_yearsToCount 45 = .ok (.aload_n 0, 1) := by decide +kernel
theorem dX2_yearsToCount_46 : decode cX2_yearsToCount 46 = .ok (.iload 5, 2) := by decide +kernel
theorem dX2_yearsToCount_48 : decode cX2_yearsToCount 48 = .ok (.iload_n 3, 1) := by decide +kernel
theorem dX2_yearsToCount_49 : decode cX2_yearsToCount 49 = .ok (.iload 4, 2) := by decide +kernel
theorem dX2_yearsToCount_51 : decode cX2_yearsToCount 51 = .ok (.invokevirtual 43, 3) := by decide +kernel
theorem dX2_yearsToCount_54 : decode cX2_yearsToCount 54 = .ok (.putfield 18, 3) := by decide +kernel
theorem dX2_yearsToCount_57 : decode cX2_yearsToCount 57 = .ok (.aload_n 0, 1) := by decide +kernel
theorem dX2_yearsToCount_58 : decode cX2_yearsToCount 58 = .ok (.getfield 18, 3) := by decide +kernel
theorem dX2_yearsToCount_61 : decode cX2_yearsToCount 61 = .ok (.iconst (-1), 1) := by decide +kernel
theorem dX2_yearsToCount_62 : decode cX2_yearsToCount 62 = .ok (.if_icmp .eq 6, 3) := by decide +kernel
theorem dX2_yearsToCount_65 : decode cX2_yearsToCount 65 = .ok (.iload 5, 2) := by decide +kernel
theorem dX2_yearsToCount_67 : decode cX2_yearsToCount 67 = .ok (.ireturn, 1) := by decide +kernel
theorem dX2_yearsToCount_68 : decode cX2_yearsToCount 68 = .ok (.iinc 5 1, 3) := by decide +kernel
theorem dX2_yearsToCount_71 : decode cX2_yearsToCount 71 = .ok (.goto (-54), 3) := by decide +kernel
theorem dX2_yearsToCount_74 : decode cX2_yearsToCount 74 = .ok (.iconst (-1), 1) := by decide +kernel
theorem dX2_yearsToCount_75 : decode cX2_yearsToCount 75 = .ok (.ireturn, 1) := by decide +kernel
theorem dX2_oddYears_0 : decode cX2_oddYears 0 = .ok (.aload_n 0, 1) := by decide +kernel
theorem dX2_oddYears_1 : decode cX2_oddYears 1 = .ok (.getfield 18, 3) := by decide +kernel
theorem dX2_oddYears_4 : decode cX2_oddYears 4 = .ok (.ireturn, 1) := by decide +kernel
theorem dX2_leastOdd_0 : decode cX2_leastOdd 0 = .ok (.lconst 0, 1) := by decide +kernel
theorem dX2_leastOdd_1 : decode cX2_leastOdd 1 = .ok (.lstore 4, 2) := by decide +kernel
theorem dX2_leastOdd_3 : decode cX2_leastOdd 3 = .ok (.lconst 0, 1) := by decide +kernel
theorem dX2_leastOdd_4 : decode cX2_leastOdd 4 = .ok (.lstore 6, 2) := by decide +kernel
theorem dX2_leastOdd_6 : decode cX2_leastOdd 6 = .ok (.iconst (-1), 1) := by decide +kernel
theorem dX2_leastOdd_7 : decode cX2_leastOdd 7 = .ok (.istore 8, 2) := by decide +kernel
theorem dX2_leastOdd_9 : decode cX2_leastOdd 9 = .ok (.iload_n 1, 1) := by decide +kernel
theorem dX2_leastOdd_10 : decode cX2_leastOdd 10 = .ok (.sipush 200, 3) := by decide +kernel
theorem dX2_leastOdd_13 : decode cX2_leastOdd 13 = .ok (.invokestatic 38, 3) := by decide +kernel
theorem dX2_leastOdd_16 : decode cX2_leastOdd 16 = .ok (.istore 9, 2) := by decide +kernel
theorem dX2_leastOdd_18 : decode cX2_leastOdd 18 = .ok (.iload 9, 2) := by decide +kernel
theorem dX2_leastOdd_20 : decode cX2_leastOdd 20 = .ok (.ifCond .lt 53, 3) := by decide +kernel
theorem dX2_leastOdd_23 : decode cX2_leastOdd 23 = .ok (.lload 4, 2) := by decide +kernel
theorem dX2_leastOdd_25 : decode cX2_leastOdd 25 = .ok (.aload_n 0, 1) := by decide +kernel
theorem dX2_leastOdd_26 : decode cX2_leastOdd 26 = .ok (.getfield 9, 3) := by decide +kernel
theorem dX2_leastOdd_29 : decode cX2_leastOdd 29 = .ok (.iload 9, 2) := by decide +kernel
theorem dX2_leastOdd_31 : decode cX2_leastOdd 31 = .ok (.laload, 1) := by decide +kernel
theorem dX2_leastOdd_32 : decode cX2_leastOdd 32 = .ok (.ladd, 1) := by decide +kernel
theorem dX2_leastOdd_33 : decode cX2_leastOdd 33 = .ok (.lstore 4, 2) := by decide +kernel
theorem dX2_leastOdd_35 : decode cX2_leastOdd 35 = .ok (.lload 6, 2) := by decide +kernel
theorem dX2_leastOdd_37 : decode cX2_leastOdd 37 = .ok (.aload_n 0, 1) := by decide +kernel
theorem dX2_leastOdd_38 : decode cX2_leastOdd 38 = .ok (.getfield 15, 3) := by decide +kernel
theorem dX2_leastOdd_41 : decode cX2_leastOdd 41 = .ok (.iload 9, 2) := by decide +kernel
theorem dX2_leastOdd_43 : decode cX2_leastOdd 43 = .ok (.laload, 1) := by decide +kernel
theorem dX2_leastOdd_44 : decode cX2_leastOdd 44 = .ok (.ladd, 1) := by decide +kernel
theorem dX2_leastOdd_45 : decode cX2_leastOdd 45 = .ok (.lstore 6, 2) := by decide +kernel
theorem dX2_leastOdd_47 : decode cX2_leastOdd 47 = .ok (.lload 4, 2) := by decide +kernel
theorem dX2_leastOdd_49 : decode cX2_leastOdd 49 = .ok (.iload_n 2, 1) := by decide +kernel
theorem dX2_leastOdd_50 : decode cX2_leastOdd 50 = .ok (.i2l, 1) := by decide +kernel
theorem dX2_leastOdd_51 : decode cX2_leastOdd 51 = .ok (.lcmp, 1) := by decide +kernel
theorem dX2_leastOdd_52 : decode cX2_leastOdd 52 = .ok (.ifCond .gt 15, 3) := by decide +kernel
theorem dX2_leastOdd_55 : decode cX2_leastOdd 55 = .ok (.lload 6, 2) := by decide +kernel
theorem dX2_leastOdd_57 : decode cX2_leastOdd 57 = .ok (.iload_n 3, 1) := by decide +kernel
theorem dX2_leastOdd_58 : decode cX2_leastOdd 58 = .ok (.i2l, 1) := by decide +kernel
theorem dX2_leastOdd_59 : decode cX2_leastOdd 59 = .ok (.lcmp, 1) := by decide +kernel
theorem dX2_leastOdd_60 : decode cX2_leastOdd 60 = .ok (.ifCond .lt 7, 3) := by decide +kernel
theorem dX2_leastOdd_63 : decode cX2_leastOdd 63 = .ok (.iload 9, 2) := by decide +kernel
theorem dX2_leastOdd_65 : decode cX2_leastOdd 65 = .ok (.istore 8, 2) := by decide +kernel
theorem dX2_leastOdd_67 : decode cX2_leastOdd 67 = .ok (.iinc 9 (-1), 3) := by decide +kernel
theorem dX2_leastOdd_70 : decode cX2_leastOdd 70 = .ok (.goto (-52), 3) := by decide +kernel
theorem dX2_leastOdd_73 : decode cX2_leastOdd 73 = .ok (.iload 8, 2) := by decide +kernel
theorem dX2_leastOdd_75 : decode cX2_leastOdd 75 = .ok (.ireturn, 1) := by decide +kernel
theorem dX3_init_0 : decode cX3_init 0 = .ok (.aload_n 0, 1) := by decide +kernel
theorem dX3_init_1 : decode cX3_init 1 = .ok (.invokespecial 3, 3) := by decide +kernel
theorem dX3_init_4 : decode cX3_init 4 = .ok (.aload_n 0, 1) := by decide +kernel
theorem dX3_init_5 : decode cX3_init 5 = .ok (.aload_n 1, 1) := by decide +kernel
theorem dX3_init_6 : decode cX3_init 6 = .ok (.putfield 9, 3) := by decide +kernel
theorem dX3_init_9 : decode cX3_init 9 = .ok (.aload_n 0, 1) := by decide +kernel
theorem dX3_init_10 : decode cX3_init 10 = .ok (.aload_n 2, 1) := by decide +kernel
theorem dX3_init_11 : decode cX3_init 11 = .ok (.putfield 15, 3) := by decide +kernel
theorem dX3_init_14 : decode cX3_init 14 = .ok (.return_, 1) := by decide +kernel
theorem dX3_ofShakes_0 : decode cX3_ofShakes 0 = .ok (.aload_n 0, 1) := by decide +kernel
theorem dX3_ofShakes_1 : decode cX3_ofShakes 1 = .ok (.getfield 9, 3) := by decide +kernel
theorem dX3_ofShakes_4 : decode cX3_ofShakes 4 = .ok (.iload 4, 2) := by decide +kernel
theorem dX3_ofShakes_6 : decode cX3_ofShakes 6 = .ok (.invokevirtual 19, 3) := by decide +kernel
theorem dX3_ofShakes_9 : decode cX3_ofShakes 9 = .ok (.istore 7, 2) := by decide +kernel
theorem dX3_ofShakes_11 : decode cX3_ofShakes 11 = .ok (.ldc2_w 25, 3) := by decide +kernel
theorem dX3_ofShakes_14 : decode cX3_ofShakes 14 = .ok (.aload_n 0, 1) := by decide +kernel
theorem dX3_ofShakes_15 : decode cX3_ofShakes 15 = .ok (.iload_n 2, 1) := by decide +kernel
theorem dX3_ofShakes_16 : decode cX3_ofShakes 16 = .ok (.iload_n 3, 1) := by decide +kernel
theorem dX3_ofShakes_17 : decode cX3_ofShakes 17 = .ok (.iload 7, 2) := by decide +kernel
theorem dX3_ofShakes_19 : decode cX3_ofShakes 19 = .ok (.invokevirtual 27, 3) := by decide +kernel
theorem dX3_ofShakes_22 : decode cX3_ofShakes 22 = .ok (.lsub, 1) := by decide +kernel
theorem dX3_ofShakes_23 : decode cX3_ofShakes 23 = .ok (.lstore 8, 2) := by decide +kernel
theorem dX3_ofShakes_25 : decode cX3_ofShakes 25 = .ok (.ldc2_w 25, 3) := by decide +kernel
theorem dX3_ofShakes_28 : decode cX3_ofShakes 28 = .ok (.lstore 10, 2) := by decide +kernel
theorem dX3_ofShakes_30 : decode cX3_ofShakes 30 = .ok (.iload 5, 2) := by decide +kernel
theorem dX3_ofShakes_32 : decode cX3_ofShakes 32 = .ok (.istore 12, 2) := by decide +kernel
theorem dX3_ofShakes_34 : decode cX3_ofShakes 34 = .ok (.iload 12, 2) := by decide +kernel
theorem dX3_ofShakes_36 : decode cX3_ofShakes 36 = .ok (.iload 6, 2) := by decide +kernel
theorem dX3_ofShakes_38 : decode cX3_ofShakes 38 = .ok (.if_icmp .gt 114, 3) := by decide +kernel
theorem dX3_ofShakes_41 : decode cX3_ofShakes 41 = .ok (.iload 12, 2) := by decide +kernel
theorem dX3_ofShakes_43 : decode cX3_ofShakes 43 = .ok (.sipush 400, 3) := by decide +kernel
theorem dX3_ofShakes_46 : decode cX3_ofShakes 46 = .ok (.if_icmp .ge 106, 3) := by decide +kernel
theorem dX3_ofShakes_49 : decode cX3_ofShakes 49 = .ok (.lload 10, 2) := by decide +kernel
theorem dX3_ofShakes_51 : decode cX3_ofShakes 51 = .ok (.lload 8, 2) := by decide +kernel
theorem dX3_ofShakes_53 : decode cX3_ofShakes 53 = .ok (.lmul, 1) := by decide +kernel
theorem dX3_ofShakes_54 : decode cX3_ofShakes 54 = .ok (.ldc2_w 25, 3) := by decide +kernel
theorem dX3_ofShakes_57 : decode cX3_ofShakes 57 = .ok (.ldiv, 1) := by decide +kernel
theorem dX3_ofShakes_58 : decode cX3_ofShakes 58 = .ok (.lstore 10, 2) := by decide +kernel
theorem dX3_ofShakes_60 : decode cX3_ofShakes 60 = .ok (.iconst 0, 1) := by decide +kernel
theorem dX3_ofShakes_61 : decode cX3_ofShakes 61 = .ok (.istore 13, 2) := by decide +kernel
theorem dX3_ofShakes_63 : decode cX3_ofShakes 63 = .ok (.iload 13, 2) := by decide +kernel
theorem dX3_ofShakes_65 : decode cX3_ofShakes 65 = .ok (.aload_n 0, 1) := by decide +kernel
theorem dX3_ofShakes_66 : decode cX3_ofShakes 66 = .ok (.getfield 15, 3) := by decide +kernel
theorem dX3_ofShakes_69 : decode cX3_ofShakes 69 = .ok (.invokevirtual 31, 3) := by decide +kernel
theorem dX3_ofShakes_72 : decode cX3_ofShakes 72 = .ok (.if_icmp .ge 74, 3) := by decide +kernel
theorem dX3_ofShakes_75 : decode cX3_ofShakes 75 = .ok (.aload_n 0, 1) := by decide +kernel
theorem dX3_ofShakes_76 : decode cX3_ofShakes 76 = .ok (.getfield 15, 3) := by decide +kernel
theorem dX3_ofShakes_79 : decode cX3_ofShakes 79 = .ok (.iload 13, 2) := by decide +kernel
theorem dX3_ofShakes_81 : decode cX3_ofShakes 81 = .ok (.invokevirtual 37, 3) := by decide +kernel
theorem dX3_ofShakes_84 : decode cX3_ofShakes 84 = .ok (.iload_n 1, 1) := by decide +kernel
theorem dX3_ofShakes_85 : decode cX3_ofShakes 85 = .ok (.if_icmp .gt 61, 3) := by decide +kernel
theorem dX3_ofShakes_88 : decode cX3_ofShakes 88 = .ok (.iload 12, 2) := by decide +kernel
theorem dX3_ofShakes_90 : decode cX3_ofShakes 90 = .ok (.aload_n 0, 1) := by decide +kernel
theorem dX3_ofShakes_91 : decode cX3_ofShakes 91 = .ok (.getfield 15, 3) := by decide +kernel
theorem dX3_ofShakes_94 : decode cX3_ofShakes 94 = .ok (.iload 13, 2) := by decide +kernel
theorem dX3_ofShakes_96 : decode cX3_ofShakes 96 = .ok (.invokevirtual 37, 3) := by decide +kernel
theorem dX3_ofShakes_99 : decode cX3_ofShakes 99 = .ok (.isub, 1) := by decide +kernel
theorem dX3_ofShakes_100 : decode cX3_ofShakes 100 = .ok (.istore 14, 2) := by decide +kernel
theorem dX3_ofShakes_102 : decode cX3_ofShakes 102 = .ok (.iload 14, 2) := by decide +kernel
theorem dX3_ofShakes_104 : decode cX3_ofShakes 104 = .ok (.aload_n 0, 1) := by decide +kernel
theorem dX3_ofShakes_105 : decode cX3_ofShakes 105 = .ok (.getfield 9, 3) := by decide +kernel
theorem dX3_ofShakes_108 : decode cX3_ofShakes 108 = .ok (.iconst 3, 1) := by decide +kernel
theorem dX3_ofShakes_109 : decode cX3_ofShakes 109 = .ok (.invokevirtual 40, 3) := by decide +kernel
theorem dX3_ofShakes_112 : decode cX3_ofShakes 112 = .ok (.if_icmp .gt 28, 3) := by decide +kernel
theorem dX3_ofShakes_115 : decode cX3_ofShakes 115 = .ok (.lload 10, 2) := by decide +kernel
theorem dX3_ofShakes_117 : decode cX3_ofShakes 117 = .ok (.ldc2_w 25, 3) := by decide +kernel
theorem dX3_ofShakes_120 : decode cX3_ofShakes 120 = .ok (.aload_n 0, 1) := by decide +kernel
theorem dX3_ofShakes_121 : decode cX3_ofShakes 121 = .ok (.iload 13, 2) := by decide +kernel
theorem dX3_ofShakes_123 : decode cX3_ofShakes 123 = .ok (.iload 14, 2) := by decide +kernel
theorem dX3_ofShakes_125 : decode cX3_ofShakes 125 = .ok (.iload_n 2, 1) := by decide +kernel
theorem dX3_ofShakes_126 : decode cX3_ofShakes 126 = .ok (.iload_n 3, 1) := by decide +kernel
theorem dX3_ofShakes_127 : decode cX3_ofShakes 127 = .ok (.iload 7, 2) := by decide +kernel
theorem dX3_ofShakes_129 : decode cX3_ofShakes 129 = .ok (.invokevirtual 43, 3) := by decide +kernel
theorem dX3_ofShakes_132 : decode cX3_ofShakes 132 = .ok (.lsub, 1) := by decide +kernel
theorem dX3_ofShakes_133 : decode cX3_ofShakes 133 = .ok (.lmul, 1) := by decide +kernel
theorem dX3_ofShakes_134 : decode cX3_ofShakes 134 = .ok (.ldc2_w 25, 3) := by decide +kernel
theorem dX3_ofShakes_137 : decode cX3_ofShakes 137 = .ok (.ldiv, 1) := by decide +kernel
theorem dX3_ofShakes_138 : decode cX3_ofShakes 138 = .ok (.lstore 10, 2) := by decide +kernel
theorem dX3_ofShakes_140 : decode cX3_ofShakes 140 = .ok (.iinc 13 1, 3) := by decide +kernel
theorem dX3_ofShakes_143 : decode cX3_ofShakes 143 = .ok (.goto (-80), 3) := by decide +kernel
theorem dX3_ofShakes_146 : decode cX3_ofShakes 146 = .ok (.iinc 12 1, 3) := by decide +kernel
theorem dX3_ofShakes_149 : decode cX3_ofShakes 149 = .ok (.goto (-115), 3) := by decide +kernel
theorem dX3_ofShakes_152 : decode cX3_ofShakes 152 = .ok (.ldc2_w 25, 3) := by decide +kernel
theorem dX3_ofShakes_155 : decode cX3_ofShakes 155 = .ok (.lload 10, 2) := by decide +kernel
theorem dX3_ofShakes_157 : decode cX3_ofShakes 157 = .ok (.lsub, 1) := by decide +kernel
theorem dX3_ofShakes_158 : decode cX3_ofShakes 158 = .ok (.l2i, 1) := by decide +kernel
theorem dX3_ofShakes_159 : decode cX3_ofShakes 159 = .ok (.ireturn, 1) := by decide +kernel
theorem dX3_chanceOfMain_0 : decode cX3_chanceOfMain 0 = .ok (.aload_n 0, 1) := by decide +kernel
theorem dX3_chanceOfMain_1 : decode cX3_chanceOfMain 1 = .ok (.getfield 9, 3) := by decide +kernel
theorem dX3_chanceOfMain_4 : decode cX3_chanceOfMain 4 = .ok (.iconst 0, 1) := by decide +kernel
theorem dX3_chanceOfMain_5 : decode cX3_chanceOfMain 5 = .ok (.invokevirtual 40, 3) := by decide +kernel
theorem dX3_chanceOfMain_8 : decode cX3_chanceOfMain 8 = .ok (.sipush 1000, 3) := by decide +kernel
theorem dX3_chanceOfMain_11 : decode cX3_chanceOfMain 11 = .ok (.imul, 1) := by decide +kernel
theorem dX3_chanceOfMain_12 : decode cX3_chanceOfMain 12 = .ok (.iload_n 1, 1) := by decide +kernel
theorem dX3_chanceOfMain_13 : decode cX3_chanceOfMain 13 = .ok (.iload_n 2, 1) := by decide +kernel
theorem dX3_chanceOfMain_14 : decode cX3_chanceOfMain 14 = .ok (.invokestatic 47, 3) := by decide +kernel
theorem dX3_chanceOfMain_17 : decode cX3_chanceOfMain 17 = .ok (.imul, 1) := by decide +kernel
theorem dX3_chanceOfMain_18 : decode cX3_chanceOfMain 18 = .ok (.bipush 64, 2) := by decide +kernel
theorem dX3_chanceOfMain_20 : decode cX3_chanceOfMain 20 = .ok (.idiv, 1) := by decide +kernel
theorem dX3_chanceOfMain_21 : decode cX3_chanceOfMain 21 = .ok (.i2l, 1) := by decide +kernel
theorem dX3_chanceOfMain_22 : decode cX3_chanceOfMain 22 = .ok (.lstore 4, 2) := by decide +kernel
theorem dX3_chanceOfMain_24 : decode cX3_chanceOfMain 24 = .ok (.lload 4, 2) := by decide +kernel
theorem dX3_chanceOfMain_26 : decode cX3_chanceOfMain 26 = .ok (.iload_n 3, 1) := by decide +kernel
theorem dX3_chanceOfMain_27 : decode cX3_chanceOfMain 27 = .ok (.i2l, 1) := by decide +kernel
theorem dX3_chanceOfMain_28 : decode cX3_chanceOfMain 28 = .ok (.lmul, 1) := by decide +kernel
theorem dX3_chanceOfMain_29 : decode cX3_chanceOfMain 29 = .ok (.ldc2_w 25, 3) := by decide +kernel
theorem dX3_chanceOfMain_32 : decode cX3_chanceOfMain 32 = .ok (.ldiv, 1) := by decide +kernel
theorem dX3_chanceOfMain_33 : decode cX3_chanceOfMain 33 = .ok (.lreturn, 1) := by decide +kernel
theorem dX3_chanceBehind_0 : decode cX3_chanceBehind 0 = .ok (.aload_n 0, 1) := by decide +kernel
theorem dX3_chanceBehind_1 : decode cX3_chanceBehind 1 = .ok (.getfield 15, 3) := by decide +kernel
theorem dX3_chanceBehind_4 : decode cX3_chanceBehind 4 = .ok (.iload_n 1, 1) := by decide +kernel
theorem dX3_chanceBehind_5 : decode cX3_chanceBehind 5 = .ok (.invokevirtual 51, 3) := by decide +kernel
theorem dX3_chanceBehind_8 : decode cX3_chanceBehind 8 = .ok (.istore 6, 2) := by decide +kernel
theorem dX3_chanceBehind_10 : decode cX3_chanceBehind 10 = .ok (.aload_n 0, 1) := by decide +kernel
theorem dX3_chanceBehind_11 : decode cX3_chanceBehind 11 = .ok (.getfield 9, 3) := by decide +kernel
theorem dX3_chanceBehind_14 : decode cX3_chanceBehind 14 = .ok (.iconst 4, 1) := by decide +kernel
theorem dX3_chanceBehind_15 : decode cX3_chanceBehind 15 = .ok (.invokevirtual 40, 3) := by decide +kernel
theorem dX3_chanceBehind_18 : decode cX3_chanceBehind 18 = .ok (.istore 7, 2) := by decide +kernel
theorem dX3_chanceBehind_20 : decode cX3_chanceBehind 20 = .ok (.iload 6, 2) := by decide +kernel
theorem dX3_chanceBehind_22 : decode cX3_chanceBehind 22 = .ok (.iload 7, 2) := by decide +kernel
theorem dX3_chanceBehind_24 : decode cX3_chanceBehind 24 = .ok (.invokestatic 47, 3) := by decide +kernel
theorem dX3_chanceBehind_27 : decode cX3_chanceBehind 27 = .ok (.istore 8, 2) := by decide +kernel
theorem dX3_chanceBehind_29 : decode cX3_chanceBehind 29 = .ok (.iload_n 2, 1) := by decide +kernel
theorem dX3_chanceBehind_30 : decode cX3_chanceBehind 30 = .ok (.iconst 1, 1) := by decide +kernel
theorem dX3_chanceBehind_31 : decode cX3_chanceBehind 31 = .ok (.if_icmp .lt 9, 3) := by decide +kernel
theorem dX3_chanceBehind_34 : decode cX3_chanceBehind 34 = .ok (.iload 8, 2) := by decide +kernel
theorem dX3_chanceBehind_36 : decode cX3_chanceBehind 36 = .ok (.iconst 1, 1) := by decide +kernel
theorem dX3_chanceBehind_37 : decode cX3_chanceBehind 37 = .ok (.if_icmp .ge 5, 3) := by decide +kernel
theorem dX3_chanceBehind_40 : decode cX3_chanceBehind 40 = .ok (.lconst 0, 1) := by decide +kernel
theorem dX3_chanceBehind_41 : decode cX3_chanceBehind 41 = .ok (.lreturn, 1) := by decide +kernel
theorem dX3_chanceBehind_42 : decode cX3_chanceBehind 42 = .ok (.sipush 1000, 3) := by decide +kernel
theorem dX3_chanceBehind_45 : decode cX3_chanceBehind 45 = .ok (.aload_n 0, 1) := by decide +kernel
theorem dX3_chanceBehind_46 : decode cX3_chanceBehind 46 = .ok (.getfield 9, 3) := by decide +kernel
theorem dX3_chanceBehind_49 : decode cX3_chanceBehind 49 = .ok (.iconst 2, 1) := by decide +kernel
theorem dX3_chanceBehind_50 : decode cX3_chanceBehind 50 = .ok (.invokevirtual 40, 3) := by decide +kernel
theorem dX3_chanceBehind_53 : decode cX3_chanceBehind 53 = .ok (.aload_n 0, 1) := by decide +kernel
theorem dX3_chanceBehind_54 : decode cX3_chanceBehind 54 = .ok (.getfield 15, 3) := by decide +kernel
theorem dX3_chanceBehind_57 : decode cX3_chanceBehind 57 = .ok (.iload_n 1, 1) := by decide +kernel
theorem dX3_chanceBehind_58 : decode cX3_chanceBehind 58 = .ok (.invokevirtual 54, 3) := by decide +kernel
theorem dX3_chanceBehind_61 : decode cX3_chanceBehind 61 = .ok (.imul, 1) := by decide +kernel
theorem dX3_chanceBehind_62 : decode cX3_chanceBehind 62 = .ok (.iload_n 2, 1) := by decide +kernel
theorem dX3_chanceBehind_63 : decode cX3_chanceBehind 63 = .ok (.idiv, 1) := by decide +kernel
theorem dX3_chanceBehind_64 : decode cX3_chanceBehind 64 = .ok (.invokestatic 57, 3) := by decide +kernel
theorem dX3_chanceBehind_67 : decode cX3_chanceBehind 67 = .ok (.i2l, 1) := by decide +kernel
theorem dX3_chanceBehind_68 : decode cX3_chanceBehind 68 = .ok (.lstore 9, 2) := by decide +kernel
theorem dX3_chanceBehind_70 : decode cX3_chanceBehind 70 = .ok (.lload 9, 2) := by decide +kernel
theorem dX3_chanceBehind_72 : decode cX3_chanceBehind 72 = .ok (.ldc2_w 62, 3) := by decide +kernel
theorem dX3_chanceBehind_75 : decode cX3_chanceBehind 75 = .ok (.lmul, 1) := by decide +kernel
theorem dX3_chanceBehind_76 : decode cX3_chanceBehind 76 = .ok (.iload 6, 2) := by decide +kernel
theorem dX3_chanceBehind_78 : decode cX3_chanceBehind 78 = .ok (.iload 7, 2) := by decide +kernel
theorem dX3_chanceBehind_80 : decode cX3_chanceBehind 80 = .ok (.iload_n 3, 1) := by decide +kernel
theorem dX3_chanceBehind_81 : decode cX3_chanceBehind 81 = .ok (.iload 4, 2) := by decide +kernel
theorem dX3_chanceBehind_83 : decode cX3_chanceBehind 83 = .ok (.invokestatic 64, 3) := by decide +kernel
theorem dX3_chanceBehind_86 : decode cX3_chanceBehind 86 = .ok (.i2l, 1) := by decide +kernel
theorem dX3_chanceBehind_87 : decode cX3_chanceBehind 87 = .ok (.lmul, 1) := by decide +kernel
theorem dX3_chanceBehind_88 : decode cX3_chanceBehind 88 = .ok (.iload 8, 2) := by decide +kernel
theorem dX3_chanceBehind_90 : decode cX3_chanceBehind 90 = .ok (.i2l, 1) := by decide +kernel
theorem dX3_chanceBehind_91 : decode cX3_chanceBehind 91 = .ok (.ldiv, 1) := by decide +kernel
theorem dX3_chanceBehind_92 : decode cX3_chanceBehind 92 = .ok (.lstore 11, 2) := by decide +kernel
theorem dX3_chanceBehind_94 : decode cX3_chanceBehind 94 = .ok (.lload 11, 2) := by decide +kernel
theorem dX3_chanceBehind_96 : decode cX3_chanceBehind 96 = .ok (.iload 5, 2) := by decide +kernel
theorem dX3_chanceBehind_98 : decode cX3_chanceBehind 98 = .ok (.i2l, 1) := by decide +kernel
theorem dX3_chanceBehind_99 : decode cX3_chanceBehind 99 = .ok (.lmul, 1) := by decide +kernel
theorem dX3_chanceBehind_100 : decode cX3_chanceBehind 100 = .ok (.ldc2_w 25, 3) := by decide +kernel
theorem dX3_chanceBehind_103 : decode cX3_chanceBehind 103 = .ok (.ldiv, 1) := by decide +kernel
theorem dX3_chanceBehind_104 : decode cX3_chanceBehind 104 = .ok (.lreturn, 1) := by decide +kernel
theorem dX4_init_0 : decode cX4_init 0 = .ok (.aload_n 0, 1) := by decide +kernel
theorem dX4_init_1 : decode cX4_init 1 = .ok (.invokespecial 3, 3) := by decide +kernel
theorem dX4_init_4 : decode cX4_init 4 = .ok (.aload_n 0, 1) := by decide +kernel
theorem dX4_init_5 : decode cX4_init 5 = .ok (.new 9, 3) := by decide +kernel
theorem dX4_init_8 : decode cX4_init 8 = .ok (.dup, 1) := by decide +kernel
theorem dX4_init_9 : decode cX4_init 9 = .ok (.invokespecial 11, 3) := by decide +kernel
theorem dX4_init_12 : decode cX4_init 12 = .ok (.putfield 12, 3) := by decide +kernel
theorem dX4_init_15 : decode cX4_init 15 = .ok (.aload_n 0, 1) := by decide +kernel
theorem dX4_init_16 : decode cX4_init 16 = .ok (.new 9, 3) := by decide +kernel
theorem dX4_init_19 : decode cX4_init 19 = .ok (.dup, 1) := by decide +kernel
theorem dX4_init_20 : decode cX4_init 20 = .ok (.invokespecial 11, 3) := by decide +kernel
theorem dX4_init_23 : decode cX4_init 23 = .ok (.putfield 18, 3) := by decide +kernel
theorem dX4_init_26 : decode cX4_init 26 = .ok (.aload_n 0, 1) := by decide +kernel
theorem dX4_init_27 : decode cX4_init 27 = .ok (.iconst 2, 1) := by decide +kernel
theorem dX4_init_28 : decode cX4_init 28 = .ok (.newarray .boolean, 2) := by decide +kernel
theorem dX4_init_30 : decode cX4_init 30 = .ok (.putfield 21, 3) := by decide +kernel
theorem dX4_init_33 : decode cX4_init 33 = .ok (.return_, 1) := by decide +kernel
theorem dX4_has_0 : decode cX4_has 0 = .ok (.iload_n 1, 1) := by decide +kernel
theorem dX4_has_1 : decode cX4_has 1 = .ok (.iconst 0, 1) := by decide +kernel
theorem dX4_has_2 : decode cX4_has 2 = .ok (.aload_n 0, 1) := by decide +kernel
theorem dX4_has_3 : decode cX4_has 3 = .ok (.getfield 21, 3) := by decide +kernel
theorem dX4_has_6 : decode cX4_has 6 = .ok (.arraylength, 1) := by decide +kernel
theorem dX4_has_7 : decode cX4_has 7 = .ok (.iconst 1, 1) := by decide +kernel
theorem dX4_has_8 : decode cX4_has 8 = .ok (.isub, 1) := by decide +kernel
theorem dX4_has_9 : decode cX4_has 9 = .ok (.invokestatic 25, 3) := by decide +kernel
theorem dX4_has_12 : decode cX4_has 12 = .ok (.ireturn, 1) := by decide +kernel
theorem dX4_isKept_0 : decode cX4_isKept 0 = .ok (.aload_n 0, 1) := by decide +kernel
theorem dX4_isKept_1 : decode cX4_isKept 1 = .ok (.iload_n 1, 1) := by decide +kernel
theorem dX4_isKept_2 : decode cX4_isKept 2 = .ok (.invokevirtual 29, 3) := by decide +kernel
theorem dX4_isKept_5 : decode cX4_isKept 5 = .ok (.ifCond .eq 16, 3) := by decide +kernel
theorem dX4_isKept_8 : decode cX4_isKept 8 = .ok (.aload_n 0, 1) := by decide +kernel
theorem dX4_isKept_9 : decode cX4_isKept 9 = .ok (.getfield 21, 3) := by decide +kernel
theorem dX4_isKept_12 : decode cX4_isKept 12 = .ok (.iload_n 1, 1) := by decide +kernel
theorem dX4_isKept_13 : decode cX4_isKept 13 = .ok (.baload, 1) := by decide +kernel
theorem dX4_isKept_14 : decode cX4_isKept 14 = .ok (.ifCond .eq 7, 3) := by decide +kernel
theorem dX4_isKept_17 : decode cX4_isKept 17 = .ok (.iconst 1, 1) := by decide +kernel
theorem dX4_isKept_18 : decode cX4_isKept 18 = .ok (.goto 4, 3) := by decide +kernel
theorem dX4_isKept_21 : decode cX4_isKept 21 = .ok (.iconst 0, 1) := by decide +kernel
theorem dX4_isKept_22 : decode cX4_isKept 22 = .ok (.ireturn, 1) := by decide +kernel
theorem dX4_keepImage_0 : decode cX4_keepImage 0 = .ok (.aload_n 0, 1) := by decide +kernel
theorem dX4_keepImage_1 : decode cX4_keepImage 1 = .ok (.iload_n 1, 1) := by decide +kernel
theorem dX4_keepImage_2 : decode cX4_keepImage 2 = .ok (.invokevirtual 29, 3) := by decide +kernel
theorem dX4_keepImage_5 : decode cX4_keepImage 5 = .ok (.ifCond .ne 5, 3) := by decide +kernel
theorem dX4_keepImage_8 : decode cX4_keepImage 8 = .ok (.iconst (-1), 1) := by decide +kernel
theorem dX4_keepImage_9 : decode cX4_keepImage 9 = .ok (.ireturn, 1) := by decide +kernel
theorem dX4_keepImage_10 : decode cX4_keepImage 10 = .ok (.aload_n 0, 1) := by decide +kernel
theorem dX4_keepImage_11 : decode cX4_keepImage 11 = .ok (.iload_n 1, 1) := by decide +kernel
theorem dX4_keepImage_12 : decode cX4_keepImage 12 = .ok (.invokevirtual 33, 3) := by decide +kernel
theorem dX4_keepImage_15 : decode cX4_keepImage 15 = .ok (.aload_n 2, 1) := by decide +kernel
theorem dX4_keepImage_16 : decode cX4_keepImage 16 = .ok (.invokevirtual 37, 3) := by decide +kernel
theorem dX4_keepImage_19 : decode cX4_keepImage 19 = .ok (.aload_n 0, 1) := by decide +kernel
theorem dX4_keepImage_20 : decode cX4_keepImage 20 = .ok (.getfield 21, 3) := by decide +kernel
theorem dX4_keepImage_23 : decode cX4_keepImage 23 = .ok (.iload_n 1, 1) := by decide +kernel
theorem dX4_keepImage_24 : decode cX4_keepImage 24 = .ok (.iconst 1, 1) := by decide +kernel
theorem dX4_keepImage_25 : decode cX4_keepImage 25 = .ok (.bastore, 1) := by decide +kernel
theorem dX4_keepImage_26 : decode cX4_keepImage 26 = .ok (.iconst 1, 1) := by decide +kernel
theorem dX4_keepImage_27 : decode cX4_keepImage 27 = .ok (.ireturn, 1) := by decide +kernel
theorem dX4_bringBack_0 : decode cX4_bringBack 0 = .ok (.aload_n 2, 1) := by decide +kernel
theorem dX4_bringBack_1 : decode cX4_bringBack 1 = .ok (.aload_n 0, 1) := by decide +kernel
theorem dX4_bringBack_2 : decode cX4_bringBack 2 = .ok (.iload_n 1, 1) := by decide +kernel
theorem dX4_bringBack_3 : decode cX4_bringBack 3 = .ok (.invokevirtual 33, 3) := by decide +kernel
theorem dX4_bringBack_6 : decode cX4_bringBack 6 = .ok (.invokevirtual 37, 3) := by decide +kernel
theorem dX4_bringBack_9 : decode cX4_bringBack 9 = .ok (.iconst 1, 1) := by decide +kernel
theorem dX4_bringBack_10 : decode cX4_bringBack 10 = .ok (.ireturn, 1) := by decide +kernel
theorem dX4_imageOf_0 : decode cX4_imageOf 0 = .ok (.iload_n 1, 1) := by decide +kernel
theorem dX4_imageOf_1 : decode cX4_imageOf 1 = .ok (.ifCond .ne 10, 3) := by decide +kernel
theorem dX4_imageOf_4 : decode cX4_imageOf 4 = .ok (.aload_n 0, 1) := by decide +kernel
theorem dX4_imageOf_5 : decode cX4_imageOf 5 = .ok (.getfield 12, 3) := by decide +kernel
theorem dX4_imageOf_8 : decode cX4_imageOf 8 = .ok (.goto 7, 3) := by decide +kernel
theorem dX4_imageOf_11 : decode cX4_imageOf 11 = .ok (.aload_n 0, 1) := by decide +kernel
theorem dX4_imageOf_12 : decode cX4_imageOf 12 = .ok (.getfield 18, 3) := by decide +kernel
theorem dX4_imageOf_15 : decode cX4_imageOf 15 = .ok (.areturn, 1) := by decide +kernel
theorem dX5_init_0 : decode cX5_init 0 = .ok (.aload_n 0, 1) := by decide +kernel
theorem dX5_init_1 : decode cX5_init 1 = .ok (.invokespecial 3, 3) := by decide +kernel
theorem dX5_init_4 : decode cX5_init 4 = .ok (.aload_n 0, 1) := by decide +kernel
theorem dX5_init_5 : decode cX5_init 5 = .ok (.getstatic 9, 3) := by decide +kernel
theorem dX5_init_8 : decode cX5_init 8 = .ok (.invokevirtual 13, 3) := by decide +kernel
theorem dX5_init_11 : decode cX5_init 11 = .ok (.checkcast 14, 3) := by decide +kernel
theorem dX5_init_14 : decode cX5_init 14 = .ok (.putfield 18, 3) := by decide +kernel
theorem dX5_init_17 : decode cX5_init 17 = .ok (.return_, 1) := by decide +kernel
theorem dX5_value_0 : decode cX5_value 0 = .ok (.iload_n 1, 1) := by decide +kernel
theorem dX5_value_1 : decode cX5_value 1 = .ok (.iconst 0, 1) := by decide +kernel
theorem dX5_value_2 : decode cX5_value 2 = .ok (.aload_n 0, 1) := by decide +kernel
theorem dX5_value_3 : decode cX5_value 3 = .ok (.getfield 18, 3) := by decide +kernel
theorem dX5_value_6 : decode cX5_value 6 = .ok (.arraylength, 1) := by decide +kernel
theorem dX5_value_7 : decode cX5_value 7 = .ok (.iconst 1, 1) := by decide +kernel
theorem dX5_value_8 : decode cX5_value 8 = .ok (.isub, 1) := by decide +kernel
theorem dX5_value_9 : decode cX5_value 9 = .ok (.invokestatic 23, 3) := by decide +kernel
theorem dX5_value_12 : decode cX5_value 12 = .ok (.ifCond .eq 12, 3) := by decide +kernel
theorem dX5_value_15 : decode cX5_value 15 = .ok (.aload_n 0, 1) := by decide +kernel
theorem dX5_value_16 : decode cX5_value 16 = .ok (.getfield 18, 3) := by decide +kernel
theorem dX5_value_19 : decode cX5_value 19 = .ok (.iload_n 1, 1) := by decide +kernel
theorem dX5_value_20 : decode cX5_value 20 = .ok (.iaload, 1) := by decide +kernel
theorem dX5_value_21 : decode cX5_value 21 = .ok (.goto 4, 3) := by decide +kernel
theorem dX5_value_24 : decode cX5_value 24 = .ok (.iconst (-1), 1) := by decide +kernel
theorem dX5_value_25 : decode cX5_value 25 = .ok (.ireturn, 1) := by decide +kernel
theorem dX5_become_0 : decode cX5_become 0 = .ok (.aload_n 1, 1) := by decide +kernel
theorem dX5_become_1 : decode cX5_become 1 = .ok (.iconst 0, 1) := by decide +kernel
theorem dX5_become_2 : decode cX5_become 2 = .ok (.aload_n 0, 1) := by decide +kernel
theorem dX5_become_3 : decode cX5_become 3 = .ok (.getfield 18, 3) := by decide +kernel
theorem dX5_become_6 : decode cX5_become 6 = .ok (.iconst 0, 1) := by decide +kernel
theorem dX5_become_7 : decode cX5_become 7 = .ok (.aload_n 1, 1) := by decide +kernel
theorem dX5_become_8 : decode cX5_become 8 = .ok (.arraylength, 1) := by decide +kernel
theorem dX5_become_9 : decode cX5_become 9 = .ok (.aload_n 0, 1) := by decide +kernel
theorem dX5_become_10 : decode cX5_become 10 = .ok (.getfield 18, 3) := by decide +kernel
theorem dX5_become_13 : decode cX5_become 13 = .ok (.arraylength, 1) := by decide +kernel
theorem dX5_become_14 : decode cX5_become 14 = .ok (.invokestatic 27, 3) := by decide +kernel
theorem dX5_become_17 : decode cX5_become 17 = .ok (.invokestatic 33, 3) := by decide +kernel
theorem dX5_become_20 : decode cX5_become 20 = .ok (.return_, 1) := by decide +kernel
theorem dX5_shareFrom_0 : decode cX5_shareFrom 0 = .ok (.ldc 39, 2) := by decide +kernel
theorem dX5_shareFrom_2 : decode cX5_shareFrom 2 = .ok (.istore_n 2, 1) := by decide +kernel
theorem dX5_shareFrom_3 : decode cX5_shareFrom 3 = .ok (.iconst 1, 1) := by decide +kernel
theorem dX5_shareFrom_4 : decode cX5_shareFrom 4 = .ok (.istore_n 3, 1) := by decide +kernel
theorem dX5_shareFrom_5 : decode cX5_shareFrom 5 = .ok (.iload_n 3, 1) := by decide +kernel
theorem dX5_shareFrom_6 : decode cX5_shareFrom 6 = .ok (.iload_n 1, 1) := by decide +kernel
theorem dX5_shareFrom_7 : decode cX5_shareFrom 7 = .ok (.if_icmp .ge 26, 3) := by decide +kernel
theorem dX5_shareFrom_10 : decode cX5_shareFrom 10 = .ok (.iload_n 3, 1) := by decide +kernel
theorem dX5_shareFrom_11 : decode cX5_shareFrom 11 = .ok (.bipush 9, 2) := by decide +kernel
theorem dX5_shareFrom_13 : decode cX5_shareFrom 13 = .ok (.if_icmp .ge 20, 3) := by decide +kernel
theorem dX5_shareFrom_16 : decode cX5_shareFrom 16 = .ok (.iload_n 2, 1) := by decide +kernel
theorem dX5_shareFrom_17 : decode cX5_shareFrom 17 = .ok (.aload_n 0, 1) := by decide +kernel
theorem dX5_shareFrom_18 : decode cX5_shareFrom 18 = .ok (.iconst 1, 1) := by decide +kernel
theorem dX5_shareFrom_19 : decode cX5_shareFrom 19 = .ok (.invokevirtual 40, 3) := by decide +kernel
theorem dX5_shareFrom_22 : decode cX5_shareFrom 22 = .ok (.imul, 1) := by decide +kernel
theorem dX5_shareFrom_23 : decode cX5_shareFrom 23 = .ok (.bipush 100, 2) := by decide +kernel
theorem dX5_shareFrom_25 : decode cX5_shareFrom 25 = .ok (.idiv, 1) := by decide +kernel
theorem dX5_shareFrom_26 : decode cX5_shareFrom 26 = .ok (.istore_n 2, 1) := by decide +kernel
theorem dX5_shareFrom_27 : decode cX5_shareFrom 27 = .ok (.iinc 3 1, 3) := by decide +kernel
theorem dX5_shareFrom_30 : decode cX5_shareFrom 30 = .ok (.goto (-25), 3) := by decide +kernel
theorem dX5_shareFrom_33 : decode cX5_shareFrom 33 = .ok (.iload_n 2, 1) := by decide +kernel
theorem dX5_shareFrom_34 : decode cX5_shareFrom 34 = .ok (.ireturn, 1) := by decide +kernel
theorem dX5_isMoonOn_0 : decode cX5_isMoonOn 0 = .ok (.aload_n 0, 1) := by decide +kernel
theorem dX5_isMoonOn_1 : decode cX5_isMoonOn 1 = .ok (.iconst 5, 1) := by decide +kernel
theorem dX5_isMoonOn_2 : decode cX5_isMoonOn 2 = .ok (.invokevirtual 40, 3) := by decide +kernel
theorem dX5_isMoonOn_5 : decode cX5_isMoonOn 5 = .ok (.istore_n 2, 1) := by decide +kernel
theorem dX5_isMoonOn_6 : decode cX5_isMoonOn 6 = .ok (.aload_n 0, 1) := by decide +kernel
theorem dX5_isMoonOn_7 : decode cX5_isMoonOn 7 = .ok (.bipush 6, 2) := by decide +kernel
theorem dX5_isMoonOn_9 : decode cX5_isMoonOn 9 = .ok (.invokevirtual 40, 3) := by decide +kernel
theorem dX5_isMoonOn_12 : decode cX5_isMoonOn 12 = .ok (.istore_n 3, 1) := by decide +kernel
theorem dX5_isMoonOn_13 : decode cX5_isMoonOn 13 = .ok (.iload_n 2, 1) := by decide +kernel
theorem dX5_isMoonOn_14 : decode cX5_isMoonOn 14 = .ok (.iconst (-1), 1) := by decide +kernel
theorem dX5_isMoonOn_15 : decode cX5_isMoonOn 15 = .ok (.if_icmp .ne 5, 3) := by decide +kernel
theorem dX5_isMoonOn_18 : decode cX5_isMoonOn 18 = .ok (.iconst 0, 1) := by decide +kernel
theorem dX5_isMoonOn_19 : decode cX5_isMoonOn 19 = .ok (.ireturn, 1) := by decide +kernel
theorem dX5_isMoonOn_20 : decode cX5_isMoonOn 20 = .ok (.iload_n 1, 1) := by decide +kernel
theorem dX5_isMoonOn_21 : decode cX5_isMoonOn 21 = .ok (.bipush 28, 2) := by decide +kernel
theorem dX5_isMoonOn_23 : decode cX5_isMoonOn 23 = .ok (.irem, 1) := by decide +kernel
theorem dX5_isMoonOn_24 : decode cX5_isMoonOn 24 = .ok (.istore 4, 2) := by decide +kernel
theorem dX5_isMoonOn_26 : decode cX5_isMoonOn 26 = .ok (.iload_n 2, 1) := by decide +kernel
theorem dX5_isMoonOn_27 : decode cX5_isMoonOn 27 = .ok (.iload_n 3, 1) := by decide +kernel
theorem dX5_isMoonOn_28 : decode cX5_isMoonOn 28 = .ok (.if_icmp .gt 23, 3) := by decide +kernel
theorem dX5_isMoonOn_31 : decode cX5_isMoonOn 31 = .ok (.iload_n 2, 1) := by decide +kernel
theorem dX5_isMoonOn_32 : decode cX5_isMoonOn 32 = .ok (.iload 4, 2) := by decide +kernel
theorem dX5_isMoonOn_34 : decode cX5_isMoonOn 34 = .ok (.if_icmp .gt 13, 3) := by decide +kernel
theorem dX5_isMoonOn_37 : decode cX5_isMoonOn 37 = .ok (.iload 4, 2) := by decide +kernel
theorem dX5_isMoonOn_39 : decode cX5_isMoonOn 39 = .ok (.iload_n 3, 1) := by decide +kernel
theorem dX5_isMoonOn_40 : decode cX5_isMoonOn 40 = .ok (.if_icmp .gt 7, 3) := by decide +kernel
theorem dX5_isMoonOn_43 : decode cX5_isMoonOn 43 = .ok (.iconst 1, 1) := by decide +kernel
theorem dX5_isMoonOn_44 : decode cX5_isMoonOn 44 = .ok (.goto 24, 3) := by decide +kernel
theorem dX5_isMoonOn_47 : decode cX5_isMoonOn 47 = .ok (.iconst 0, 1) := by decide +kernel
theorem dX5_isMoonOn_48 : decode cX5_isMoonOn 48 = .ok (.goto 20, 3) := by decide +kernel
theorem dX5_isMoonOn_51 : decode cX5_isMoonOn 51 = .ok (.iload_n 2, 1) := by decide +kernel
theorem dX5_isMoonOn_52 : decode cX5_isMoonOn 52 = .ok (.iload 4, 2) := by decide +kernel
theorem dX5_isMoonOn_54 : decode cX5_isMoonOn 54 = .ok (.if_icmp .le 9, 3) := by decide +kernel
theorem dX5_isMoonOn_57 : decode cX5_isMoonOn 57 = .ok (.iload 4, 2) := by decide +kernel
theorem dX5_isMoonOn_59 : decode cX5_isMoonOn 59 = .ok (.iload_n 3, 1) := by decide +kernel
theorem dX5_isMoonOn_60 : decode cX5_isMoonOn 60 = .ok (.if_icmp .gt 7, 3) := by decide +kernel
theorem dX5_isMoonOn_63 : decode cX5_isMoonOn 63 = .ok (.iconst 1, 1) := by decide +kernel
theorem dX5_isMoonOn_64 : decode cX5_isMoonOn 64 = .ok (.goto 4, 3) := by decide +kernel
theorem dX5_isMoonOn_67 : decode cX5_isMoonOn 67 = .ok (.iconst 0, 1) := by decide +kernel
theorem dX5_isMoonOn_68 : decode cX5_isMoonOn 68 = .ok (.ireturn, 1) := by decide +kernel
theorem dX6_init_0 : decode cX6_init 0 = .ok (.aload_n 0, 1) := by decide +kernel
theorem dX6_init_1 : decode cX6_init 1 = .ok (.invokespecial 3, 3) := by decide +kernel
theorem dX6_init_4 : decode cX6_init 4 = .ok (.aload_n 0, 1) := by decide +kernel
theorem dX6_init_5 : decode cX6_init 5 = .ok (.sipush 160, 3) := by decide +kernel
theorem dX6_init_8 : decode cX6_init 8 = .ok (.newarray .int, 2) := by decide +kernel
theorem dX6_init_10 : decode cX6_init 10 = .ok (.putfield 9, 3) := by decide +kernel
theorem dX6_init_13 : decode cX6_init 13 = .ok (.aload_n 0, 1) := by decide +kernel
theorem dX6_init_14 : decode cX6_init 14 = .ok (.bipush 8, 2) := by decide +kernel
theorem dX6_init_16 : decode cX6_init 16 = .ok (.newarray .int, 2) := by decide +kernel
theorem dX6_init_18 : decode cX6_init 18 = .ok (.putfield 15, 3) := by decide +kernel
theorem dX6_init_21 : decode cX6_init 21 = .ok (.aload_n 0, 1) := by decide +kernel
theorem dX6_init_22 : decode cX6_init 22 = .ok (.bipush 7, 2) := by decide +kernel
theorem dX6_init_24 : decode cX6_init 24 = .ok (.newarray .boolean, 2) := by decide +kernel
theorem dX6_init_26 : decode cX6_init 26 = .ok (.putfield 18, 3) := by decide +kernel
theorem dX6_init_29 : decode cX6_init 29 = .ok (.aload_n 0, 1) := by decide +kernel
theorem dX6_init_30 : decode cX6_init 30 = .ok (.iconst 0, 1) := by decide +kernel
theorem dX6_init_31 : decode cX6_init 31 = .ok (.putfield 22, 3) := by decide +kernel
theorem dX6_init_34 : decode cX6_init 34 = .ok (.aload_n 0, 1) := by decide +kernel
theorem dX6_init_35 : decode cX6_init 35 = .ok (.iconst 0, 1) := by decide +kernel
theorem dX6_init_36 : decode cX6_init 36 = .ok (.putfield 26, 3) := by decide +kernel
theorem dX6_init_39 : decode cX6_init 39 = .ok (.aload_n 0, 1) := by decide +kernel
theorem dX6_init_40 : decode cX6_init 40 = .ok (.iconst 0, 1) := by decide +kernel
theorem dX6_init_41 : decode cX6_init 41 = .ok (.putfield 29, 3) := by decide +kernel
theorem dX6_init_44 : decode cX6_init 44 = .ok (.aload_n 0, 1) := by decide +kernel
theorem dX6_init_45 : decode cX6_init 45 = .ok (.iconst 0, 1) := by decide +kernel
theorem dX6_init_46 : decode cX6_init 46 = .ok (.putfield 32, 3) := by decide +kernel
theorem dX6_init_49 : decode cX6_init 49 = .ok (.aload_n 0, 1) := by decide +kernel
theorem dX6_init_50 : decode cX6_init 50 = .ok (.iconst (-1), 1) := by decide +kernel
theorem dX6_init_51 : decode cX6_init 51 = .ok (.putfield 35, 3) := by decide +kernel
theorem dX6_init_54 : decode cX6_init 54 = .ok (.return_, 1) := by decide +kernel
theorem dX6_size_0 : decode cX6_size 0 = .ok (.aload_n 0, 1) := by decide +kernel
theorem dX6_size_1 : decode cX6_size 1 = .ok (.getfield 22, 3) := by decide +kernel
theorem dX6_size_4 : decode cX6_size 4 = .ok (.ireturn, 1) := by decide +kernel
theorem dX6_placeOfFault_0 : decode cX6_placeOfFault 0 = .ok (.aload_n 0, 1) := by decide +kernel
theorem dX6_placeOfFault_1 : decode cX6_placeOfFault 1 = .ok (.getfield 35, 3) := by decide +kernel
theorem dX6_placeOfFault_4 : decode cX6_placeOfFault 4 = .ok (.ireturn, 1) := by decide +kernel
theorem dX6_hasRoomFor_0 : decode cX6_hasRoomFor 0 = .ok (.iload_n 1, 1) := by decide +kernel
theorem dX6_hasRoomFor_1 : decode cX6_hasRoomFor 1 = .ok (.sipush 160, 3) := by decide +kernel
theorem dX6_hasRoomFor_4 : decode cX6_hasRoomFor 4 = .ok (.aload_n 0, 1) := by decide +kernel
theorem dX6_hasRoomFor_5 : decode cX6_hasRoomFor 5 = .ok (.getfield 22, 3) := by decide +kernel
theorem dX6_hasRoomFor_8 : decode cX6_hasRoomFor 8 = .ok (.isub, 1) := by decide +kernel
theorem dX6_hasRoomFor_9 : decode cX6_hasRoomFor 9 = .ok (.if_icmp .gt 7, 3) := by decide +kernel
theorem dX6_hasRoomFor_12 : decode cX6_hasRoomFor 12 = .ok (.iconst 1, 1) := by decide +kernel
theorem dX6_hasRoomFor_13 : decode cX6_hasRoomFor 13 = .ok (.goto 4, 3) := by decide +kernel
theorem dX6_hasRoomFor_16 : decode cX6_hasRoomFor 16 = .ok (.iconst 0, 1) := by decide +kernel
theorem dX6_hasRoomFor_17 : decode cX6_hasRoomFor 17 = .ok (.ireturn, 1) := by decide +kernel
theorem dX6_append_0 : decode cX6_append 0 = .ok (.iload_n 1, 1) := by decide +kernel
theorem dX6_append_1 : decode cX6_append 1 = .ok (.iconst 1, 1) := by decide +kernel
theorem dX6_append_2 : decode cX6_append 2 = .ok (.isub, 1) := by decide +kernel
theorem dX6_append_3 : decode cX6_append 3 = .ok (.istore 4, 2) := by decide +kernel
theorem dX6_append_5 : decode cX6_append 5 = .ok (.iload 4, 2) := by decide +kernel
theorem dX6_append_7 : decode cX6_append 7 = .ok (.ifCond .lt 52, 3) := by decide +kernel
theorem dX6_append_10 : decode cX6_append 10 = .ok (.aload_n 0, 1) := by decide +kernel
theorem dX6_append_11 : decode cX6_append 11 = .ok (.getfield 22, 3) := by decide +kernel
theorem dX6_append_14 : decode cX6_append 14 = .ok (.aload_n 0, 1) := by decide +kernel
theorem dX6_append_15 : decode cX6_append 15 = .ok (.getfield 9, 3) := by decide +kernel
theorem dX6_append_18 : decode cX6_append 18 = .ok (.arraylength, 1) := by decide +kernel
theorem dX6_append_19 : decode cX6_append 19 = .ok (.if_icmp .ge 40, 3) := by decide +kernel
theorem dX6_append_22 : decode cX6_append 22 = .ok (.aload_n 0, 1) := by decide +kernel
theorem dX6_append_23 : decode cX6_append 23 = .ok (.getfield 9, 3) := by decide +kernel
theorem dX6_append_26 : decode cX6_append 26 = .ok (.aload_n 0, 1) := by decide +kernel
theorem dX6_append_27 : decode cX6_append 27 = .ok (.getfield 22, 3) := by decide +kernel
theorem dX6_append_30 : decode cX6_append 30 = .ok (.lload_n 2, 1) := by decide +kernel
theorem dX6_append_31 : decode cX6_append 31 = .ok (.bipush 8, 2) := by decide +kernel
theorem dX6_append_33 : decode cX6_append 33 = .ok (.iload 4, 2) := by decide +kernel
theorem dX6_append_35 : decode cX6_append 35 = .ok (.imul, 1) := by decide +kernel
theorem dX6_append_36 : decode cX6_append 36 = .ok (.lushr, 1) := by decide +kernel
theorem dX6_append_37 : decode cX6_append 37 = .ok (.l2i, 1) := by decide +kernel
theorem dX6_append_38 : decode cX6_append 38 = .ok (.sipush 255, 3) := by decide +kernel
theorem dX6_append_41 : decode cX6_append 41 = .ok (.iand, 1) := by decide +kernel
theorem dX6_append_42 : decode cX6_append 42 = .ok (.iastore, 1) := by decide +kernel
theorem dX6_append_43 : decode cX6_append 43 = .ok (.aload_n 0, 1) := by decide +kernel
theorem dX6_append_44 : decode cX6_append 44 = .ok (.dup, 1) := by decide +kernel
theorem dX6_append_45 : decode cX6_append 45 = .ok (.getfield 22, 3) := by decide +kernel
theorem dX6_append_48 : decode cX6_append 48 = .ok (.iconst 1, 1) := by decide +kernel
theorem dX6_append_49 : decode cX6_append 49 = .ok (.iadd, 1) := by decide +kernel
theorem dX6_append_50 : decode cX6_append 50 = .ok (.putfield 22, 3) := by decide +kernel
theorem dX6_append_53 : decode cX6_append 53 = .ok (.iinc 4 (-1), 3) := by decide +kernel
theorem dX6_append_56 : decode cX6_append 56 = .ok (.goto (-51), 3) := by decide +kernel
theorem dX6_append_59 : decode cX6_append 59 = .ok (.aload_n 0, 1) := by decide +kernel
theorem dX6_append_60 : decode cX6_append 60 = .ok (.getfield 22, 3) := by decide +kernel
theorem dX6_append_63 : decode cX6_append 63 = .ok (.ireturn, 1) := by decide +kernel
theorem dX6_becomeLaw_0 : decode cX6_becomeLaw 0 = .ok (.aload_n 0, 1) := by decide +kernel
theorem dX6_becomeLaw_1 : decode cX6_becomeLaw 1 = .ok (.invokevirtual 38, 3) := by decide +kernel
theorem dX6_becomeLaw_4 : decode cX6_becomeLaw 4 = .ok (.aload_n 0, 1) := by decide +kernel
theorem dX6_becomeLaw_5 : decode cX6_becomeLaw 5 = .ok (.invokevirtual 41, 3) := by decide +kernel
theorem dX6_becomeLaw_8 : decode cX6_becomeLaw 8 = .ok (.iconst 0, 1) := by decide +kernel
theorem dX6_becomeLaw_9 : decode cX6_becomeLaw 9 = .ok (.istore_n 2, 1) := by decide +kernel
theorem dX6_becomeLaw_10 : decode cX6_becomeLaw 10 = .ok (.iload_n 2, 1) := by decide +kernel
theorem dX6_becomeLaw_11 : decode cX6_becomeLaw 11 = .ok (.sipush 160, 3) := by decide +kernel
theorem dX6_becomeLaw_14 : decode cX6_becomeLaw 14 = .ok (.if_icmp .ge 35, 3) := by decide +kernel
theorem dX6_becomeLaw_17 : decode cX6_becomeLaw 17 = .ok (.aload_n 0, 1) := by decide +kernel
theorem dX6_becomeLaw_18 : decode cX6_becomeLaw 18 = .ok (.getfield 26, 3) := by decide +kernel
theorem dX6_becomeLaw_21 : decode cX6_becomeLaw 21 = .ok (.aload_n 0, 1) := by decide +kernel
theorem dX6_becomeLaw_22 : decode cX6_becomeLaw 22 = .ok (.getfield 22, 3) := by decide +kernel
theorem dX6_becomeLaw_25 : decode cX6_becomeLaw 25 = .ok (.if_icmp .ge 24, 3) := by decide +kernel
theorem dX6_becomeLaw_28 : decode cX6_becomeLaw 28 = .ok (.aload_n 0, 1) := by decide +kernel
theorem dX6_becomeLaw_29 : decode cX6_becomeLaw 29 = .ok (.getfield 32, 3) := by decide +kernel
theorem dX6_becomeLaw_32 : decode cX6_becomeLaw 32 = .ok (.ifCond .ne 17, 3) := by decide +kernel
theorem dX6_becomeLaw_35 : decode cX6_becomeLaw 35 = .ok (.aload_n 0, 1) := by decide +kernel
theorem dX6_becomeLaw_36 : decode cX6_becomeLaw 36 = .ok (.invokevirtual 44, 3) := by decide +kernel
theorem dX6_becomeLaw_39 : decode cX6_becomeLaw 39 = .ok (.aload_n 0, 1) := by decide +kernel
theorem dX6_becomeLaw_40 : decode cX6_becomeLaw 40 = .ok (.invokevirtual 41, 3) := by decide +kernel
theorem dX6_becomeLaw_43 : decode cX6_becomeLaw 43 = .ok (.iinc 2 1, 3) := by decide +kernel
theorem dX6_becomeLaw_46 : decode cX6_becomeLaw 46 = .ok (.goto (-36), 3) := by decide +kernel
theorem dX6_becomeLaw_49 : decode cX6_becomeLaw 49 = .ok (.aload_n 0, 1) := by decide +kernel
theorem dX6_becomeLaw_50 : decode cX6_becomeLaw 50 = .ok (.iconst 0, 1) := by decide +kernel
theorem dX6_becomeLaw_51 : decode cX6_becomeLaw 51 = .ok (.putfield 22, 3) := by decide +kernel
theorem dX6_becomeLaw_54 : decode cX6_becomeLaw 54 = .ok (.aload_n 0, 1) := by decide +kernel
theorem dX6_becomeLaw_55 : decode cX6_becomeLaw 55 = .ok (.getfield 32, 3) := by decide +kernel
theorem dX6_becomeLaw_58 : decode cX6_becomeLaw 58 = .ok (.ifCond .eq 11, 3) := by decide +kernel
theorem dX6_becomeLaw_61 : decode cX6_becomeLaw 61 = .ok (.bipush (-10), 2) := by decide +kernel
theorem dX6_becomeLaw_63 : decode cX6_becomeLaw 63 = .ok (.aload_n 0, 1) := by decide +kernel
theorem dX6_becomeLaw_64 : decode cX6_becomeLaw 64 = .ok (.getfield 32, 3) := by decide +kernel
theorem dX6_becomeLaw_67 : decode cX6_becomeLaw 67 = .ok (.isub, 1) := by decide +kernel
theorem dX6_becomeLaw_68 : decode cX6_becomeLaw 68 = .ok (.ireturn, 1) := by decide +kernel
theorem dX6_becomeLaw_69 : decode cX6_becomeLaw 69 = .ok (.aload_n 1, 1) := by decide +kernel
theorem dX6_becomeLaw_70 : decode cX6_becomeLaw 70 = .ok (.aload_n 0, 1) := by decide +kernel
theorem dX6_becomeLaw_71 : decode cX6_becomeLaw 71 = .ok (.getfield 15, 3) := by decide +kernel
theorem dX6_becomeLaw_74 : decode cX6_becomeLaw 74 = .ok (.invokevirtual 47, 3) := by decide +kernel
theorem dX6_becomeLaw_77 : decode cX6_becomeLaw 77 = .ok (.aload_n 0, 1) := by decide +kernel
theorem dX6_becomeLaw_78 : decode cX6_becomeLaw 78 = .ok (.getfield 29, 3) := by decide +kernel
theorem dX6_becomeLaw_81 : decode cX6_becomeLaw 81 = .ok (.ireturn, 1) := by decide +kernel
theorem dX6_begin_0 : decode cX6_begin 0 = .ok (.getstatic 53, 3) := by decide +kernel
theorem dX6_begin_3 : decode cX6_begin 3 = .ok (.iconst 0, 1) := by decide +kernel
theorem dX6_begin_4 : decode cX6_begin 4 = .ok (.aload_n 0, 1) := by decide +kernel
theorem dX6_begin_5 : decode cX6_begin 5 = .ok (.getfield 15, 3) := by decide +kernel
theorem dX6_begin_8 : decode cX6_begin 8 = .ok (.iconst 0, 1) := by decide +kernel
theorem dX6_begin_9 : decode cX6_begin 9 = .ok (.getstatic 53, 3) := by decide +kernel
theorem dX6_begin_12 : decode cX6_begin 12 = .ok (.arraylength, 1) := by decide +kernel
theorem dX6_begin_13 : decode cX6_begin 13 = .ok (.aload_n 0, 1) := by decide +kernel
theorem dX6_begin_14 : decode cX6_begin 14 = .ok (.getfield 15, 3) := by decide +kernel
theorem dX6_begin_17 : decode cX6_begin 17 = .ok (.arraylength, 1) := by decide +kernel
theorem dX6_begin_18 : decode cX6_begin 18 = .ok (.invokestatic 56, 3) := by decide +kernel
theorem dX6_begin_21 : decode cX6_begin 21 = .ok (.invokestatic 62, 3) := by decide +kernel
theorem dX6_begin_24 : decode cX6_begin 24 = .ok (.iconst 0, 1) := by decide +kernel
theorem dX6_begin_25 : decode cX6_begin 25 = .ok (.istore_n 1, 1) := by decide +kernel
theorem dX6_begin_26 : decode cX6_begin 26 = .ok (.iload_n 1, 1) := by decide +kernel
theorem dX6_begin_27 : decode cX6_begin 27 = .ok (.aload_n 0, 1) := by decide +kernel
theorem dX6_begin_28 : decode cX6_begin 28 = .ok (.getfield 18, 3) := by decide +kernel
theorem dX6_begin_31 : decode cX6_begin 31 = .ok (.arraylength, 1) := by decide +kernel
theorem dX6_begin_32 : decode cX6_begin 32 = .ok (.if_icmp .ge 16, 3) := by decide +kernel
theorem dX6_begin_35 : decode cX6_begin 35 = .ok (.aload_n 0, 1) := by decide +kernel
theorem dX6_begin_36 : decode cX6_begin 36 = .ok (.getfield 18, 3) := by decide +kernel
theorem dX6_begin_39 : decode cX6_begin 39 = .ok (.iload_n 1, 1) := by decide +kernel
theorem dX6_begin_40 : decode cX6_begin 40 = .ok (.iconst 0, 1) := by decide +kernel
theorem dX6_begin_41 : decode cX6_begin 41 = .ok (.bastore, 1) := by decide +kernel
theorem dX6_begin_42 : decode cX6_begin 42 = .ok (.iinc 1 1, 3) := by decide +kernel
theorem dX6_begin_45 : decode cX6_begin 45 = .ok (.goto (-19), 3) := by decide +kernel
theorem dX6_begin_48 : decode cX6_begin 48 = .ok (.aload_n 0, 1) := by decide +kernel
theorem dX6_begin_49 : decode cX6_begin 49 = .ok (.iconst 0, 1) := by decide +kernel
theorem dX6_begin_50 : decode cX6_begin 50 = .ok (.putfield 26, 3) := by decide +kernel
theorem dX6_begin_53 : decode cX6_begin 53 = .ok (.aload_n 0, 1) := by decide +kernel
theorem dX6_begin_54 : decode cX6_begin 54 = .ok (.iconst 0, 1) := by decide +kernel
theorem dX6_begin_55 : decode cX6_begin 55 = .ok (.putfield 29, 3) := by decide +kernel
theorem dX6_begin_58 : decode cX6_begin 58 = .ok (.aload_n 0, 1) := by decide +kernel
theorem dX6_begin_59 : decode cX6_begin 59 = .ok (.iconst 0, 1) := by decide +kernel
theorem dX6_begin_60 : decode cX6_begin 60 = .ok (.putfield 32, 3) := by decide +kernel
theorem dX6_begin_63 : decode cX6_begin 63 = .ok (.aload_n 0, 1) := by decide +kernel
theorem dX6_begin_64 : decode cX6_begin 64 = .ok (.iconst (-1), 1) := by decide +kernel
theorem dX6_begin_65 : decode cX6_begin 65 = .ok (.putfield 35, 3) := by decide +kernel
theorem dX6_begin_68 : decode cX6_begin 68 = .ok (.return_, 1) := by decide +kernel
theorem dX6_readClause_0 : decode cX6_readClause 0 = .ok (.aload_n 0, 1) := by decide +kernel
theorem dX6_readClause_1 : decode cX6_readClause 1 = .ok (.getfield 26, 3) := by decide +kernel
theorem dX6_readClause_4 : decode cX6_readClause 4 = .ok (.istore_n 1, 1) := by decide +kernel
theorem dX6_readClause_5 : decode cX6_readClause 5 = .ok (.aload_n 0, 1) := by decide +kernel
theorem dX6_readClause_6 : decode cX6_readClause 6 = .ok (.iload_n 1, 1) := by decide +kernel
theorem dX6_readClause_7 : decode cX6_readClause 7 = .ok (.aload_n 0, 1) := by decide +kernel
theorem dX6_readClause_8 : decode cX6_readClause 8 = .ok (.iload_n 1, 1) := by decide +kernel
theorem dX6_readClause_9 : decode cX6_readClause 9 = .ok (.invokevirtual 68, 3) := by decide +kernel
theorem dX6_readClause_12 : decode cX6_readClause 12 = .ok (.invokevirtual 72, 3) := by decide +kernel
theorem dX6_readClause_15 : decode cX6_readClause 15 = .ok (.istore_n 2, 1) := by decide +kernel
theorem dX6_readClause_16 : decode cX6_readClause 16 = .ok (.iload_n 2, 1) := by decide +kernel
theorem dX6_readClause_17 : decode cX6_readClause 17 = .ok (.iconst 0, 1) := by decide +kernel
theorem dX6_readClause_18 : decode cX6_readClause 18 = .ok (.aload_n 0, 1) := by decide +kernel
theorem dX6_readClause_19 : decode cX6_readClause 19 = .ok (.getfield 18, 3) := by decide +kernel
theorem dX6_readClause_22 : decode cX6_readClause 22 = .ok (.arraylength, 1) := by decide +kernel
theorem dX6_readClause_23 : decode cX6_readClause 23 = .ok (.iconst 1, 1) := by decide +kernel
theorem dX6_readClause_24 : decode cX6_readClause 24 = .ok (.isub, 1) := by decide +kernel
theorem dX6_readClause_25 : decode cX6_readClause 25 = .ok (.invokestatic 75, 3) := by decide +kernel
theorem dX6_readClause_28 : decode cX6_readClause 28 = .ok (.ifCond .ne 10, 3) := by decide +kernel
theorem dX6_readClause_31 : decode cX6_readClause 31 = .ok (.aload_n 0, 1) := by decide +kernel
theorem dX6_readClause_32 : decode cX6_readClause 32 = .ok (.iconst 1, 1) := by decide +kernel
theorem dX6_readClause_33 : decode cX6_readClause 33 = .ok (.iload_n 1, 1) := by decide +kernel
theorem dX6_readClause_34 : decode cX6_readClause 34 = .ok (.invokevirtual 79, 3) := by decide +kernel
theorem dX6_readClause_37 : decode cX6_readClause 37 = .ok (.return_, 1) := by decide +kernel
theorem dX6_readClause_38 : decode cX6_readClause 38 = .ok (.aload_n 0, 1) := by decide +kernel
theorem dX6_readClause_39 : decode cX6_readClause 39 = .ok (.getfield 18, 3) := by decide +kernel
theorem dX6_readClause_42 : decode cX6_readClause 42 = .ok (.iload_n 2, 1) := by decide +kernel
theorem dX6_readClause_43 : decode cX6_readClause 43 = .ok (.baload, 1) := by decide +kernel
theorem dX6_readClause_44 : decode cX6_readClause 44 = .ok (.ifCond .eq 10, 3) := by decide +kernel
theorem dX6_readClause_47 : decode cX6_readClause 47 = .ok (.aload_n 0, 1) := by decide +kernel
theorem dX6_readClause_48 : decode cX6_readClause 48 = .ok (.iconst 3, 1) := by decide +kernel
theorem dX6_readClause_49 : decode cX6_readClause 49 = .ok (.iload_n 1, 1) := by decide +kernel
theorem dX6_readClause_50 : decode cX6_readClause 50 = .ok (.invokevirtual 79, 3) := by decide +kernel
theorem dX6_readClause_53 : decode cX6_readClause 53 = .ok (.return_, 1) := by decide +kernel
theorem dX6_readClause_54 : decode cX6_readClause 54 = .ok (.aload_n 0, 1) := by decide +kernel
theorem dX6_readClause_55 : decode cX6_readClause 55 = .ok (.getfield 18, 3) := by decide +kernel
theorem dX6_readClause_58 : decode cX6_readClause 58 = .ok (.iload_n 2, 1) := by decide +kernel
theorem dX6_readClause_59 : decode cX6_readClause 59 = .ok (.iconst 1, 1) := by decide +kernel
theorem dX6_readClause_60 : decode cX6_readClause 60 = .ok (.bastore, 1) := by decide +kernel
theorem dX6_readClause_61 : decode cX6_readClause 61 = .ok (.aload_n 0, 1) := by decide +kernel
theorem dX6_readClause_62 : decode cX6_readClause 62 = .ok (.dup, 1) := by decide +kernel
theorem dX6_readClause_63 : decode cX6_readClause 63 = .ok (.getfield 29, 3) := by decide +kernel
theorem dX6_readClause_66 : decode cX6_readClause 66 = .ok (.iconst 1, 1) := by decide +kernel
theorem dX6_readClause_67 : decode cX6_readClause 67 = .ok (.iadd, 1) := by decide +kernel
theorem dX6_readClause_68 : decode cX6_readClause 68 = .ok (.putfield 29, 3) := by decide +kernel
theorem dX6_readClause_71 : decode cX6_readClause 71 = .ok (.aload_n 0, 1) := by decide +kernel
theorem dX6_readClause_72 : decode cX6_readClause 72 = .ok (.aload_n 0, 1) := by decide +kernel
theorem dX6_readClause_73 : decode cX6_readClause 73 = .ok (.iload_n 1, 1) := by decide +kernel
theorem dX6_readClause_74 : decode cX6_readClause 74 = .ok (.invokevirtual 68, 3) := by decide +kernel
theorem dX6_readClause_77 : decode cX6_readClause 77 = .ok (.putfield 26, 3) := by decide +kernel
theorem dX6_readClause_80 : decode cX6_readClause 80 = .ok (.iload_n 2, 1) := by decide +kernel
theorem dX6_readClause_81 : decode cX6_readClause 81 = .ok (.iconst 5, 1) := by decide +kernel
theorem dX6_readClause_82 : decode cX6_readClause 82 = .ok (.if_icmp .ne 21, 3) := by decide +kernel
theorem dX6_readClause_85 : decode cX6_readClause 85 = .ok (.aload_n 0, 1) := by decide +kernel
theorem dX6_readClause_86 : decode cX6_readClause 86 = .ok (.iconst 5, 1) := by decide +kernel
theorem dX6_readClause_87 : decode cX6_readClause 87 = .ok (.invokevirtual 83, 3) := by decide +kernel
theorem dX6_readClause_90 : decode cX6_readClause 90 = .ok (.aload_n 0, 1) := by decide +kernel
theorem dX6_readClause_91 : decode cX6_readClause 91 = .ok (.invokevirtual 87, 3) := by decide +kernel
theorem dX6_readClause_94 : decode cX6_readClause 94 = .ok (.aload_n 0, 1) := by decide +kernel
theorem dX6_readClause_95 : decode cX6_readClause 95 = .ok (.bipush 6, 2) := by decide +kernel
theorem dX6_readClause_97 : decode cX6_readClause 97 = .ok (.invokevirtual 83, 3) := by decide +kernel
theorem dX6_readClause_100 : decode cX6_readClause 100 = .ok (.goto 19, 3) := by decide +kernel
theorem dX6_readClause_103 : decode cX6_readClause 103 = .ok (.aload_n 0, 1) := by decide +kernel
theorem dX6_readClause_104 : decode cX6_readClause 104 = .ok (.iload_n 2, 1) := by decide +kernel
theorem dX6_readClause_105 : decode cX6_readClause 105 = .ok (.bipush 6, 2) := by decide +kernel
theorem dX6_readClause_107 : decode cX6_readClause 107 = .ok (.if_icmp .ne 8, 3) := by decide +kernel
theorem dX6_readClause_110 : decode cX6_readClause 110 = .ok (.bipush 7, 2) := by decide +kernel
theorem dX6_readClause_112 : decode cX6_readClause 112 = .ok (.goto 4, 3) := by decide +kernel
theorem dX6_readClause_115 : decode cX6_readClause 115 = .ok (.iload_n 2, 1) := by decide +kernel
theorem dX6_readClause_116 : decode cX6_readClause 116 = .ok (.invokevirtual 83, 3) := by decide +kernel
theorem dX6_readClause_119 : decode cX6_readClause 119 = .ok (.aload_n 0, 1) := by decide +kernel
theorem dX6_readClause_120 : decode cX6_readClause 120 = .ok (.invokevirtual 90, 3) := by decide +kernel
theorem dX6_readClause_123 : decode cX6_readClause 123 = .ok (.return_, 1) := by decide +kernel
theorem dX6_readNumber_0 : decode cX6_readNumber 0 = .ok (.aload_n 0, 1) := by decide +kernel
theorem dX6_readNumber_1 : decode cX6_readNumber 1 = .ok (.invokevirtual 41, 3) := by decide +kernel
theorem dX6_readNumber_4 : decode cX6_readNumber 4 = .ok (.aload_n 0, 1) := by decide +kernel
theorem dX6_readNumber_5 : decode cX6_readNumber 5 = .ok (.getfield 26, 3) := by decide +kernel
theorem dX6_readNumber_8 : decode cX6_readNumber 8 = .ok (.istore_n 2, 1) := by decide +kernel
theorem dX6_readNumber_9 : decode cX6_readNumber 9 = .ok (.iconst 0, 1) := by decide +kernel
theorem dX6_readNumber_10 : decode cX6_readNumber 10 = .ok (.istore_n 3, 1) := by decide +kernel
theorem dX6_readNumber_11 : decode cX6_readNumber 11 = .ok (.aload_n 0, 1) := by decide +kernel
theorem dX6_readNumber_12 : decode cX6_readNumber 12 = .ok (.getfield 26, 3) := by decide +kernel
theorem dX6_readNumber_15 : decode cX6_readNumber 15 = .ok (.aload_n 0, 1) := by decide +kernel
theorem dX6_readNumber_16 : decode cX6_readNumber 16 = .ok (.getfield 22, 3) := by decide +kernel
theorem dX6_readNumber_19 : decode cX6_readNumber 19 = .ok (.if_icmp .ge 57, 3) := by decide +kernel
theorem dX6_readNumber_22 : decode cX6_readNumber 22 = .ok (.aload_n 0, 1) := by decide +kernel
theorem dX6_readNumber_23 : decode cX6_readNumber 23 = .ok (.aload_n 0, 1) := by decide +kernel
theorem dX6_readNumber_24 : decode cX6_readNumber 24 = .ok (.getfield 26, 3) := by decide +kernel
theorem dX6_readNumber_27 : decode cX6_readNumber 27 = .ok (.invokevirtual 93, 3) := by decide +kernel
theorem dX6_readNumber_30 : decode cX6_readNumber 30 = .ok (.invokestatic 96, 3) := by decide +kernel
theorem dX6_readNumber_33 : decode cX6_readNumber 33 = .ok (.ifCond .eq 43, 3) := by decide +kernel
theorem dX6_readNumber_36 : decode cX6_readNumber 36 = .ok (.aload_n 0, 1) := by decide +kernel
theorem dX6_readNumber_37 : decode cX6_readNumber 37 = .ok (.getfield 26, 3) := by decide +kernel
theorem dX6_readNumber_40 : decode cX6_readNumber 40 = .ok (.iload_n 2, 1) := by decide +kernel
theorem dX6_readNumber_41 : decode cX6_readNumber 41 = .ok (.isub, 1) := by decide +kernel
theorem dX6_readNumber_42 : decode cX6_readNumber 42 = .ok (.iconst 3, 1) := by decide +kernel
theorem dX6_readNumber_43 : decode cX6_readNumber 43 = .ok (.if_icmp .ge 20, 3) := by decide +kernel
theorem dX6_readNumber_46 : decode cX6_readNumber 46 = .ok (.iload_n 3, 1) := by decide +kernel
theorem dX6_readNumber_47 : decode cX6_readNumber 47 = .ok (.bipush 10, 2) := by decide +kernel
theorem dX6_readNumber_49 : decode cX6_readNumber 49 = .ok (.imul, 1) := by decide +kernel
theorem dX6_readNumber_50 : decode cX6_readNumber 50 = .ok (.aload_n 0, 1) := by decide +kernel
theorem dX6_readNumber_51 : decode cX6_readNumber 51 = .ok (.aload_n 0, 1) := by decide +kernel
theorem dX6_readNumber_52 : decode cX6_readNumber 52 = .ok (.getfield 26, 3) := by decide +kernel
theorem dX6_readNumber_55 : decode cX6_readNumber 55 = .ok (.invokevirtual 93, 3) := by decide +kernel
theorem dX6_readNumber_58 : decode cX6_readNumber 58 = .ok (.iadd, 1) := by decide +kernel
theorem dX6_readNumber_59 : decode cX6_readNumber 59 = .ok (.bipush 48, 2) := by decide +kernel
theorem dX6_readNumber_61 : decode cX6_readNumber 61 = .ok (.isub, 1) := by decide +kernel
theorem dX6_readNumber_62 : decode cX6_readNumber 62 = .ok (.istore_n 3, 1) := by decide +kernel
theorem dX6_readNumber_63 : decode cX6_readNumber 63 = .ok (.aload_n 0, 1) := by decide +kernel
theorem dX6_readNumber_64 : decode cX6_readNumber 64 = .ok (.dup, 1) := by decide +kernel
theorem dX6_readNumber_65 : decode cX6_readNumber 65 = .ok (.getfield 26, 3) := by decide +kernel
theorem dX6_readNumber_68 : decode cX6_readNumber 68 = .ok (.iconst 1, 1) := by decide +kernel
theorem dX6_readNumber_69 : decode cX6_readNumber 69 = .ok (.iadd, 1) := by decide +kernel
theorem dX6_readNumber_70 : decode cX6_readNumber 70 = .ok (.putfield 26, 3) := by decide +kernel
theorem dX6_readNumber_73 : decode cX6_readNumber 73 = .ok (.goto (-62), 3) := by decide +kernel
theorem dX6_readNumber_76 : decode cX6_readNumber 76 = .ok (.aload_n 0, 1) := by decide +kernel
theorem dX6_readNumber_77 : decode cX6_readNumber 77 = .ok (.getfield 26, 3) := by decide +kernel
theorem dX6_readNumber_80 : decode cX6_readNumber 80 = .ok (.iload_n 2, 1) := by decide +kernel
theorem dX6_readNumber_81 : decode cX6_readNumber 81 = .ok (.if_icmp .ne 12, 3) := by decide +kernel
theorem dX6_readNumber_84 : decode cX6_readNumber 84 = .ok (.aload_n 0, 1) := by decide +kernel
theorem dX6_readNumber_85 : decode cX6_readNumber 85 = .ok (.iconst 1, 1) := by decide +kernel
theorem dX6_readNumber_86 : decode cX6_readNumber 86 = .ok (.iload_n 2, 1) := by decide +kernel
theorem dX6_readNumber_87 : decode cX6_readNumber 87 = .ok (.invokevirtual 79, 3) := by decide +kernel
theorem dX6_readNumber_90 : decode cX6_readNumber 90 = .ok (.goto 37, 3) := by decide +kernel
theorem dX6_readNumber_93 : decode cX6_readNumber 93 = .ok (.aload_n 0, 1) := by decide +kernel
theorem dX6_readNumber_94 : decode cX6_readNumber 94 = .ok (.getfield 26, 3) := by decide +kernel
theorem dX6_readNumber_97 : decode cX6_readNumber 97 = .ok (.iload_n 2, 1) := by decide +kernel
theorem dX6_readNumber_98 : decode cX6_readNumber 98 = .ok (.isub, 1) := by decide +kernel
theorem dX6_readNumber_99 : decode cX6_readNumber 99 = .ok (.iconst 3, 1) := by decide +kernel
theorem dX6_readNumber_100 : decode cX6_readNumber 100 = .ok (.if_icmp .gt 11, 3) := by decide +kernel
theorem dX6_readNumber_103 : decode cX6_readNumber 103 = .ok (.iload_n 1, 1) := by decide +kernel
theorem dX6_readNumber_104 : decode cX6_readNumber 104 = .ok (.iload_n 3, 1) := by decide +kernel
theorem dX6_readNumber_105 : decode cX6_readNumber 105 = .ok (.invokestatic 100, 3) := by decide +kernel
theorem dX6_readNumber_108 : decode cX6_readNumber 108 = .ok (.ifCond .ne 12, 3) := by decide +kernel
theorem dX6_readNumber_111 : decode cX6_readNumber 111 = .ok (.aload_n 0, 1) := by decide +kernel
theorem dX6_readNumber_112 : decode cX6_readNumber 112 = .ok (.iconst 2, 1) := by decide +kernel
theorem dX6_readNumber_113 : decode cX6_readNumber 113 = .ok (.iload_n 2, 1) := by decide +kernel
theorem dX6_readNumber_114 : decode cX6_readNumber 114 = .ok (.invokevirtual 79, 3) := by decide +kernel
theorem dX6_readNumber_117 : decode cX6_readNumber 117 = .ok (.goto 10, 3) := by decide +kernel
theorem dX6_readNumber_120 : decode cX6_readNumber 120 = .ok (.aload_n 0, 1) := by decide +kernel
theorem dX6_readNumber_121 : decode cX6_readNumber 121 = .ok (.getfield 15, 3) := by decide +kernel
theorem dX6_readNumber_124 : decode cX6_readNumber 124 = .ok (.iload_n 1, 1) := by decide +kernel
theorem dX6_readNumber_125 : decode cX6_readNumber 125 = .ok (.iload_n 3, 1) := by decide +kernel
theorem dX6_readNumber_126 : decode cX6_readNumber 126 = .ok (.iastore, 1) := by decide +kernel
theorem dX6_readNumber_127 : decode cX6_readNumber 127 = .ok (.return_, 1) := by decide +kernel
theorem dX6_isInBounds_0 : decode cX6_isInBounds 0 = .ok (.iload_n 0, 1) := by decide +kernel
theorem dX6_isInBounds_1 : decode cX6_isInBounds 1 = .ok (.iconst 0, 1) := by decide +kernel
theorem dX6_isInBounds_2 : decode cX6_isInBounds 2 = .ok (.bipush 7, 2) := by decide +kernel
theorem dX6_isInBounds_4 : decode cX6_isInBounds 4 = .ok (.invokestatic 75, 3) := by decide +kernel
theorem dX6_isInBounds_7 : decode cX6_isInBounds 7 = .ok (.ifCond .eq 24, 3) := by decide +kernel
theorem dX6_isInBounds_10 : decode cX6_isInBounds 10 = .ok (.iload_n 1, 1) := by decide +kernel
theorem dX6_isInBounds_11 : decode cX6_isInBounds 11 = .ok (.getstatic 104, 3) := by decide +kernel
theorem dX6_isInBounds_14 : decode cX6_isInBounds 14 = .ok (.iload_n 0, 1) := by decide +kernel
theorem dX6_isInBounds_15 : decode cX6_isInBounds 15 = .ok (.iaload, 1) := by decide +kernel
theorem dX6_isInBounds_16 : decode cX6_isInBounds 16 = .ok (.getstatic 107, 3) := by decide +kernel
theorem dX6_isInBounds_19 : decode cX6_isInBounds 19 = .ok (.iload_n 0, 1) := by decide +kernel
theorem dX6_isInBounds_20 : decode cX6_isInBounds 20 = .ok (.iaload, 1) := by decide +kernel
theorem dX6_isInBounds_21 : decode cX6_isInBounds 21 = .ok (.invokestatic 75, 3) := by decide +kernel
theorem dX6_isInBounds_24 : decode cX6_isInBounds 24 = .ok (.ifCond .eq 7, 3) := by decide +kernel
theorem dX6_isInBounds_27 : decode cX6_isInBounds 27 = .ok (.iconst 1, 1) := by decide +kernel
theorem dX6_isInBounds_28 : decode cX6_isInBounds 28 = .ok (.goto 4, 3) := by decide +kernel
theorem dX6_isInBounds_31 : decode cX6_isInBounds 31 = .ok (.iconst 0, 1) := by decide +kernel
theorem dX6_isInBounds_32 : decode cX6_isInBounds 32 = .ok (.ireturn, 1) := by decide +kernel
theorem dX6_readTo_0 : decode cX6_readTo 0 = .ok (.aload_n 0, 1) := by decide +kernel
theorem dX6_readTo_1 : decode cX6_readTo 1 = .ok (.invokevirtual 41, 3) := by decide +kernel
theorem dX6_readTo_4 : decode cX6_readTo 4 = .ok (.aload_n 0, 1) := by decide +kernel
theorem dX6_readTo_5 : decode cX6_readTo 5 = .ok (.aload_n 0, 1) := by decide +kernel
theorem dX6_readTo_6 : decode cX6_readTo 6 = .ok (.getfield 26, 3) := by decide +kernel
theorem dX6_readTo_9 : decode cX6_readTo 9 = .ok (.invokevirtual 68, 3) := by decide +kernel
theorem dX6_readTo_12 : decode cX6_readTo 12 = .ok (.istore_n 1, 1) := by decide +kernel
theorem dX6_readTo_13 : decode cX6_readTo 13 = .ok (.aload_n 0, 1) := by decide +kernel
theorem dX6_readTo_14 : decode cX6_readTo 14 = .ok (.aload_n 0, 1) := by decide +kernel
theorem dX6_readTo_15 : decode cX6_readTo 15 = .ok (.getfield 26, 3) := by decide +kernel
theorem dX6_readTo_18 : decode cX6_readTo 18 = .ok (.iload_n 1, 1) := by decide +kernel
theorem dX6_readTo_19 : decode cX6_readTo 19 = .ok (.ldc 110, 2) := by decide +kernel
theorem dX6_readTo_21 : decode cX6_readTo 21 = .ok (.invokevirtual 112, 3) := by decide +kernel
theorem dX6_readTo_24 : decode cX6_readTo 24 = .ok (.ifCond .eq 11, 3) := by decide +kernel
theorem dX6_readTo_27 : decode cX6_readTo 27 = .ok (.aload_n 0, 1) := by decide +kernel
theorem dX6_readTo_28 : decode cX6_readTo 28 = .ok (.iload_n 1, 1) := by decide +kernel
theorem dX6_readTo_29 : decode cX6_readTo 29 = .ok (.putfield 26, 3) := by decide +kernel
theorem dX6_readTo_32 : decode cX6_readTo 32 = .ok (.goto 12, 3) := by decide +kernel
theorem dX6_readTo_35 : decode cX6_readTo 35 = .ok (.aload_n 0, 1) := by decide +kernel
theorem dX6_readTo_36 : decode cX6_readTo 36 = .ok (.iconst 1, 1) := by decide +kernel
theorem dX6_readTo_37 : decode cX6_readTo 37 = .ok (.aload_n 0, 1) := by decide +kernel
theorem dX6_readTo_38 : decode cX6_readTo 38 = .ok (.getfield 26, 3) := by decide +kernel
theorem dX6_readTo_41 : decode cX6_readTo 41 = .ok (.invokevirtual 79, 3) := by decide +kernel
theorem dX6_readTo_44 : decode cX6_readTo 44 = .ok (.return_, 1) := by decide +kernel
theorem dX6_readSemicolon_0 : decode cX6_readSemicolon 0 = .ok (.aload_n 0, 1) := by decide +kernel
theorem dX6_readSemicolon_1 : decode cX6_readSemicolon 1 = .ok (.invokevirtual 41, 3) := by decide +kernel
theorem dX6_readSemicolon_4 : decode cX6_readSemicolon 4 = .ok (.aload_n 0, 1) := by decide +kernel
theorem dX6_readSemicolon_5 : decode cX6_readSemicolon 5 = .ok (.aload_n 0, 1) := by decide +kernel
theorem dX6_readSemicolon_6 : decode cX6_readSemicolon 6 = .ok (.getfield 26, 3) := by decide +kernel
theorem dX6_readSemicolon_9 : decode cX6_readSemicolon 9 = .ok (.invokevirtual 93, 3) := by decide +kernel
theorem dX6_readSemicolon_12 : decode cX6_readSemicolon 12 = .ok (.bipush 59, 2) := by decide +kernel
theorem dX6_readSemicolon_14 : decode cX6_readSemicolon 14 = .ok (.if_icmp .ne 16, 3) := by decide +kernel
theorem dX6_readSemicolon_17 : decode cX6_readSemicolon 17 = .ok (.aload_n 0, 1) := by decide +kernel
theorem dX6_readSemicolon_18 : decode cX6_readSemicolon 18 = .ok (.dup, 1) := by decide +kernel
theorem dX6_readSemicolon_19 : decode cX6_readSemicolon 19 = .ok (.getfield 26, 3) := by decide +kernel
theorem dX6_readSemicolon_22 : decode cX6_readSemicolon 22 = .ok (.iconst 1, 1) := by decide +kernel
theorem dX6_readSemicolon_23 : decode cX6_readSemicolon 23 = .ok (.iadd, 1) := by decide +kernel
theorem dX6_readSemicolon_24 : decode cX6_readSemicolon 24 = .ok (.putfield 26, 3) := by decide +kernel
theorem dX6_readSemicolon_27 : decode cX6_readSemicolon 27 = .ok (.goto 12, 3) := by decide +kernel
theorem dX6_readSemicolon_30 : decode cX6_readSemicolon 30 = .ok (.aload_n 0, 1) := by decide +kernel
theorem dX6_readSemicolon_31 : decode cX6_readSemicolon 31 = .ok (.iconst 1, 1) := by decide +kernel
theorem dX6_readSemicolon_32 : decode cX6_readSemicolon 32 = .ok (.aload_n 0, 1) := by decide +kernel
theorem dX6_readSemicolon_33 : decode cX6_readSemicolon 33 = .ok (.getfield 26, 3) := by decide +kernel
theorem dX6_readSemicolon_36 : decode cX6_readSemicolon 36 = .ok (.invokevirtual 79, 3) := by decide +kernel
theorem dX6_readSemicolon_39 : decode cX6_readSemicolon 39 = .ok (.return_, 1) := by decide +kernel
theorem dX6_setFault_0 : decode cX6_setFault 0 = .ok (.aload_n 0, 1) := by decide +kernel
theorem dX6_setFault_1 : decode cX6_setFault 1 = .ok (.getfield 32, 3) := by decide +kernel
theorem dX6_setFault_4 : decode cX6_setFault 4 = .ok (.ifCond .ne 13, 3) := by decide +kernel
theorem dX6_setFault_7 : decode cX6_setFault 7 = .ok (.aload_n 0, 1) := by decide +kernel
theorem dX6_setFault_8 : decode cX6_setFault 8 = .ok (.iload_n 1, 1) := by decide +kernel
theorem dX6_setFault_9 : decode cX6_setFault 9 = .ok (.putfield 32, 3) := by decide +kernel
theorem dX6_setFault_12 : decode cX6_setFault 12 = .ok (.aload_n 0, 1) := by decide +kernel
theorem dX6_setFault_13 : decode cX6_setFault 13 = .ok (.iload_n 2, 1) := by decide +kernel
theorem dX6_setFault_14 : decode cX6_setFault 14 = .ok (.putfield 35, 3) := by decide +kernel
theorem dX6_setFault_17 : decode cX6_setFault 17 = .ok (.return_, 1) := by decide +kernel
theorem dX6_skipBlanks_0 : decode cX6_skipBlanks 0 = .ok (.aload_n 0, 1) := by decide +kernel
theorem dX6_skipBlanks_1 : decode cX6_skipBlanks 1 = .ok (.getfield 26, 3) := by decide +kernel
theorem dX6_skipBlanks_4 : decode cX6_skipBlanks 4 = .ok (.aload_n 0, 1) := by decide +kernel
theorem dX6_skipBlanks_5 : decode cX6_skipBlanks 5 = .ok (.getfield 22, 3) := by decide +kernel
theorem dX6_skipBlanks_8 : decode cX6_skipBlanks 8 = .ok (.if_icmp .ge 29, 3) := by decide +kernel
theorem dX6_skipBlanks_11 : decode cX6_skipBlanks 11 = .ok (.aload_n 0, 1) := by decide +kernel
theorem dX6_skipBlanks_12 : decode cX6_skipBlanks 12 = .ok (.aload_n 0, 1) := by decide +kernel
theorem dX6_skipBlanks_13 : decode cX6_skipBlanks 13 = .ok (.getfield 26, 3) := by decide +kernel
theorem dX6_skipBlanks_16 : decode cX6_skipBlanks 16 = .ok (.invokevirtual 93, 3) := by decide +kernel
theorem dX6_skipBlanks_19 : decode cX6_skipBlanks 19 = .ok (.bipush 32, 2) := by decide +kernel
theorem dX6_skipBlanks_21 : decode cX6_skipBlanks 21 = .ok (.if_icmp .ne 16, 3) := by decide +kernel
theorem dX6_skipBlanks_24 : decode cX6_skipBlanks 24 = .ok (.aload_n 0, 1) := by decide +kernel
theorem dX6_skipBlanks_25 : decode cX6_skipBlanks 25 = .ok (.dup, 1) := by decide +kernel
theorem dX6_skipBlanks_26 : decode cX6_skipBlanks 26 = .ok (.getfield 26, 3) := by decide +kernel
theorem dX6_skipBlanks_29 : decode cX6_skipBlanks 29 = .ok (.iconst 1, 1) := by decide +kernel
theorem dX6_skipBlanks_30 : decode cX6_skipBlanks 30 = .ok (.iadd, 1) := by decide +kernel
theorem dX6_skipBlanks_31 : decode cX6_skipBlanks 31 = .ok (.putfield 26, 3) := by decide +kernel
theorem dX6_skipBlanks_34 : decode cX6_skipBlanks 34 = .ok (.goto (-34), 3) := by decide +kernel
theorem dX6_skipBlanks_37 : decode cX6_skipBlanks 37 = .ok (.return_, 1) := by decide +kernel
theorem dX6_byteAt_0 : decode cX6_byteAt 0 = .ok (.iload_n 1, 1) := by decide +kernel
theorem dX6_byteAt_1 : decode cX6_byteAt 1 = .ok (.iconst 0, 1) := by decide +kernel
theorem dX6_byteAt_2 : decode cX6_byteAt 2 = .ok (.aload_n 0, 1) := by decide +kernel
theorem dX6_byteAt_3 : decode cX6_byteAt 3 = .ok (.getfield 22, 3) := by decide +kernel
theorem dX6_byteAt_6 : decode cX6_byteAt 6 = .ok (.iconst 1, 1) := by decide +kernel
theorem dX6_byteAt_7 : decode cX6_byteAt 7 = .ok (.isub, 1) := by decide +kernel
theorem dX6_byteAt_8 : decode cX6_byteAt 8 = .ok (.invokestatic 75, 3) := by decide +kernel
theorem dX6_byteAt_11 : decode cX6_byteAt 11 = .ok (.ifCond .eq 21, 3) := by decide +kernel
theorem dX6_byteAt_14 : decode cX6_byteAt 14 = .ok (.iload_n 1, 1) := by decide +kernel
theorem dX6_byteAt_15 : decode cX6_byteAt 15 = .ok (.aload_n 0, 1) := by decide +kernel
theorem dX6_byteAt_16 : decode cX6_byteAt 16 = .ok (.getfield 9, 3) := by decide +kernel
theorem dX6_byteAt_19 : decode cX6_byteAt 19 = .ok (.arraylength, 1) := by decide +kernel
theorem dX6_byteAt_20 : decode cX6_byteAt 20 = .ok (.if_icmp .ge 12, 3) := by decide +kernel
theorem dX6_byteAt_23 : decode cX6_byteAt 23 = .ok (.aload_n 0, 1) := by decide +kernel
theorem dX6_byteAt_24 : decode cX6_byteAt 24 = .ok (.getfield 9, 3) := by decide +kernel
theorem dX6_byteAt_27 : decode cX6_byteAt 27 = .ok (.iload_n 1, 1) := by decide +kernel
theorem dX6_byteAt_28 : decode cX6_byteAt 28 = .ok (.iaload, 1) := by decide +kernel
theorem dX6_byteAt_29 : decode cX6_byteAt 29 = .ok (.goto 4, 3) := by decide +kernel
theorem dX6_byteAt_32 : decode cX6_byteAt 32 = .ok (.iconst (-1), 1) := by decide +kernel
theorem dX6_byteAt_33 : decode cX6_byteAt 33 = .ok (.ireturn, 1) := by decide +kernel
theorem dX6_endOfWord_0 : decode cX6_endOfWord 0 = .ok (.iload_n 1, 1) := by decide +kernel
theorem dX6_endOfWord_1 : decode cX6_endOfWord 1 = .ok (.istore_n 2, 1) := by decide +kernel
theorem dX6_endOfWord_2 : decode cX6_endOfWord 2 = .ok (.iload_n 2, 1) := by decide +kernel
theorem dX6_endOfWord_3 : decode cX6_endOfWord 3 = .ok (.aload_n 0, 1) := by decide +kernel
theorem dX6_endOfWord_4 : decode cX6_endOfWord 4 = .ok (.getfield 22, 3) := by decide +kernel
theorem dX6_endOfWord_7 : decode cX6_endOfWord 7 = .ok (.if_icmp .ge 29, 3) := by decide +kernel
theorem dX6_endOfWord_10 : decode cX6_endOfWord 10 = .ok (.aload_n 0, 1) := by decide +kernel
theorem dX6_endOfWord_11 : decode cX6_endOfWord 11 = .ok (.iload_n 2, 1) := by decide +kernel
theorem dX6_endOfWord_12 : decode cX6_endOfWord 12 = .ok (.invokevirtual 93, 3) := by decide +kernel
theorem dX6_endOfWord_15 : decode cX6_endOfWord 15 = .ok (.bipush 97, 2) := by decide +kernel
theorem dX6_endOfWord_17 : decode cX6_endOfWord 17 = .ok (.if_icmp .lt 19, 3) := by decide +kernel
theorem dX6_endOfWord_20 : decode cX6_endOfWord 20 = .ok (.aload_n 0, 1) := by decide +kernel
theorem dX6_endOfWord_21 : decode cX6_endOfWord 21 = .ok (.iload_n 2, 1) := by decide +kernel
theorem dX6_endOfWord_22 : decode cX6_endOfWord 22 = .ok (.invokevirtual 93, 3) := by decide +kernel
theorem dX6_endOfWord_25 : decode cX6_endOfWord 25 = .ok (.bipush 122, 2) := by decide +kernel
theorem dX6_endOfWord_27 : decode cX6_endOfWord 27 = .ok (.if_icmp .gt 9, 3) := by decide +kernel
theorem dX6_endOfWord_30 : decode cX6_endOfWord 30 = .ok (.iinc 2 1, 3) := by decide +kernel
theorem dX6_endOfWord_33 : decode cX6_endOfWord 33 = .ok (.goto (-31), 3) := by decide +kernel
theorem dX6_endOfWord_36 : decode cX6_endOfWord 36 = .ok (.iload_n 2, 1) := by decide +kernel
theorem dX6_endOfWord_37 : decode cX6_endOfWord 37 = .ok (.ireturn, 1) := by decide +kernel
theorem dX6_clauseNamed_0 : decode cX6_clauseNamed 0 = .ok (.iconst 0, 1) := by decide +kernel
theorem dX6_clauseNamed_1 : decode cX6_clauseNamed 1 = .ok (.istore_n 3, 1) := by decide +kernel
theorem dX6_clauseNamed_2 : decode cX6_clauseNamed 2 = .ok (.iload_n 3, 1) := by decide +kernel
theorem dX6_clauseNamed_3 : decode cX6_clauseNamed 3 = .ok (.bipush 7, 2) := by decide +kernel
theorem dX6_clauseNamed_5 : decode cX6_clauseNamed 5 = .ok (.if_icmp .ge 24, 3) := by decide +kernel
theorem dX6_clauseNamed_8 : decode cX6_clauseNamed 8 = .ok (.aload_n 0, 1) := by decide +kernel
theorem dX6_clauseNamed_9 : decode cX6_clauseNamed 9 = .ok (.iload_n 1, 1) := by decide +kernel
theorem dX6_clauseNamed_10 : decode cX6_clauseNamed 10 = .ok (.iload_n 2, 1) := by decide +kernel
theorem dX6_clauseNamed_11 : decode cX6_clauseNamed 11 = .ok (.iload_n 3, 1) := by decide +kernel
theorem dX6_clauseNamed_12 : decode cX6_clauseNamed 12 = .ok (.invokestatic 116, 3) := by decide +kernel
theorem dX6_clauseNamed_15 : decode cX6_clauseNamed 15 = .ok (.invokevirtual 112, 3) := by decide +kernel
theorem dX6_clauseNamed_18 : decode cX6_clauseNamed 18 = .ok (.ifCond .eq 5, 3) := by decide +kernel
theorem dX6_clauseNamed_21 : decode cX6_clauseNamed 21 = .ok (.iload_n 3, 1) := by decide +kernel
theorem dX6_clauseNamed_22 : decode cX6_clauseNamed 22 = .ok (.ireturn, 1) := by decide +kernel
theorem dX6_clauseNamed_23 : decode cX6_clauseNamed 23 = .ok (.iinc 3 1, 3) := by decide +kernel
theorem dX6_clauseNamed_26 : decode cX6_clauseNamed 26 = .ok (.goto (-24), 3) := by decide +kernel
theorem dX6_clauseNamed_29 : decode cX6_clauseNamed 29 = .ok (.iconst (-1), 1) := by decide +kernel
theorem dX6_clauseNamed_30 : decode cX6_clauseNamed 30 = .ok (.ireturn, 1) := by decide +kernel
theorem dX6_isWord_0 : decode cX6_isWord 0 = .ok (.iload_n 2, 1) := by decide +kernel
theorem dX6_isWord_1 : decode cX6_isWord 1 = .ok (.iload_n 1, 1) := by decide +kernel
theorem dX6_isWord_2 : decode cX6_isWord 2 = .ok (.isub, 1) := by decide +kernel
theorem dX6_isWord_3 : decode cX6_isWord 3 = .ok (.aload_n 3, 1) := by decide +kernel
theorem dX6_isWord_4 : decode cX6_isWord 4 = .ok (.invokevirtual 120, 3) := by decide +kernel
theorem dX6_isWord_7 : decode cX6_isWord 7 = .ok (.if_icmp .eq 5, 3) := by decide +kernel
theorem dX6_isWord_10 : decode cX6_isWord 10 = .ok (.iconst 0, 1) := by decide +kernel
theorem dX6_isWord_11 : decode cX6_isWord 11 = .ok (.ireturn, 1) := by decide +kernel
theorem dX6_isWord_12 : decode cX6_isWord 12 = .ok (.iconst 0, 1) := by decide +kernel
theorem dX6_isWord_13 : decode cX6_isWord 13 = .ok (.istore 4, 2) := by decide +kernel
theorem dX6_isWord_15 : decode cX6_isWord 15 = .ok (.iload 4, 2) := by decide +kernel
theorem dX6_isWord_17 : decode cX6_isWord 17 = .ok (.aload_n 3, 1) := by decide +kernel
theorem dX6_isWord_18 : decode cX6_isWord 18 = .ok (.invokevirtual 120, 3) := by decide +kernel
theorem dX6_isWord_21 : decode cX6_isWord 21 = .ok (.if_icmp .ge 28, 3) := by decide +kernel
theorem dX6_isWord_24 : decode cX6_isWord 24 = .ok (.aload_n 0, 1) := by decide +kernel
theorem dX6_isWord_25 : decode cX6_isWord 25 = .ok (.iload_n 1, 1) := by decide +kernel
theorem dX6_isWord_26 : decode cX6_isWord 26 = .ok (.iload 4, 2) := by decide +kernel
theorem dX6_isWord_28 : decode cX6_isWord 28 = .ok (.iadd, 1) := by decide +kernel
theorem dX6_isWord_29 : decode cX6_isWord 29 = .ok (.invokevirtual 93, 3) := by decide +kernel
theorem dX6_isWord_32 : decode cX6_isWord 32 = .ok (.aload_n 3, 1) := by decide +kernel
theorem dX6_isWord_33 : decode cX6_isWord 33 = .ok (.iload 4, 2) := by decide +kernel
theorem dX6_isWord_35 : decode cX6_isWord 35 = .ok (.invokevirtual 125, 3) := by decide +kernel
theorem dX6_isWord_38 : decode cX6_isWord 38 = .ok (.if_icmp .eq 5, 3) := by decide +kernel
theorem dX6_isWord_41 : decode cX6_isWord 41 = .ok (.iconst 0, 1) := by decide +kernel
theorem dX6_isWord_42 : decode cX6_isWord 42 = .ok (.ireturn, 1) := by decide +kernel
theorem dX6_isWord_43 : decode cX6_isWord 43 = .ok (.iinc 4 1, 3) := by decide +kernel
theorem dX6_isWord_46 : decode cX6_isWord 46 = .ok (.goto (-31), 3) := by decide +kernel
theorem dX6_isWord_49 : decode cX6_isWord 49 = .ok (.iconst 1, 1) := by decide +kernel
theorem dX6_isWord_50 : decode cX6_isWord 50 = .ok (.ireturn, 1) := by decide +kernel
theorem dX6_wordOf_0 : decode cX6_wordOf 0 = .ok (.iload_n 0, 1) := by decide +kernel
theorem dX6_wordOf_1 : decode cX6_wordOf 1 = .ok (.tableswitch 57 0 5 #[39, 42, 45, 48, 51, 54], 39) := by decide +kernel
theorem dX6_wordOf_40 : decode cX6_wordOf 40 = .ok (.ldc 129, 2) := by decide +kernel
theorem dX6_wordOf_42 : decode cX6_wordOf 42 = .ok (.areturn, 1) := by decide +kernel
theorem dX6_wordOf_43 : decode cX6_wordOf 43 = .ok (.ldc 131, 2) := by decide +kernel
theorem dX6_wordOf_45 : decode cX6_wordOf 45 = .ok (.areturn, 1) := by decide +kernel
theorem dX6_wordOf_46 : decode cX6_wordOf 46 = .ok (.ldc 133, 2) := by decide +kernel
theorem dX6_wordOf_48 : decode cX6_wordOf 48 = .ok (.areturn, 1) := by decide +kernel
theorem dX6_wordOf_49 : decode cX6_wordOf 49 = .ok (.ldc 135, 2) := by decide +kernel
theorem dX6_wordOf_51 : decode cX6_wordOf 51 = .ok (.areturn, 1) := by decide +kernel
theorem dX6_wordOf_52 : decode cX6_wordOf 52 = .ok (.ldc 137, 2) := by decide +kernel
theorem dX6_wordOf_54 : decode cX6_wordOf 54 = .ok (.areturn, 1) := by decide +kernel
theorem dX6_wordOf_55 : decode cX6_wordOf 55 = .ok (.ldc 139, 2) := by decide +kernel
theorem dX6_wordOf_57 : decode cX6_wordOf 57 = .ok (.areturn, 1) := by decide +kernel
theorem dX6_wordOf_58 : decode cX6_wordOf 58 = .ok (.ldc 141, 2) := by decide +kernel
theorem dX6_wordOf_60 : decode cX6_wordOf 60 = .ok (.areturn, 1) := by decide +kernel
theorem dX6_isFigure_0 : decode cX6_isFigure 0 = .ok (.iload_n 0, 1) := by decide +kernel
theorem dX6_isFigure_1 : decode cX6_isFigure 1 = .ok (.bipush 48, 2) := by decide +kernel
theorem dX6_isFigure_3 : decode cX6_isFigure 3 = .ok (.if_icmp .lt 13, 3) := by decide +kernel
theorem dX6_isFigure_6 : decode cX6_isFigure 6 = .ok (.iload_n 0, 1) := by decide +kernel
theorem dX6_isFigure_7 : decode cX6_isFigure 7 = .ok (.bipush 57, 2) := by decide +kernel
theorem dX6_isFigure_9 : decode cX6_isFigure 9 = .ok (.if_icmp .gt 7, 3) := by decide +kernel
theorem dX6_isFigure_12 : decode cX6_isFigure 12 = .ok (.iconst 1, 1) := by decide +kernel
theorem dX6_isFigure_13 : decode cX6_isFigure 13 = .ok (.goto 4, 3) := by decide +kernel
theorem dX6_isFigure_16 : decode cX6_isFigure 16 = .ok (.iconst 0, 1) := by decide +kernel
theorem dX6_isFigure_17 : decode cX6_isFigure 17 = .ok (.ireturn, 1) := by decide +kernel
theorem dX7_init_0 : decode cX7_init 0 = .ok (.aload_n 0, 1) := by decide +kernel
theorem dX7_init_1 : decode cX7_init 1 = .ok (.invokespecial 3, 3) := by decide +kernel
theorem dX7_init_4 : decode cX7_init 4 = .ok (.aload_n 0, 1) := by decide +kernel
theorem dX7_init_5 : decode cX7_init 5 = .ok (.bipush 100, 2) := by decide +kernel
theorem dX7_init_7 : decode cX7_init 7 = .ok (.newarray .int, 2) := by decide +kernel
theorem dX7_init_9 : decode cX7_init 9 = .ok (.putfield 9, 3) := by decide +kernel
theorem dX7_init_12 : decode cX7_init 12 = .ok (.aload_n 0, 1) := by decide +kernel
theorem dX7_init_13 : decode cX7_init 13 = .ok (.bipush 100, 2) := by decide +kernel
theorem dX7_init_15 : decode cX7_init 15 = .ok (.newarray .int, 2) := by decide +kernel
theorem dX7_init_17 : decode cX7_init 17 = .ok (.putfield 15, 3) := by decide +kernel
theorem dX7_init_20 : decode cX7_init 20 = .ok (.aload_n 0, 1) := by decide +kernel
theorem dX7_init_21 : decode cX7_init 21 = .ok (.bipush 100, 2) := by decide +kernel
theorem dX7_init_23 : decode cX7_init 23 = .ok (.newarray .int, 2) := by decide +kernel
theorem dX7_init_25 : decode cX7_init 25 = .ok (.putfield 18, 3) := by decide +kernel
theorem dX7_init_28 : decode cX7_init 28 = .ok (.aload_n 0, 1) := by decide +kernel
theorem dX7_init_29 : decode cX7_init 29 = .ok (.bipush 100, 2) := by decide +kernel
theorem dX7_init_31 : decode cX7_init 31 = .ok (.newarray .int, 2) := by decide +kernel
theorem dX7_init_33 : decode cX7_init 33 = .ok (.putfield 21, 3) := by decide +kernel
theorem dX7_init_36 : decode cX7_init 36 = .ok (.aload_n 0, 1) := by decide +kernel
theorem dX7_init_37 : decode cX7_init 37 = .ok (.iconst 0, 1) := by decide +kernel
theorem dX7_init_38 : decode cX7_init 38 = .ok (.putfield 24, 3) := by decide +kernel
theorem dX7_init_41 : decode cX7_init 41 = .ok (.aload_n 0, 1) := by decide +kernel
theorem dX7_init_42 : decode cX7_init 42 = .ok (.bipush 8, 2) := by decide +kernel
theorem dX7_init_44 : decode cX7_init 44 = .ok (.newarray .int, 2) := by decide +kernel
theorem dX7_init_46 : decode cX7_init 46 = .ok (.putfield 28, 3) := by decide +kernel
theorem dX7_init_49 : decode cX7_init 49 = .ok (.aload_n 0, 1) := by decide +kernel
theorem dX7_init_50 : decode cX7_init 50 = .ok (.bipush 8, 2) := by decide +kernel
theorem dX7_init_52 : decode cX7_init 52 = .ok (.newarray .int, 2) := by decide +kernel
theorem dX7_init_54 : decode cX7_init 54 = .ok (.putfield 31, 3) := by decide +kernel
theorem dX7_init_57 : decode cX7_init 57 = .ok (.aload_n 0, 1) := by decide +kernel
theorem dX7_init_58 : decode cX7_init 58 = .ok (.bipush 8, 2) := by decide +kernel
theorem dX7_init_60 : decode cX7_init 60 = .ok (.newarray .int, 2) := by decide +kernel
theorem dX7_init_62 : decode cX7_init 62 = .ok (.putfield 34, 3) := by decide +kernel
theorem dX7_init_65 : decode cX7_init 65 = .ok (.aload_n 0, 1) := by decide +kernel
theorem dX7_init_66 : decode cX7_init 66 = .ok (.sipush 400, 3) := by decide +kernel
theorem dX7_init_69 : decode cX7_init 69 = .ok (.newarray .boolean, 2) := by decide +kernel
theorem dX7_init_71 : decode cX7_init 71 = .ok (.putfield 37, 3) := by decide +kernel
theorem dX7_init_74 : decode cX7_init 74 = .ok (.aload_n 0, 1) := by decide +kernel
theorem dX7_init_75 : decode cX7_init 75 = .ok (.iconst 0, 1) := by decide +kernel
theorem dX7_init_76 : decode cX7_init 76 = .ok (.putfield 41, 3) := by decide +kernel
theorem dX7_init_79 : decode cX7_init 79 = .ok (.aload_n 0, 1) := by decide +kernel
theorem dX7_init_80 : decode cX7_init 80 = .ok (.sipush 400, 3) := by decide +kernel
theorem dX7_init_83 : decode cX7_init 83 = .ok (.newarray .int, 2) := by decide +kernel
theorem dX7_init_85 : decode cX7_init 85 = .ok (.putfield 44, 3) := by decide +kernel
theorem dX7_init_88 : decode cX7_init 88 = .ok (.aload_n 0, 1) := by decide +kernel
theorem dX7_init_89 : decode cX7_init 89 = .ok (.aload_n 1, 1) := by decide +kernel
theorem dX7_init_90 : decode cX7_init 90 = .ok (.putfield 47, 3) := by decide +kernel
theorem dX7_init_93 : decode cX7_init 93 = .ok (.iconst 0, 1) := by decide +kernel
theorem dX7_init_94 : decode cX7_init 94 = .ok (.istore_n 2, 1) := by decide +kernel
theorem dX7_init_95 : decode cX7_init 95 = .ok (.iload_n 2, 1) := by decide +kernel
theorem dX7_init_96 : decode cX7_init 96 = .ok (.bipush 8, 2) := by decide +kernel
theorem dX7_init_98 : decode cX7_init 98 = .ok (.if_icmp .ge 16, 3) := by decide +kernel
theorem dX7_init_101 : decode cX7_init 101 = .ok (.aload_n 0, 1) := by decide +kernel
theorem dX7_init_102 : decode cX7_init 102 = .ok (.getfield 31, 3) := by decide +kernel
theorem dX7_init_105 : decode cX7_init 105 = .ok (.iload_n 2, 1) := by decide +kernel
theorem dX7_init_106 : decode cX7_init 106 = .ok (.iconst (-1), 1) := by decide +kernel
theorem dX7_init_107 : decode cX7_init 107 = .ok (.iastore, 1) := by decide +kernel
theorem dX7_init_108 : decode cX7_init 108 = .ok (.iinc 2 1, 3) := by decide +kernel
theorem dX7_init_111 : decode cX7_init 111 = .ok (.goto (-16), 3) := by decide +kernel
theorem dX7_init_114 : decode cX7_init 114 = .ok (.return_, 1) := by decide +kernel
theorem dX7_size_0 : decode cX7_size 0 = .ok (.aload_n 0, 1) := by decide +kernel
theorem dX7_size_1 : decode cX7_size 1 = .ok (.getfield 24, 3) := by decide +kernel
theorem dX7_size_4 : decode cX7_size 4 = .ok (.ireturn, 1) := by decide +kernel
theorem dX7_isFull_0 : decode cX7_isFull 0 = .ok (.aload_n 0, 1) := by decide +kernel
theorem dX7_isFull_1 : decode cX7_isFull 1 = .ok (.getfield 24, 3) := by decide +kernel
theorem dX7_isFull_4 : decode cX7_isFull 4 = .ok (.bipush 100, 2) := by decide +kernel
theorem dX7_isFull_6 : decode cX7_isFull 6 = .ok (.if_icmp .lt 7, 3) := by decide +kernel
theorem dX7_isFull_9 : decode cX7_isFull 9 = .ok (.iconst 1, 1) := by decide +kernel
theorem dX7_isFull_10 : decode cX7_isFull 10 = .ok (.goto 4, 3) := by decide +kernel
theorem dX7_isFull_13 : decode cX7_isFull 13 = .ok (.iconst 0, 1) := by decide +kernel
theorem dX7_isFull_14 : decode cX7_isFull 14 = .ok (.ireturn, 1) := by decide +kernel
theorem dX7_has_0 : decode cX7_has 0 = .ok (.iload_n 1, 1) := by decide +kernel
theorem dX7_has_1 : decode cX7_has 1 = .ok (.ifCond .lt 21, 3) := by decide +kernel
theorem dX7_has_4 : decode cX7_has 4 = .ok (.iload_n 1, 1) := by decide +kernel
theorem dX7_has_5 : decode cX7_has 5 = .ok (.aload_n 0, 1) := by decide +kernel
theorem dX7_has_6 : decode cX7_has 6 = .ok (.getfield 24, 3) := by decide +kernel
theorem dX7_has_9 : decode cX7_has 9 = .ok (.if_icmp .ge 13, 3) := by decide +kernel
theorem dX7_has_12 : decode cX7_has 12 = .ok (.iload_n 1, 1) := by decide +kernel
theorem dX7_has_13 : decode cX7_has 13 = .ok (.bipush 100, 2) := by decide +kernel
theorem dX7_has_15 : decode cX7_has 15 = .ok (.if_icmp .ge 7, 3) := by decide +kernel
theorem dX7_has_18 : decode cX7_has 18 = .ok (.iconst 1, 1) := by decide +kernel
theorem dX7_has_19 : decode cX7_has 19 = .ok (.goto 4, 3) := by decide +kernel
theorem dX7_has_22 : decode cX7_has 22 = .ok (.iconst 0, 1) := by decide +kernel
theorem dX7_has_23 : decode cX7_has 23 = .ok (.ireturn, 1) := by decide +kernel
theorem dX7_write_0 : decode cX7_write 0 = .ok (.aload_n 0, 1) := by decide +kernel
theorem dX7_write_1 : decode cX7_write 1 = .ok (.getfield 24, 3) := by decide +kernel
theorem dX7_write_4 : decode cX7_write 4 = .ok (.ifCond .lt 10, 3) := by decide +kernel
theorem dX7_write_7 : decode cX7_write 7 = .ok (.aload_n 0, 1) := by decide +kernel
theorem dX7_write_8 : decode cX7_write 8 = .ok (.invokevirtual 51, 3) := by decide +kernel
theorem dX7_write_11 : decode cX7_write 11 = .ok (.ifCond .eq 5, 3) := by decide +kernel
theorem dX7_write_14 : decode cX7_write 14 = .ok (.iconst (-1), 1) := by decide +kernel
theorem dX7_write_15 : decode cX7_write 15 = .ok (.ireturn, 1) := by decide +kernel
theorem dX7_write_16 : decode cX7_write 16 = .ok (.aload_n 0, 1) := by decide +kernel
theorem dX7_write_17 : decode cX7_write 17 = .ok (.getfield 9, 3) := by decide +kernel
theorem dX7_write_20 : decode cX7_write 20 = .ok (.aload_n 0, 1) := by decide +kernel
theorem dX7_write_21 : decode cX7_write 21 = .ok (.getfield 24, 3) := by decide +kernel
theorem dX7_write_24 : decode cX7_write 24 = .ok (.iload_n 1, 1) := by decide +kernel
theorem dX7_write_25 : decode cX7_write 25 = .ok (.iastore, 1) := by decide +kernel
theorem dX7_write_26 : decode cX7_write 26 = .ok (.aload_n 0, 1) := by decide +kernel
theorem dX7_write_27 : decode cX7_write 27 = .ok (.getfield 15, 3) := by decide +kernel
theorem dX7_write_30 : decode cX7_write 30 = .ok (.aload_n 0, 1) := by decide +kernel
theorem dX7_write_31 : decode cX7_write 31 = .ok (.getfield 24, 3) := by decide +kernel
theorem dX7_write_34 : decode cX7_write 34 = .ok (.iload_n 2, 1) := by decide +kernel
theorem dX7_write_35 : decode cX7_write 35 = .ok (.iastore, 1) := by decide +kernel
theorem dX7_write_36 : decode cX7_write 36 = .ok (.aload_n 0, 1) := by decide +kernel
theorem dX7_write_37 : decode cX7_write 37 = .ok (.getfield 18, 3) := by decide +kernel
theorem dX7_write_40 : decode cX7_write 40 = .ok (.aload_n 0, 1) := by decide +kernel
theorem dX7_write_41 : decode cX7_write 41 = .ok (.getfield 24, 3) := by decide +kernel
theorem dX7_write_44 : decode cX7_write 44 = .ok (.iload_n 3, 1) := by decide +kernel
theorem dX7_write_45 : decode cX7_write 45 = .ok (.iastore, 1) := by decide +kernel
theorem dX7_write_46 : decode cX7_write 46 = .ok (.aload_n 0, 1) := by decide +kernel
theorem dX7_write_47 : decode cX7_write 47 = .ok (.getfield 21, 3) := by decide +kernel
theorem dX7_write_50 : decode cX7_write 50 = .ok (.aload_n 0, 1) := by decide +kernel
theorem dX7_write_51 : decode cX7_write 51 = .ok (.getfield 24, 3) := by decide +kernel
theorem dX7_write_54 : decode cX7_write 54 = .ok (.iload 4, 2) := by decide +kernel
theorem dX7_write_56 : decode cX7_write 56 = .ok (.iastore, 1) := by decide +kernel
theorem dX7_write_57 : decode cX7_write 57 = .ok (.aload_n 0, 1) := by decide +kernel
theorem dX7_write_58 : decode cX7_write 58 = .ok (.dup, 1) := by decide +kernel
theorem dX7_write_59 : decode cX7_write 59 = .ok (.getfield 24, 3) := by decide +kernel
theorem dX7_write_62 : decode cX7_write 62 = .ok (.iconst 1, 1) := by decide +kernel
theorem dX7_write_63 : decode cX7_write 63 = .ok (.iadd, 1) := by decide +kernel
theorem dX7_write_64 : decode cX7_write 64 = .ok (.putfield 24, 3) := by decide +kernel
theorem dX7_write_67 : decode cX7_write 67 = .ok (.aload_n 0, 1) := by decide +kernel
theorem dX7_write_68 : decode cX7_write 68 = .ok (.getfield 24, 3) := by decide +kernel
theorem dX7_write_71 : decode cX7_write 71 = .ok (.iconst 1, 1) := by decide +kernel
theorem dX7_write_72 : decode cX7_write 72 = .ok (.isub, 1) := by decide +kernel
theorem dX7_write_73 : decode cX7_write 73 = .ok (.ireturn, 1) := by decide +kernel
theorem dX7_kindOf_0 : decode cX7_kindOf 0 = .ok (.aload_n 0, 1) := by decide +kernel
theorem dX7_kindOf_1 : decode cX7_kindOf 1 = .ok (.iload_n 1, 1) := by decide +kernel
theorem dX7_kindOf_2 : decode cX7_kindOf 2 = .ok (.invokevirtual 55, 3) := by decide +kernel
theorem dX7_kindOf_5 : decode cX7_kindOf 5 = .ok (.ifCond .eq 12, 3) := by decide +kernel
theorem dX7_kindOf_8 : decode cX7_kindOf 8 = .ok (.aload_n 0, 1) := by decide +kernel
theorem dX7_kindOf_9 : decode cX7_kindOf 9 = .ok (.getfield 9, 3) := by decide +kernel
theorem dX7_kindOf_12 : decode cX7_kindOf 12 = .ok (.iload_n 1, 1) := by decide +kernel
theorem dX7_kindOf_13 : decode cX7_kindOf 13 = .ok (.iaload, 1) := by decide +kernel
theorem dX7_kindOf_14 : decode cX7_kindOf 14 = .ok (.goto 4, 3) := by decide +kernel
theorem dX7_kindOf_17 : decode cX7_kindOf 17 = .ok (.iconst (-1), 1) := by decide +kernel
theorem dX7_kindOf_18 : decode cX7_kindOf 18 = .ok (.ireturn, 1) := by decide +kernel
theorem dX7_dayOf_0 : decode cX7_dayOf 0 = .ok (.aload_n 0, 1) := by decide +kernel
theorem dX7_dayOf_1 : decode cX7_dayOf 1 = .ok (.iload_n 1, 1) := by decide +kernel
theorem dX7_dayOf_2 : decode cX7_dayOf 2 = .ok (.invokevirtual 55, 3) := by decide +kernel
theorem dX7_dayOf_5 : decode cX7_dayOf 5 = .ok (.ifCond .eq 12, 3) := by decide +kernel
theorem dX7_dayOf_8 : decode cX7_dayOf 8 = .ok (.aload_n 0, 1) := by decide +kernel
theorem dX7_dayOf_9 : decode cX7_dayOf 9 = .ok (.getfield 15, 3) := by decide +kernel
theorem dX7_dayOf_12 : decode cX7_dayOf 12 = .ok (.iload_n 1, 1) := by decide +kernel
theorem dX7_dayOf_13 : decode cX7_dayOf 13 = .ok (.iaload, 1) := by decide +kernel
theorem dX7_dayOf_14 : decode cX7_dayOf 14 = .ok (.goto 4, 3) := by decide +kernel
theorem dX7_dayOf_17 : decode cX7_dayOf 17 = .ok (.iconst (-1), 1) := by decide +kernel
theorem dX7_dayOf_18 : decode cX7_dayOf 18 = .ok (.ireturn, 1) := by decide +kernel
theorem dX7_placeOf_0 : decode cX7_placeOf 0 = .ok (.aload_n 0, 1) := by decide +kernel
theorem dX7_placeOf_1 : decode cX7_placeOf 1 = .ok (.iload_n 1, 1) := by decide +kernel
theorem dX7_placeOf_2 : decode cX7_placeOf 2 = .ok (.invokevirtual 55, 3) := by decide +kernel
theorem dX7_placeOf_5 : decode cX7_placeOf 5 = .ok (.ifCond .eq 12, 3) := by decide +kernel
theorem dX7_placeOf_8 : decode cX7_placeOf 8 = .ok (.aload_n 0, 1) := by decide +kernel
theorem dX7_placeOf_9 : decode cX7_placeOf 9 = .ok (.getfield 18, 3) := by decide +kernel
theorem dX7_placeOf_12 : decode cX7_placeOf 12 = .ok (.iload_n 1, 1) := by decide +kernel
theorem dX7_placeOf_13 : decode cX7_placeOf 13 = .ok (.iaload, 1) := by decide +kernel
theorem dX7_placeOf_14 : decode cX7_placeOf 14 = .ok (.goto 4, 3) := by decide +kernel
theorem dX7_placeOf_17 : decode cX7_placeOf 17 = .ok (.iconst (-1), 1) := by decide +kernel
theorem dX7_placeOf_18 : decode cX7_placeOf 18 = .ok (.ireturn, 1) := by decide +kernel
theorem dX7_writtenOf_0 : decode cX7_writtenOf 0 = .ok (.aload_n 0, 1) := by decide +kernel
theorem dX7_writtenOf_1 : decode cX7_writtenOf 1 = .ok (.iload_n 1, 1) := by decide +kernel
theorem dX7_writtenOf_2 : decode cX7_writtenOf 2 = .ok (.invokevirtual 55, 3) := by decide +kernel
theorem dX7_writtenOf_5 : decode cX7_writtenOf 5 = .ok (.ifCond .eq 12, 3) := by decide +kernel
theorem dX7_writtenOf_8 : decode cX7_writtenOf 8 = .ok (.aload_n 0, 1) := by decide +kernel
theorem dX7_writtenOf_9 : decode cX7_writtenOf 9 = .ok (.getfield 21, 3) := by decide +kernel
theorem dX7_writtenOf_12 : decode cX7_writtenOf 12 = .ok (.iload_n 1, 1) := by decide +kernel
theorem dX7_writtenOf_13 : decode cX7_writtenOf 13 = .ok (.iaload, 1) := by decide +kernel
theorem dX7_writtenOf_14 : decode cX7_writtenOf 14 = .ok (.goto 4, 3) := by decide +kernel
theorem dX7_writtenOf_17 : decode cX7_writtenOf 17 = .ok (.iconst (-1), 1) := by decide +kernel
theorem dX7_writtenOf_18 : decode cX7_writtenOf 18 = .ok (.ireturn, 1) := by decide +kernel
theorem dX7_watchKind_0 : decode cX7_watchKind 0 = .ok (.iload_n 1, 1) := by decide +kernel
theorem dX7_watchKind_1 : decode cX7_watchKind 1 = .ok (.invokestatic 59, 3) := by decide +kernel
theorem dX7_watchKind_4 : decode cX7_watchKind 4 = .ok (.ifCond .ne 5, 3) := by decide +kernel
theorem dX7_watchKind_7 : decode cX7_watchKind 7 = .ok (.iconst (-1), 1) := by decide +kernel
theorem dX7_watchKind_8 : decode cX7_watchKind 8 = .ok (.ireturn, 1) := by decide +kernel
theorem dX7_watchKind_9 : decode cX7_watchKind 9 = .ok (.aload_n 0, 1) := by decide +kernel
theorem dX7_watchKind_10 : decode cX7_watchKind 10 = .ok (.iload_n 1, 1) := by decide +kernel
theorem dX7_watchKind_11 : decode cX7_watchKind 11 = .ok (.invokevirtual 62, 3) := by decide +kernel
theorem dX7_watchKind_14 : decode cX7_watchKind 14 = .ok (.istore 5, 2) := by decide +kernel
theorem dX7_watchKind_16 : decode cX7_watchKind 16 = .ok (.aload_n 0, 1) := by decide +kernel
theorem dX7_watchKind_17 : decode cX7_watchKind 17 = .ok (.getfield 28, 3) := by decide +kernel
theorem dX7_watchKind_20 : decode cX7_watchKind 20 = .ok (.iload_n 1, 1) := by decide +kernel
theorem dX7_watchKind_21 : decode cX7_watchKind 21 = .ok (.iload_n 2, 1) := by decide +kernel
theorem dX7_watchKind_22 : decode cX7_watchKind 22 = .ok (.iastore, 1) := by decide +kernel
theorem dX7_watchKind_23 : decode cX7_watchKind 23 = .ok (.aload_n 0, 1) := by decide +kernel
theorem dX7_watchKind_24 : decode cX7_watchKind 24 = .ok (.getfield 31, 3) := by decide +kernel
theorem dX7_watchKind_27 : decode cX7_watchKind 27 = .ok (.iload_n 1, 1) := by decide +kernel
theorem dX7_watchKind_28 : decode cX7_watchKind 28 = .ok (.iload_n 3, 1) := by decide +kernel
theorem dX7_watchKind_29 : decode cX7_watchKind 29 = .ok (.iastore, 1) := by decide +kernel
theorem dX7_watchKind_30 : decode cX7_watchKind 30 = .ok (.aload_n 0, 1) := by decide +kernel
theorem dX7_watchKind_31 : decode cX7_watchKind 31 = .ok (.getfield 34, 3) := by decide +kernel
theorem dX7_watchKind_34 : decode cX7_watchKind 34 = .ok (.iload_n 1, 1) := by decide +kernel
theorem dX7_watchKind_35 : decode cX7_watchKind 35 = .ok (.iload 4, 2) := by decide +kernel
theorem dX7_watchKind_37 : decode cX7_watchKind 37 = .ok (.iastore, 1) := by decide +kernel
theorem dX7_watchKind_38 : decode cX7_watchKind 38 = .ok (.iload 5, 2) := by decide +kernel
theorem dX7_watchKind_40 : decode cX7_watchKind 40 = .ok (.ireturn, 1) := by decide +kernel
theorem dX7_isCounted_0 : decode cX7_isCounted 0 = .ok (.iload_n 1, 1) := by decide +kernel
theorem dX7_isCounted_1 : decode cX7_isCounted 1 = .ok (.invokestatic 59, 3) := by decide +kernel
theorem dX7_isCounted_4 : decode cX7_isCounted 4 = .ok (.ifCond .eq 17, 3) := by decide +kernel
theorem dX7_isCounted_7 : decode cX7_isCounted 7 = .ok (.aload_n 0, 1) := by decide +kernel
theorem dX7_isCounted_8 : decode cX7_isCounted 8 = .ok (.getfield 31, 3) := by decide +kernel
theorem dX7_isCounted_11 : decode cX7_isCounted 11 = .ok (.iload_n 1, 1) := by decide +kernel
theorem dX7_isCounted_12 : decode cX7_isCounted 12 = .ok (.iaload, 1) := by decide +kernel
theorem dX7_isCounted_13 : decode cX7_isCounted 13 = .ok (.iconst (-1), 1) := by decide +kernel
theorem dX7_isCounted_14 : decode cX7_isCounted 14 = .ok (.if_icmp .eq 7, 3) := by decide +kernel
theorem dX7_isCounted_17 : decode cX7_isCounted 17 = .ok (.iconst 1, 1) := by decide +kernel
theorem dX7_isCounted_18 : decode cX7_isCounted 18 = .ok (.goto 4, 3) := by decide +kernel
theorem dX7_isCounted_21 : decode cX7_isCounted 21 = .ok (.iconst 0, 1) := by decide +kernel
theorem dX7_isCounted_22 : decode cX7_isCounted 22 = .ok (.ireturn, 1) := by decide +kernel
theorem dX7_firstCounted_0 : decode cX7_firstCounted 0 = .ok (.iload_n 1, 1) := by decide +kernel
theorem dX7_firstCounted_1 : decode cX7_firstCounted 1 = .ok (.invokestatic 59, 3) := by decide +kernel
theorem dX7_firstCounted_4 : decode cX7_firstCounted 4 = .ok (.ifCond .eq 12, 3) := by decide +kernel
theorem dX7_firstCounted_7 : decode cX7_firstCounted 7 = .ok (.aload_n 0, 1) := by decide +kernel
theorem dX7_firstCounted_8 : decode cX7_firstCounted 8 = .ok (.getfield 31, 3) := by decide +kernel
theorem dX7_firstCounted_11 : decode cX7_firstCounted 11 = .ok (.iload_n 1, 1) := by decide +kernel
theorem dX7_firstCounted_12 : decode cX7_firstCounted 12 = .ok (.iaload, 1) := by decide +kernel
theorem dX7_firstCounted_13 : decode cX7_firstCounted 13 = .ok (.goto 4, 3) := by decide +kernel
theorem dX7_firstCounted_16 : decode cX7_firstCounted 16 = .ok (.iconst (-1), 1) := by decide +kernel
theorem dX7_firstCounted_17 : decode cX7_firstCounted 17 = .ok (.ireturn, 1) := by decide +kernel
theorem dX7_lastCounted_0 : decode cX7_lastCounted 0 = .ok (.aload_n 0, 1) := by decide +kernel
theorem dX7_lastCounted_1 : decode cX7_lastCounted 1 = .ok (.iload_n 1, 1) := by decide +kernel
theorem dX7_lastCounted_2 : decode cX7_lastCounted 2 = .ok (.invokevirtual 66, 3) := by decide +kernel
theorem dX7_lastCounted_5 : decode cX7_lastCounted 5 = .ok (.ifCond .eq 12, 3) := by decide +kernel
theorem dX7_lastCounted_8 : decode cX7_lastCounted 8 = .ok (.aload_n 0, 1) := by decide +kernel
theorem dX7_lastCounted_9 : decode cX7_lastCounted 9 = .ok (.getfield 34, 3) := by decide +kernel
theorem dX7_lastCounted_12 : decode cX7_lastCounted 12 = .ok (.iload_n 1, 1) := by decide +kernel
theorem dX7_lastCounted_13 : decode cX7_lastCounted 13 = .ok (.iaload, 1) := by decide +kernel
theorem dX7_lastCounted_14 : decode cX7_lastCounted 14 = .ok (.goto 4, 3) := by decide +kernel
theorem dX7_lastCounted_17 : decode cX7_lastCounted 17 = .ok (.iconst (-1), 1) := by decide +kernel
theorem dX7_lastCounted_18 : decode cX7_lastCounted 18 = .ok (.ireturn, 1) := by decide +kernel
theorem dX7_countedDays_0 : decode cX7_countedDays 0 = .ok (.aload_n 0, 1) := by decide +kernel
theorem dX7_countedDays_1 : decode cX7_countedDays 1 = .ok (.iload_n 1, 1) := by decide +kernel
theorem dX7_countedDays_2 : decode cX7_countedDays 2 = .ok (.invokevirtual 66, 3) := by decide +kernel
theorem dX7_countedDays_5 : decode cX7_countedDays 5 = .ok (.ifCond .eq 21, 3) := by decide +kernel
theorem dX7_countedDays_8 : decode cX7_countedDays 8 = .ok (.aload_n 0, 1) := by decide +kernel
theorem dX7_countedDays_9 : decode cX7_countedDays 9 = .ok (.getfield 34, 3) := by decide +kernel
theorem dX7_countedDays_12 : decode cX7_countedDays 12 = .ok (.iload_n 1, 1) := by decide +kernel
theorem dX7_countedDays_13 : decode cX7_countedDays 13 = .ok (.iaload, 1) := by decide +kernel
theorem dX7_countedDays_14 : decode cX7_countedDays 14 = .ok (.aload_n 0, 1) := by decide +kernel
theorem dX7_countedDays_15 : decode cX7_countedDays 15 = .ok (.getfield 31, 3) := by decide +kernel
theorem dX7_countedDays_18 : decode cX7_countedDays 18 = .ok (.iload_n 1, 1) := by decide +kernel
theorem dX7_countedDays_19 : decode cX7_countedDays 19 = .ok (.iaload, 1) := by decide +kernel
theorem dX7_countedDays_20 : decode cX7_countedDays 20 = .ok (.isub, 1) := by decide +kernel
theorem dX7_countedDays_21 : decode cX7_countedDays 21 = .ok (.iconst 1, 1) := by decide +kernel
theorem dX7_countedDays_22 : decode cX7_countedDays 22 = .ok (.iadd, 1) := by decide +kernel
theorem dX7_countedDays_23 : decode cX7_countedDays 23 = .ok (.goto 4, 3) := by decide +kernel
theorem dX7_countedDays_26 : decode cX7_countedDays 26 = .ok (.iconst 0, 1) := by decide +kernel
theorem dX7_countedDays_27 : decode cX7_countedDays 27 = .ok (.ireturn, 1) := by decide +kernel
theorem dX7_watchPlace_0 : decode cX7_watchPlace 0 = .ok (.iload_n 1, 1) := by decide +kernel
theorem dX7_watchPlace_1 : decode cX7_watchPlace 1 = .ok (.invokestatic 59, 3) := by decide +kernel
theorem dX7_watchPlace_4 : decode cX7_watchPlace 4 = .ok (.ifCond .eq 12, 3) := by decide +kernel
theorem dX7_watchPlace_7 : decode cX7_watchPlace 7 = .ok (.aload_n 0, 1) := by decide +kernel
theorem dX7_watchPlace_8 : decode cX7_watchPlace 8 = .ok (.getfield 28, 3) := by decide +kernel
theorem dX7_watchPlace_11 : decode cX7_watchPlace 11 = .ok (.iload_n 1, 1) := by decide +kernel
theorem dX7_watchPlace_12 : decode cX7_watchPlace 12 = .ok (.iaload, 1) := by decide +kernel
theorem dX7_watchPlace_13 : decode cX7_watchPlace 13 = .ok (.goto 4, 3) := by decide +kernel
theorem dX7_watchPlace_16 : decode cX7_watchPlace 16 = .ok (.iconst (-1), 1) := by decide +kernel
theorem dX7_watchPlace_17 : decode cX7_watchPlace 17 = .ok (.ireturn, 1) := by decide +kernel
theorem dX7_isCountedOn_0 : decode cX7_isCountedOn 0 = .ok (.aload_n 0, 1) := by decide +kernel
theorem dX7_isCountedOn_1 : decode cX7_isCountedOn 1 = .ok (.iload_n 1, 1) := by decide +kernel
theorem dX7_isCountedOn_2 : decode cX7_isCountedOn 2 = .ok (.invokevirtual 66, 3) := by decide +kernel
theorem dX7_isCountedOn_5 : decode cX7_isCountedOn 5 = .ok (.ifCond .eq 26, 3) := by decide +kernel
theorem dX7_isCountedOn_8 : decode cX7_isCountedOn 8 = .ok (.iload_n 2, 1) := by decide +kernel
theorem dX7_isCountedOn_9 : decode cX7_isCountedOn 9 = .ok (.aload_n 0, 1) := by decide +kernel
theorem dX7_isCountedOn_10 : decode cX7_isCountedOn 10 = .ok (.getfield 31, 3) := by decide +kernel
theorem dX7_isCountedOn_13 : decode cX7_isCountedOn 13 = .ok (.iload_n 1, 1) := by decide +kernel
theorem dX7_isCountedOn_14 : decode cX7_isCountedOn 14 = .ok (.iaload, 1) := by decide +kernel
theorem dX7_isCountedOn_15 : decode cX7_isCountedOn 15 = .ok (.aload_n 0, 1) := by decide +kernel
theorem dX7_isCountedOn_16 : decode cX7_isCountedOn 16 = .ok (.getfield 34, 3) := by decide +kernel
theorem dX7_isCountedOn_19 : decode cX7_isCountedOn 19 = .ok (.iload_n 1, 1) := by decide +kernel
theorem dX7_isCountedOn_20 : decode cX7_isCountedOn 20 = .ok (.iaload, 1) := by decide +kernel
theorem dX7_isCountedOn_21 : decode cX7_isCountedOn 21 = .ok (.invokestatic 69, 3) := by decide +kernel
theorem dX7_isCountedOn_24 : decode cX7_isCountedOn 24 = .ok (.ifCond .eq 7, 3) := by decide +kernel
theorem dX7_isCountedOn_27 : decode cX7_isCountedOn 27 = .ok (.iconst 1, 1) := by decide +kernel
theorem dX7_isCountedOn_28 : decode cX7_isCountedOn 28 = .ok (.goto 4, 3) := by decide +kernel
theorem dX7_isCountedOn_31 : decode cX7_isCountedOn 31 = .ok (.iconst 0, 1) := by decide +kernel
theorem dX7_isCountedOn_32 : decode cX7_isCountedOn 32 = .ok (.ireturn, 1) := by decide +kernel
theorem dX7_changeRain_0 : decode cX7_changeRain 0 = .ok (.aload_n 0, 1) := by decide +kernel
theorem dX7_changeRain_1 : decode cX7_changeRain 1 = .ok (.iload_n 1, 1) := by decide +kernel
theorem dX7_changeRain_2 : decode cX7_changeRain 2 = .ok (.invokevirtual 73, 3) := by decide +kernel
theorem dX7_changeRain_5 : decode cX7_changeRain 5 = .ok (.istore_n 3, 1) := by decide +kernel
theorem dX7_changeRain_6 : decode cX7_changeRain 6 = .ok (.iload_n 1, 1) := by decide +kernel
theorem dX7_changeRain_7 : decode cX7_changeRain 7 = .ok (.invokestatic 76, 3) := by decide +kernel
theorem dX7_changeRain_10 : decode cX7_changeRain 10 = .ok (.ifCond .eq 33, 3) := by decide +kernel
theorem dX7_changeRain_13 : decode cX7_changeRain 13 = .ok (.iload_n 3, 1) := by decide +kernel
theorem dX7_changeRain_14 : decode cX7_changeRain 14 = .ok (.iload_n 2, 1) := by decide +kernel
theorem dX7_changeRain_15 : decode cX7_changeRain 15 = .ok (.if_icmp .eq 28, 3) := by decide +kernel
theorem dX7_changeRain_18 : decode cX7_changeRain 18 = .ok (.aload_n 0, 1) := by decide +kernel
theorem dX7_changeRain_19 : decode cX7_changeRain 19 = .ok (.getfield 37, 3) := by decide +kernel
theorem dX7_changeRain_22 : decode cX7_changeRain 22 = .ok (.iload_n 1, 1) := by decide +kernel
theorem dX7_changeRain_23 : decode cX7_changeRain 23 = .ok (.iload_n 2, 1) := by decide +kernel
theorem dX7_changeRain_24 : decode cX7_changeRain 24 = .ok (.bastore, 1) := by decide +kernel
theorem dX7_changeRain_25 : decode cX7_changeRain 25 = .ok (.aload_n 0, 1) := by decide +kernel
theorem dX7_changeRain_26 : decode cX7_changeRain 26 = .ok (.dup, 1) := by decide +kernel
theorem dX7_changeRain_27 : decode cX7_changeRain 27 = .ok (.getfield 41, 3) := by decide +kernel
theorem dX7_changeRain_30 : decode cX7_changeRain 30 = .ok (.iload_n 2, 1) := by decide +kernel
theorem dX7_changeRain_31 : decode cX7_changeRain 31 = .ok (.ifCond .eq 7, 3) := by decide +kernel
theorem dX7_changeRain_34 : decode cX7_changeRain 34 = .ok (.iconst 1, 1) := by decide +kernel
theorem dX7_changeRain_35 : decode cX7_changeRain 35 = .ok (.goto 4, 3) := by decide +kernel
theorem dX7_changeRain_38 : decode cX7_changeRain 38 = .ok (.iconst (-1), 1) := by decide +kernel
theorem dX7_changeRain_39 : decode cX7_changeRain 39 = .ok (.iadd, 1) := by decide +kernel
theorem dX7_changeRain_40 : decode cX7_changeRain 40 = .ok (.putfield 41, 3) := by decide +kernel
theorem dX7_changeRain_43 : decode cX7_changeRain 43 = .ok (.iload_n 3, 1) := by decide +kernel
theorem dX7_changeRain_44 : decode cX7_changeRain 44 = .ok (.ifCond .eq 7, 3) := by decide +kernel
theorem dX7_changeRain_47 : decode cX7_changeRain 47 = .ok (.iconst 1, 1) := by decide +kernel
theorem dX7_changeRain_48 : decode cX7_changeRain 48 = .ok (.goto 4, 3) := by decide +kernel
theorem dX7_changeRain_51 : decode cX7_changeRain 51 = .ok (.iconst 0, 1) := by decide +kernel
theorem dX7_changeRain_52 : decode cX7_changeRain 52 = .ok (.ireturn, 1) := by decide +kernel
theorem dX7_rainyDays_0 : decode cX7_rainyDays 0 = .ok (.aload_n 0, 1) := by decide +kernel
theorem dX7_rainyDays_1 : decode cX7_rainyDays 1 = .ok (.getfield 41, 3) := by decide +kernel
theorem dX7_rainyDays_4 : decode cX7_rainyDays 4 = .ok (.ireturn, 1) := by decide +kernel
theorem dX7_isRainyOn_0 : decode cX7_isRainyOn 0 = .ok (.iload_n 1, 1) := by decide +kernel
theorem dX7_isRainyOn_1 : decode cX7_isRainyOn 1 = .ok (.invokestatic 76, 3) := by decide +kernel
theorem dX7_isRainyOn_4 : decode cX7_isRainyOn 4 = .ok (.ifCond .eq 16, 3) := by decide +kernel
theorem dX7_isRainyOn_7 : decode cX7_isRainyOn 7 = .ok (.aload_n 0, 1) := by decide +kernel
theorem dX7_isRainyOn_8 : decode cX7_isRainyOn 8 = .ok (.getfield 37, 3) := by decide +kernel
theorem dX7_isRainyOn_11 : decode cX7_isRainyOn 11 = .ok (.iload_n 1, 1) := by decide +kernel
theorem dX7_isRainyOn_12 : decode cX7_isRainyOn 12 = .ok (.baload, 1) := by decide +kernel
theorem dX7_isRainyOn_13 : decode cX7_isRainyOn 13 = .ok (.ifCond .eq 7, 3) := by decide +kernel
theorem dX7_isRainyOn_16 : decode cX7_isRainyOn 16 = .ok (.iconst 1, 1) := by decide +kernel
theorem dX7_isRainyOn_17 : decode cX7_isRainyOn 17 = .ok (.goto 4, 3) := by decide +kernel
theorem dX7_isRainyOn_20 : decode cX7_isRainyOn 20 = .ok (.iconst 0, 1) := by decide +kernel
theorem dX7_isRainyOn_21 : decode cX7_isRainyOn 21 = .ok (.ireturn, 1) := by decide +kernel
theorem dX7_owedOf_0 : decode cX7_owedOf 0 = .ok (.aload_n 0, 1) := by decide +kernel
theorem dX7_owedOf_1 : decode cX7_owedOf 1 = .ok (.iload_n 1, 1) := by decide +kernel
theorem dX7_owedOf_2 : decode cX7_owedOf 2 = .ok (.invokevirtual 79, 3) := by decide +kernel
theorem dX7_owedOf_5 : decode cX7_owedOf 5 = .ok (.istore_n 2, 1) := by decide +kernel
theorem dX7_owedOf_6 : decode cX7_owedOf 6 = .ok (.aload_n 0, 1) := by decide +kernel
theorem dX7_owedOf_7 : decode cX7_owedOf 7 = .ok (.getfield 47, 3) := by decide +kernel
theorem dX7_owedOf_10 : decode cX7_owedOf 10 = .ok (.iload_n 2, 1) := by decide +kernel
theorem dX7_owedOf_11 : decode cX7_owedOf 11 = .ok (.invokevirtual 82, 3) := by decide +kernel
theorem dX7_owedOf_14 : decode cX7_owedOf 14 = .ok (.ifCond .eq 5, 3) := by decide +kernel
theorem dX7_owedOf_17 : decode cX7_owedOf 17 = .ok (.iconst 1, 1) := by decide +kernel
theorem dX7_owedOf_18 : decode cX7_owedOf 18 = .ok (.ireturn, 1) := by decide +kernel
theorem dX7_owedOf_19 : decode cX7_owedOf 19 = .ok (.aload_n 0, 1) := by decide +kernel
theorem dX7_owedOf_20 : decode cX7_owedOf 20 = .ok (.getfield 47, 3) := by decide +kernel
theorem dX7_owedOf_23 : decode cX7_owedOf 23 = .ok (.bipush 7, 2) := by decide +kernel
theorem dX7_owedOf_25 : decode cX7_owedOf 25 = .ok (.invokevirtual 87, 3) := by decide +kernel
theorem dX7_owedOf_28 : decode cX7_owedOf 28 = .ok (.istore_n 3, 1) := by decide +kernel
theorem dX7_owedOf_29 : decode cX7_owedOf 29 = .ok (.iconst 0, 1) := by decide +kernel
theorem dX7_owedOf_30 : decode cX7_owedOf 30 = .ok (.istore 4, 2) := by decide +kernel
theorem dX7_owedOf_32 : decode cX7_owedOf 32 = .ok (.iload 4, 2) := by decide +kernel
theorem dX7_owedOf_34 : decode cX7_owedOf 34 = .ok (.iload_n 3, 1) := by decide +kernel
theorem dX7_owedOf_35 : decode cX7_owedOf 35 = .ok (.if_icmp .ge 22, 3) := by decide +kernel
theorem dX7_owedOf_38 : decode cX7_owedOf 38 = .ok (.aload_n 0, 1) := by decide +kernel
theorem dX7_owedOf_39 : decode cX7_owedOf 39 = .ok (.iload_n 2, 1) := by decide +kernel
theorem dX7_owedOf_40 : decode cX7_owedOf 40 = .ok (.iload 4, 2) := by decide +kernel
theorem dX7_owedOf_42 : decode cX7_owedOf 42 = .ok (.isub, 1) := by decide +kernel
theorem dX7_owedOf_43 : decode cX7_owedOf 43 = .ok (.invokevirtual 73, 3) := by decide +kernel
theorem dX7_owedOf_46 : decode cX7_owedOf 46 = .ok (.ifCond .eq 5, 3) := by decide +kernel
theorem dX7_owedOf_49 : decode cX7_owedOf 49 = .ok (.iconst 2, 1) := by decide +kernel
theorem dX7_owedOf_50 : decode cX7_owedOf 50 = .ok (.ireturn, 1) := by decide +kernel
theorem dX7_owedOf_51 : decode cX7_owedOf 51 = .ok (.iinc 4 1, 3) := by decide +kernel
theorem dX7_owedOf_54 : decode cX7_owedOf 54 = .ok (.goto (-22), 3) := by decide +kernel
theorem dX7_owedOf_57 : decode cX7_owedOf 57 = .ok (.iconst 0, 1) := by decide +kernel
theorem dX7_owedOf_58 : decode cX7_owedOf 58 = .ok (.ireturn, 1) := by decide +kernel
theorem dX7_isEven_0 : decode cX7_isEven 0 = .ok (.aload_n 0, 1) := by decide +kernel
theorem dX7_isEven_1 : decode cX7_isEven 1 = .ok (.iload_n 1, 1) := by decide +kernel
theorem dX7_isEven_2 : decode cX7_isEven 2 = .ok (.invokevirtual 90, 3) := by decide +kernel
theorem dX7_isEven_5 : decode cX7_isEven 5 = .ok (.istore_n 2, 1) := by decide +kernel
theorem dX7_isEven_6 : decode cX7_isEven 6 = .ok (.aload_n 0, 1) := by decide +kernel
theorem dX7_isEven_7 : decode cX7_isEven 7 = .ok (.iload_n 1, 1) := by decide +kernel
theorem dX7_isEven_8 : decode cX7_isEven 8 = .ok (.invokevirtual 79, 3) := by decide +kernel
theorem dX7_isEven_11 : decode cX7_isEven 11 = .ok (.istore_n 3, 1) := by decide +kernel
theorem dX7_isEven_12 : decode cX7_isEven 12 = .ok (.aload_n 0, 1) := by decide +kernel
theorem dX7_isEven_13 : decode cX7_isEven 13 = .ok (.iload_n 2, 1) := by decide +kernel
theorem dX7_isEven_14 : decode cX7_isEven 14 = .ok (.iload_n 3, 1) := by decide +kernel
theorem dX7_isEven_15 : decode cX7_isEven 15 = .ok (.invokevirtual 93, 3) := by decide +kernel
theorem dX7_isEven_18 : decode cX7_isEven 18 = .ok (.ifCond .eq 37, 3) := by decide +kernel
theorem dX7_isEven_21 : decode cX7_isEven 21 = .ok (.aload_n 0, 1) := by decide +kernel
theorem dX7_isEven_22 : decode cX7_isEven 22 = .ok (.iload_n 1, 1) := by decide +kernel
theorem dX7_isEven_23 : decode cX7_isEven 23 = .ok (.invokevirtual 97, 3) := by decide +kernel
theorem dX7_isEven_26 : decode cX7_isEven 26 = .ok (.aload_n 0, 1) := by decide +kernel
theorem dX7_isEven_27 : decode cX7_isEven 27 = .ok (.iload_n 2, 1) := by decide +kernel
theorem dX7_isEven_28 : decode cX7_isEven 28 = .ok (.invokevirtual 100, 3) := by decide +kernel
theorem dX7_isEven_31 : decode cX7_isEven 31 = .ok (.if_icmp .ne 24, 3) := by decide +kernel
theorem dX7_isEven_34 : decode cX7_isEven 34 = .ok (.aload_n 0, 1) := by decide +kernel
theorem dX7_isEven_35 : decode cX7_isEven 35 = .ok (.iload_n 1, 1) := by decide +kernel
theorem dX7_isEven_36 : decode cX7_isEven 36 = .ok (.invokevirtual 103, 3) := by decide +kernel
theorem dX7_isEven_39 : decode cX7_isEven 39 = .ok (.iload_n 3, 1) := by decide +kernel
theorem dX7_isEven_40 : decode cX7_isEven 40 = .ok (.if_icmp .ne 15, 3) := by decide +kernel
theorem dX7_isEven_43 : decode cX7_isEven 43 = .ok (.aload_n 0, 1) := by decide +kernel
theorem dX7_isEven_44 : decode cX7_isEven 44 = .ok (.iload_n 1, 1) := by decide +kernel
theorem dX7_isEven_45 : decode cX7_isEven 45 = .ok (.invokevirtual 106, 3) := by decide +kernel
theorem dX7_isEven_48 : decode cX7_isEven 48 = .ok (.ifCond .ne 7, 3) := by decide +kernel
theorem dX7_isEven_51 : decode cX7_isEven 51 = .ok (.iconst 1, 1) := by decide +kernel
theorem dX7_isEven_52 : decode cX7_isEven 52 = .ok (.goto 4, 3) := by decide +kernel
theorem dX7_isEven_55 : decode cX7_isEven 55 = .ok (.iconst 0, 1) := by decide +kernel
theorem dX7_isEven_56 : decode cX7_isEven 56 = .ok (.ireturn, 1) := by decide +kernel
theorem dX7_findOddDays_0 : decode cX7_findOddDays 0 = .ok (.iconst 0, 1) := by decide +kernel
theorem dX7_findOddDays_1 : decode cX7_findOddDays 1 = .ok (.istore_n 1, 1) := by decide +kernel
theorem dX7_findOddDays_2 : decode cX7_findOddDays 2 = .ok (.iload_n 1, 1) := by decide +kernel
theorem dX7_findOddDays_3 : decode cX7_findOddDays 3 = .ok (.sipush 400, 3) := by decide +kernel
theorem dX7_findOddDays_6 : decode cX7_findOddDays 6 = .ok (.if_icmp .ge 16, 3) := by decide +kernel
theorem dX7_findOddDays_9 : decode cX7_findOddDays 9 = .ok (.aload_n 0, 1) := by decide +kernel
theorem dX7_findOddDays_10 : decode cX7_findOddDays 10 = .ok (.getfield 44, 3) := by decide +kernel
theorem dX7_findOddDays_13 : decode cX7_findOddDays 13 = .ok (.iload_n 1, 1) := by decide +kernel
theorem dX7_findOddDays_14 : decode cX7_findOddDays 14 = .ok (.iconst 0, 1) := by decide +kernel
theorem dX7_findOddDays_15 : decode cX7_findOddDays 15 = .ok (.iastore, 1) := by decide +kernel
theorem dX7_findOddDays_16 : decode cX7_findOddDays 16 = .ok (.iinc 1 1, 3) := by decide +kernel
theorem dX7_findOddDays_19 : decode cX7_findOddDays 19 = .ok (.goto (-17), 3) := by decide +kernel
theorem dX7_findOddDays_22 : decode cX7_findOddDays 22 = .ok (.iconst 0, 1) := by decide +kernel
theorem dX7_findOddDays_23 : decode cX7_findOddDays 23 = .ok (.istore_n 1, 1) := by decide +kernel
theorem dX7_findOddDays_24 : decode cX7_findOddDays 24 = .ok (.iload_n 1, 1) := by decide +kernel
theorem dX7_findOddDays_25 : decode cX7_findOddDays 25 = .ok (.aload_n 0, 1) := by decide +kernel
theorem dX7_findOddDays_26 : decode cX7_findOddDays 26 = .ok (.getfield 24, 3) := by decide +kernel
theorem dX7_findOddDays_29 : decode cX7_findOddDays 29 = .ok (.if_icmp .ge 46, 3) := by decide +kernel
theorem dX7_findOddDays_32 : decode cX7_findOddDays 32 = .ok (.aload_n 0, 1) := by decide +kernel
theorem dX7_findOddDays_33 : decode cX7_findOddDays 33 = .ok (.iload_n 1, 1) := by decide +kernel
theorem dX7_findOddDays_34 : decode cX7_findOddDays 34 = .ok (.invokevirtual 79, 3) := by decide +kernel
theorem dX7_findOddDays_37 : decode cX7_findOddDays 37 = .ok (.istore_n 2, 1) := by decide +kernel
theorem dX7_findOddDays_38 : decode cX7_findOddDays 38 = .ok (.iload_n 2, 1) := by decide +kernel
theorem dX7_findOddDays_39 : decode cX7_findOddDays 39 = .ok (.invokestatic 76, 3) := by decide +kernel
theorem dX7_findOddDays_42 : decode cX7_findOddDays 42 = .ok (.ifCond .eq 27, 3) := by decide +kernel
theorem dX7_findOddDays_45 : decode cX7_findOddDays 45 = .ok (.aload_n 0, 1) := by decide +kernel
theorem dX7_findOddDays_46 : decode cX7_findOddDays 46 = .ok (.iload_n 1, 1) := by decide +kernel
theorem dX7_findOddDays_47 : decode cX7_findOddDays 47 = .ok (.invokevirtual 109, 3) := by decide +kernel
theorem dX7_findOddDays_50 : decode cX7_findOddDays 50 = .ok (.ifCond .eq 19, 3) := by decide +kernel
theorem dX7_findOddDays_53 : decode cX7_findOddDays 53 = .ok (.aload_n 0, 1) := by decide +kernel
theorem dX7_findOddDays_54 : decode cX7_findOddDays 54 = .ok (.getfield 44, 3) := by decide +kernel
theorem dX7_findOddDays_57 : decode cX7_findOddDays 57 = .ok (.iload_n 2, 1) := by decide +kernel
theorem dX7_findOddDays_58 : decode cX7_findOddDays 58 = .ok (.dup2, 1) := by decide +kernel
theorem dX7_findOddDays_59 : decode cX7_findOddDays 59 = .ok (.iaload, 1) := by decide +kernel
theorem dX7_findOddDays_60 : decode cX7_findOddDays 60 = .ok (.iconst 1, 1) := by decide +kernel
theorem dX7_findOddDays_61 : decode cX7_findOddDays 61 = .ok (.aload_n 0, 1) := by decide +kernel
theorem dX7_findOddDays_62 : decode cX7_findOddDays 62 = .ok (.iload_n 1, 1) := by decide +kernel
theorem dX7_findOddDays_63 : decode cX7_findOddDays 63 = .ok (.invokevirtual 90, 3) := by decide +kernel
theorem dX7_findOddDays_66 : decode cX7_findOddDays 66 = .ok (.ishl, 1) := by decide +kernel
theorem dX7_findOddDays_67 : decode cX7_findOddDays 67 = .ok (.ior, 1) := by decide +kernel
theorem dX7_findOddDays_68 : decode cX7_findOddDays 68 = .ok (.iastore, 1) := by decide +kernel
theorem dX7_findOddDays_69 : decode cX7_findOddDays 69 = .ok (.iinc 1 1, 3) := by decide +kernel
theorem dX7_findOddDays_72 : decode cX7_findOddDays 72 = .ok (.goto (-48), 3) := by decide +kernel
theorem dX7_findOddDays_75 : decode cX7_findOddDays 75 = .ok (.return_, 1) := by decide +kernel
theorem dX7_isOdd_0 : decode cX7_isOdd 0 = .ok (.iload_n 2, 1) := by decide +kernel
theorem dX7_isOdd_1 : decode cX7_isOdd 1 = .ok (.invokestatic 76, 3) := by decide +kernel
theorem dX7_isOdd_4 : decode cX7_isOdd 4 = .ok (.ifCond .eq 21, 3) := by decide +kernel
theorem dX7_isOdd_7 : decode cX7_isOdd 7 = .ok (.aload_n 0, 1) := by decide +kernel
theorem dX7_isOdd_8 : decode cX7_isOdd 8 = .ok (.getfield 44, 3) := by decide +kernel
theorem dX7_isOdd_11 : decode cX7_isOdd 11 = .ok (.iload_n 2, 1) := by decide +kernel
theorem dX7_isOdd_12 : decode cX7_isOdd 12 = .ok (.iaload, 1) := by decide +kernel
theorem dX7_isOdd_13 : decode cX7_isOdd 13 = .ok (.iload_n 1, 1) := by decide +kernel
theorem dX7_isOdd_14 : decode cX7_isOdd 14 = .ok (.ishr, 1) := by decide +kernel
theorem dX7_isOdd_15 : decode cX7_isOdd 15 = .ok (.iconst 1, 1) := by decide +kernel
theorem dX7_isOdd_16 : decode cX7_isOdd 16 = .ok (.iand, 1) := by decide +kernel
theorem dX7_isOdd_17 : decode cX7_isOdd 17 = .ok (.iconst 1, 1) := by decide +kernel
theorem dX7_isOdd_18 : decode cX7_isOdd 18 = .ok (.if_icmp .ne 7, 3) := by decide +kernel
theorem dX7_isOdd_21 : decode cX7_isOdd 21 = .ok (.iconst 1, 1) := by decide +kernel
theorem dX7_isOdd_22 : decode cX7_isOdd 22 = .ok (.goto 4, 3) := by decide +kernel
theorem dX7_isOdd_25 : decode cX7_isOdd 25 = .ok (.iconst 0, 1) := by decide +kernel
theorem dX7_isOdd_26 : decode cX7_isOdd 26 = .ok (.ireturn, 1) := by decide +kernel
theorem dX7_oddDays_0 : decode cX7_oddDays 0 = .ok (.iconst 0, 1) := by decide +kernel
theorem dX7_oddDays_1 : decode cX7_oddDays 1 = .ok (.istore_n 2, 1) := by decide +kernel
theorem dX7_oddDays_2 : decode cX7_oddDays 2 = .ok (.iconst 0, 1) := by decide +kernel
theorem dX7_oddDays_3 : decode cX7_oddDays 3 = .ok (.istore_n 3, 1) := by decide +kernel
theorem dX7_oddDays_4 : decode cX7_oddDays 4 = .ok (.iload_n 3, 1) := by decide +kernel
theorem dX7_oddDays_5 : decode cX7_oddDays 5 = .ok (.sipush 400, 3) := by decide +kernel
theorem dX7_oddDays_8 : decode cX7_oddDays 8 = .ok (.if_icmp .ge 21, 3) := by decide +kernel
theorem dX7_oddDays_11 : decode cX7_oddDays 11 = .ok (.aload_n 0, 1) := by decide +kernel
theorem dX7_oddDays_12 : decode cX7_oddDays 12 = .ok (.iload_n 1, 1) := by decide +kernel
theorem dX7_oddDays_13 : decode cX7_oddDays 13 = .ok (.iload_n 3, 1) := by decide +kernel
theorem dX7_oddDays_14 : decode cX7_oddDays 14 = .ok (.invokevirtual 112, 3) := by decide +kernel
theorem dX7_oddDays_17 : decode cX7_oddDays 17 = .ok (.ifCond .eq 6, 3) := by decide +kernel
theorem dX7_oddDays_20 : decode cX7_oddDays 20 = .ok (.iinc 2 1, 3) := by decide +kernel
theorem dX7_oddDays_23 : decode cX7_oddDays 23 = .ok (.iinc 3 1, 3) := by decide +kernel
theorem dX7_oddDays_26 : decode cX7_oddDays 26 = .ok (.goto (-22), 3) := by decide +kernel
theorem dX7_oddDays_29 : decode cX7_oddDays 29 = .ok (.iload_n 2, 1) := by decide +kernel
theorem dX7_oddDays_30 : decode cX7_oddDays 30 = .ok (.ireturn, 1) := by decide +kernel
theorem dX7_rateOf_0 : decode cX7_rateOf 0 = .ok (.aload_n 0, 1) := by decide +kernel
theorem dX7_rateOf_1 : decode cX7_rateOf 1 = .ok (.iload_n 1, 1) := by decide +kernel
theorem dX7_rateOf_2 : decode cX7_rateOf 2 = .ok (.invokevirtual 62, 3) := by decide +kernel
theorem dX7_rateOf_5 : decode cX7_rateOf 5 = .ok (.istore_n 2, 1) := by decide +kernel
theorem dX7_rateOf_6 : decode cX7_rateOf 6 = .ok (.iload_n 2, 1) := by decide +kernel
theorem dX7_rateOf_7 : decode cX7_rateOf 7 = .ok (.iconst 1, 1) := by decide +kernel
theorem dX7_rateOf_8 : decode cX7_rateOf 8 = .ok (.if_icmp .ge 7, 3) := by decide +kernel
theorem dX7_rateOf_11 : decode cX7_rateOf 11 = .ok (.iconst 0, 1) := by decide +kernel
theorem dX7_rateOf_12 : decode cX7_rateOf 12 = .ok (.goto 13, 3) := by decide +kernel
theorem dX7_rateOf_15 : decode cX7_rateOf 15 = .ok (.aload_n 0, 1) := by decide +kernel
theorem dX7_rateOf_16 : decode cX7_rateOf 16 = .ok (.iload_n 1, 1) := by decide +kernel
theorem dX7_rateOf_17 : decode cX7_rateOf 17 = .ok (.invokevirtual 115, 3) := by decide +kernel
theorem dX7_rateOf_20 : decode cX7_rateOf 20 = .ok (.ldc 118, 2) := by decide +kernel
theorem dX7_rateOf_22 : decode cX7_rateOf 22 = .ok (.imul, 1) := by decide +kernel
theorem dX7_rateOf_23 : decode cX7_rateOf 23 = .ok (.iload_n 2, 1) := by decide +kernel
theorem dX7_rateOf_24 : decode cX7_rateOf 24 = .ok (.idiv, 1) := by decide +kernel
theorem dX7_rateOf_25 : decode cX7_rateOf 25 = .ok (.ireturn, 1) := by decide +kernel
theorem dX7_howManyAhead_0 : decode cX7_howManyAhead 0 = .ok (.iconst 0, 1) := by decide +kernel
theorem dX7_howManyAhead_1 : decode cX7_howManyAhead 1 = .ok (.istore 6, 2) := by decide +kernel
theorem dX7_howManyAhead_3 : decode cX7_howManyAhead 3 = .ok (.iconst 0, 1) := by decide +kernel
theorem dX7_howManyAhead_4 : decode cX7_howManyAhead 4 = .ok (.istore 7, 2) := by decide +kernel
theorem dX7_howManyAhead_6 : decode cX7_howManyAhead 6 = .ok (.iload 7, 2) := by decide +kernel
theorem dX7_howManyAhead_8 : decode cX7_howManyAhead 8 = .ok (.aload_n 0, 1) := by decide +kernel
theorem dX7_howManyAhead_9 : decode cX7_howManyAhead 9 = .ok (.getfield 24, 3) := by decide +kernel
theorem dX7_howManyAhead_12 : decode cX7_howManyAhead 12 = .ok (.if_icmp .ge 70, 3) := by decide +kernel
theorem dX7_howManyAhead_15 : decode cX7_howManyAhead 15 = .ok (.iload 5, 2) := by decide +kernel
theorem dX7_howManyAhead_17 : decode cX7_howManyAhead 17 = .ok (.aload_n 0, 1) := by decide +kernel
theorem dX7_howManyAhead_18 : decode cX7_howManyAhead 18 = .ok (.iload 7, 2) := by decide +kernel
theorem dX7_howManyAhead_20 : decode cX7_howManyAhead 20 = .ok (.invokevirtual 90, 3) := by decide +kernel
theorem dX7_howManyAhead_23 : decode cX7_howManyAhead 23 = .ok (.ishr, 1) := by decide +kernel
theorem dX7_howManyAhead_24 : decode cX7_howManyAhead 24 = .ok (.iconst 1, 1) := by decide +kernel
theorem dX7_howManyAhead_25 : decode cX7_howManyAhead 25 = .ok (.iand, 1) := by decide +kernel
theorem dX7_howManyAhead_26 : decode cX7_howManyAhead 26 = .ok (.iconst 1, 1) := by decide +kernel
theorem dX7_howManyAhead_27 : decode cX7_howManyAhead 27 = .ok (.if_icmp .ne 7, 3) := by decide +kernel
theorem dX7_howManyAhead_30 : decode cX7_howManyAhead 30 = .ok (.iconst 1, 1) := by decide +kernel
theorem dX7_howManyAhead_31 : decode cX7_howManyAhead 31 = .ok (.goto 4, 3) := by decide +kernel
theorem dX7_howManyAhead_34 : decode cX7_howManyAhead 34 = .ok (.iconst 0, 1) := by decide +kernel
theorem dX7_howManyAhead_35 : decode cX7_howManyAhead 35 = .ok (.istore 8, 2) := by decide +kernel
theorem dX7_howManyAhead_37 : decode cX7_howManyAhead 37 = .ok (.iload 8, 2) := by decide +kernel
theorem dX7_howManyAhead_39 : decode cX7_howManyAhead 39 = .ok (.ifCond .eq 37, 3) := by decide +kernel
theorem dX7_howManyAhead_42 : decode cX7_howManyAhead 42 = .ok (.iload_n 1, 1) := by decide +kernel
theorem dX7_howManyAhead_43 : decode cX7_howManyAhead 43 = .ok (.aload_n 0, 1) := by decide +kernel
theorem dX7_howManyAhead_44 : decode cX7_howManyAhead 44 = .ok (.iload 7, 2) := by decide +kernel
theorem dX7_howManyAhead_46 : decode cX7_howManyAhead 46 = .ok (.invokevirtual 79, 3) := by decide +kernel
theorem dX7_howManyAhead_49 : decode cX7_howManyAhead 49 = .ok (.isub, 1) := by decide +kernel
theorem dX7_howManyAhead_50 : decode cX7_howManyAhead 50 = .ok (.iconst 1, 1) := by decide +kernel
theorem dX7_howManyAhead_51 : decode cX7_howManyAhead 51 = .ok (.iload_n 3, 1) := by decide +kernel
theorem dX7_howManyAhead_52 : decode cX7_howManyAhead 52 = .ok (.invokestatic 69, 3) := by decide +kernel
theorem dX7_howManyAhead_55 : decode cX7_howManyAhead 55 = .ok (.ifCond .eq 21, 3) := by decide +kernel
theorem dX7_howManyAhead_58 : decode cX7_howManyAhead 58 = .ok (.aload_n 0, 1) := by decide +kernel
theorem dX7_howManyAhead_59 : decode cX7_howManyAhead 59 = .ok (.iload 7, 2) := by decide +kernel
theorem dX7_howManyAhead_61 : decode cX7_howManyAhead 61 = .ok (.invokevirtual 97, 3) := by decide +kernel
theorem dX7_howManyAhead_64 : decode cX7_howManyAhead 64 = .ok (.iload_n 2, 1) := by decide +kernel
theorem dX7_howManyAhead_65 : decode cX7_howManyAhead 65 = .ok (.invokestatic 119, 3) := by decide +kernel
theorem dX7_howManyAhead_68 : decode cX7_howManyAhead 68 = .ok (.iload 4, 2) := by decide +kernel
theorem dX7_howManyAhead_70 : decode cX7_howManyAhead 70 = .ok (.if_icmp .gt 6, 3) := by decide +kernel
theorem dX7_howManyAhead_73 : decode cX7_howManyAhead 73 = .ok (.iinc 6 1, 3) := by decide +kernel
theorem dX7_howManyAhead_76 : decode cX7_howManyAhead 76 = .ok (.iinc 7 1, 3) := by decide +kernel
theorem dX7_howManyAhead_79 : decode cX7_howManyAhead 79 = .ok (.goto (-73), 3) := by decide +kernel
theorem dX7_howManyAhead_82 : decode cX7_howManyAhead 82 = .ok (.iload 6, 2) := by decide +kernel
theorem dX7_howManyAhead_84 : decode cX7_howManyAhead 84 = .ok (.ireturn, 1) := by decide +kernel
theorem dX7_areAllCounted_0 : decode cX7_areAllCounted 0 = .ok (.iconst 0, 1) := by decide +kernel
theorem dX7_areAllCounted_1 : decode cX7_areAllCounted 1 = .ok (.istore_n 2, 1) := by decide +kernel
theorem dX7_areAllCounted_2 : decode cX7_areAllCounted 2 = .ok (.iload_n 2, 1) := by decide +kernel
theorem dX7_areAllCounted_3 : decode cX7_areAllCounted 3 = .ok (.bipush 8, 2) := by decide +kernel
theorem dX7_areAllCounted_5 : decode cX7_areAllCounted 5 = .ok (.if_icmp .ge 28, 3) := by decide +kernel
theorem dX7_areAllCounted_8 : decode cX7_areAllCounted 8 = .ok (.iload_n 1, 1) := by decide +kernel
theorem dX7_areAllCounted_9 : decode cX7_areAllCounted 9 = .ok (.iload_n 2, 1) := by decide +kernel
theorem dX7_areAllCounted_10 : decode cX7_areAllCounted 10 = .ok (.ishr, 1) := by decide +kernel
theorem dX7_areAllCounted_11 : decode cX7_areAllCounted 11 = .ok (.iconst 1, 1) := by decide +kernel
theorem dX7_areAllCounted_12 : decode cX7_areAllCounted 12 = .ok (.iand, 1) := by decide +kernel
theorem dX7_areAllCounted_13 : decode cX7_areAllCounted 13 = .ok (.iconst 1, 1) := by decide +kernel
theorem dX7_areAllCounted_14 : decode cX7_areAllCounted 14 = .ok (.if_icmp .ne 13, 3) := by decide +kernel
theorem dX7_areAllCounted_17 : decode cX7_areAllCounted 17 = .ok (.aload_n 0, 1) := by decide +kernel
theorem dX7_areAllCounted_18 : decode cX7_areAllCounted 18 = .ok (.iload_n 2, 1) := by decide +kernel
theorem dX7_areAllCounted_19 : decode cX7_areAllCounted 19 = .ok (.invokevirtual 66, 3) := by decide +kernel
theorem dX7_areAllCounted_22 : decode cX7_areAllCounted 22 = .ok (.ifCond .ne 5, 3) := by decide +kernel
theorem dX7_areAllCounted_25 : decode cX7_areAllCounted 25 = .ok (.iconst 0, 1) := by decide +kernel
theorem dX7_areAllCounted_26 : decode cX7_areAllCounted 26 = .ok (.ireturn, 1) := by decide +kernel
theorem dX7_areAllCounted_27 : decode cX7_areAllCounted 27 = .ok (.iinc 2 1, 3) := by decide +kernel
theorem dX7_areAllCounted_30 : decode cX7_areAllCounted 30 = .ok (.goto (-28), 3) := by decide +kernel
theorem dX7_areAllCounted_33 : decode cX7_areAllCounted 33 = .ok (.iconst 1, 1) := by decide +kernel
theorem dX7_areAllCounted_34 : decode cX7_areAllCounted 34 = .ok (.ireturn, 1) := by decide +kernel
theorem dX7_byChance_0 : decode cX7_byChance 0 = .ok (.aload_n 0, 1) := by decide +kernel
theorem dX7_byChance_1 : decode cX7_byChance 1 = .ok (.invokevirtual 123, 3) := by decide +kernel
theorem dX7_byChance_4 : decode cX7_byChance 4 = .ok (.ldc2_w 126, 3) := by decide +kernel
theorem dX7_byChance_7 : decode cX7_byChance 7 = .ok (.lstore_n 3, 1) := by decide +kernel
theorem dX7_byChance_8 : decode cX7_byChance 8 = .ok (.iconst 0, 1) := by decide +kernel
theorem dX7_byChance_9 : decode cX7_byChance 9 = .ok (.istore 5, 2) := by decide +kernel
theorem dX7_byChance_11 : decode cX7_byChance 11 = .ok (.iload 5, 2) := by decide +kernel
theorem dX7_byChance_13 : decode cX7_byChance 13 = .ok (.bipush 8, 2) := by decide +kernel
theorem dX7_byChance_15 : decode cX7_byChance 15 = .ok (.if_icmp .ge 61, 3) := by decide +kernel
theorem dX7_byChance_18 : decode cX7_byChance 18 = .ok (.iload_n 2, 1) := by decide +kernel
theorem dX7_byChance_19 : decode cX7_byChance 19 = .ok (.iload 5, 2) := by decide +kernel
theorem dX7_byChance_21 : decode cX7_byChance 21 = .ok (.ishr, 1) := by decide +kernel
theorem dX7_byChance_22 : decode cX7_byChance 22 = .ok (.iconst 1, 1) := by decide +kernel
theorem dX7_byChance_23 : decode cX7_byChance 23 = .ok (.iand, 1) := by decide +kernel
theorem dX7_byChance_24 : decode cX7_byChance 24 = .ok (.iconst 1, 1) := by decide +kernel
theorem dX7_byChance_25 : decode cX7_byChance 25 = .ok (.if_icmp .ne 16, 3) := by decide +kernel
theorem dX7_byChance_28 : decode cX7_byChance 28 = .ok (.ldc 118, 2) := by decide +kernel
theorem dX7_byChance_30 : decode cX7_byChance 30 = .ok (.aload_n 0, 1) := by decide +kernel
theorem dX7_byChance_31 : decode cX7_byChance 31 = .ok (.iload 5, 2) := by decide +kernel
theorem dX7_byChance_33 : decode cX7_byChance 33 = .ok (.invokevirtual 128, 3) := by decide +kernel
theorem dX7_byChance_36 : decode cX7_byChance 36 = .ok (.isub, 1) := by decide +kernel
theorem dX7_byChance_37 : decode cX7_byChance 37 = .ok (.i2l, 1) := by decide +kernel
theorem dX7_byChance_38 : decode cX7_byChance 38 = .ok (.goto 6, 3) := by decide +kernel
theorem dX7_byChance_41 : decode cX7_byChance 41 = .ok (.ldc2_w 126, 3) := by decide +kernel
theorem dX7_byChance_44 : decode cX7_byChance 44 = .ok (.lstore 6, 2) := by decide +kernel
theorem dX7_byChance_46 : decode cX7_byChance 46 = .ok (.iconst 0, 1) := by decide +kernel
theorem dX7_byChance_47 : decode cX7_byChance 47 = .ok (.istore 8, 2) := by decide +kernel
theorem dX7_byChance_49 : decode cX7_byChance 49 = .ok (.iload 8, 2) := by decide +kernel
theorem dX7_byChance_51 : decode cX7_byChance 51 = .ok (.iload_n 1, 1) := by decide +kernel
theorem dX7_byChance_52 : decode cX7_byChance 52 = .ok (.if_icmp .ge 18, 3) := by decide +kernel
theorem dX7_byChance_55 : decode cX7_byChance 55 = .ok (.lload_n 3, 1) := by decide +kernel
theorem dX7_byChance_56 : decode cX7_byChance 56 = .ok (.lload 6, 2) := by decide +kernel
theorem dX7_byChance_58 : decode cX7_byChance 58 = .ok (.lmul, 1) := by decide +kernel
theorem dX7_byChance_59 : decode cX7_byChance 59 = .ok (.ldc2_w 126, 3) := by decide +kernel
theorem dX7_byChance_62 : decode cX7_byChance 62 = .ok (.ldiv, 1) := by decide +kernel
theorem dX7_byChance_63 : decode cX7_byChance 63 = .ok (.lstore_n 3, 1) := by decide +kernel
theorem dX7_byChance_64 : decode cX7_byChance 64 = .ok (.iinc 8 1, 3) := by decide +kernel
theorem dX7_byChance_67 : decode cX7_byChance 67 = .ok (.goto (-18), 3) := by decide +kernel
theorem dX7_byChance_70 : decode cX7_byChance 70 = .ok (.iinc 5 1, 3) := by decide +kernel
theorem dX7_byChance_73 : decode cX7_byChance 73 = .ok (.goto (-62), 3) := by decide +kernel
theorem dX7_byChance_76 : decode cX7_byChance 76 = .ok (.ldc2_w 126, 3) := by decide +kernel
theorem dX7_byChance_79 : decode cX7_byChance 79 = .ok (.lload_n 3, 1) := by decide +kernel
theorem dX7_byChance_80 : decode cX7_byChance 80 = .ok (.lsub, 1) := by decide +kernel
theorem dX7_byChance_81 : decode cX7_byChance 81 = .ok (.l2i, 1) := by decide +kernel
theorem dX7_byChance_82 : decode cX7_byChance 82 = .ok (.ireturn, 1) := by decide +kernel
theorem dX7_againstStory_0 : decode cX7_againstStory 0 = .ok (.aload_n 0, 1) := by decide +kernel
theorem dX7_againstStory_1 : decode cX7_againstStory 1 = .ok (.invokevirtual 123, 3) := by decide +kernel
theorem dX7_againstStory_4 : decode cX7_againstStory 4 = .ok (.aload_n 0, 1) := by decide +kernel
theorem dX7_againstStory_5 : decode cX7_againstStory 5 = .ok (.iload_n 1, 1) := by decide +kernel
theorem dX7_againstStory_6 : decode cX7_againstStory 6 = .ok (.invokevirtual 131, 3) := by decide +kernel
theorem dX7_againstStory_9 : decode cX7_againstStory 9 = .ok (.aload_n 0, 1) := by decide +kernel
theorem dX7_againstStory_10 : decode cX7_againstStory 10 = .ok (.iload_n 2, 1) := by decide +kernel
theorem dX7_againstStory_11 : decode cX7_againstStory 11 = .ok (.invokevirtual 131, 3) := by decide +kernel
theorem dX7_againstStory_14 : decode cX7_againstStory 14 = .ok (.iload_n 3, 1) := by decide +kernel
theorem dX7_againstStory_15 : decode cX7_againstStory 15 = .ok (.isub, 1) := by decide +kernel
theorem dX7_againstStory_16 : decode cX7_againstStory 16 = .ok (.invokestatic 134, 3) := by decide +kernel
theorem dX7_againstStory_19 : decode cX7_againstStory 19 = .ok (.istore 4, 2) := by decide +kernel
theorem dX7_againstStory_21 : decode cX7_againstStory 21 = .ok (.iconst 0, 1) := by decide +kernel
theorem dX7_againstStory_22 : decode cX7_againstStory 22 = .ok (.istore 5, 2) := by decide +kernel
theorem dX7_againstStory_24 : decode cX7_againstStory 24 = .ok (.aload_n 0, 1) := by decide +kernel
theorem dX7_againstStory_25 : decode cX7_againstStory 25 = .ok (.iload_n 1, 1) := by decide +kernel
theorem dX7_againstStory_26 : decode cX7_againstStory 26 = .ok (.invokevirtual 139, 3) := by decide +kernel
theorem dX7_againstStory_29 : decode cX7_againstStory 29 = .ok (.aload_n 0, 1) := by decide +kernel
theorem dX7_againstStory_30 : decode cX7_againstStory 30 = .ok (.iload_n 2, 1) := by decide +kernel
theorem dX7_againstStory_31 : decode cX7_againstStory 31 = .ok (.invokevirtual 139, 3) := by decide +kernel
theorem dX7_againstStory_34 : decode cX7_againstStory 34 = .ok (.invokestatic 142, 3) := by decide +kernel
theorem dX7_againstStory_37 : decode cX7_againstStory 37 = .ok (.istore 6, 2) := by decide +kernel
theorem dX7_againstStory_39 : decode cX7_againstStory 39 = .ok (.iload 6, 2) := by decide +kernel
theorem dX7_againstStory_41 : decode cX7_againstStory 41 = .ok (.iload 4, 2) := by decide +kernel
theorem dX7_againstStory_43 : decode cX7_againstStory 43 = .ok (.if_icmp .gt 33, 3) := by decide +kernel
theorem dX7_againstStory_46 : decode cX7_againstStory 46 = .ok (.aload_n 0, 1) := by decide +kernel
theorem dX7_againstStory_47 : decode cX7_againstStory 47 = .ok (.iload_n 1, 1) := by decide +kernel
theorem dX7_againstStory_48 : decode cX7_againstStory 48 = .ok (.iload 6, 2) := by decide +kernel
theorem dX7_againstStory_50 : decode cX7_againstStory 50 = .ok (.invokevirtual 112, 3) := by decide +kernel
theorem dX7_againstStory_53 : decode cX7_againstStory 53 = .ok (.ifCond .eq 17, 3) := by decide +kernel
theorem dX7_againstStory_56 : decode cX7_againstStory 56 = .ok (.aload_n 0, 1) := by decide +kernel
theorem dX7_againstStory_57 : decode cX7_againstStory 57 = .ok (.iload_n 2, 1) := by decide +kernel
theorem dX7_againstStory_58 : decode cX7_againstStory 58 = .ok (.iload 6, 2) := by decide +kernel
theorem dX7_againstStory_60 : decode cX7_againstStory 60 = .ok (.iload_n 3, 1) := by decide +kernel
theorem dX7_againstStory_61 : decode cX7_againstStory 61 = .ok (.invokevirtual 145, 3) := by decide +kernel
theorem dX7_againstStory_64 : decode cX7_againstStory 64 = .ok (.ifCond .ne 6, 3) := by decide +kernel
theorem dX7_againstStory_67 : decode cX7_againstStory 67 = .ok (.iinc 5 1, 3) := by decide +kernel
theorem dX7_againstStory_70 : decode cX7_againstStory 70 = .ok (.iinc 6 1, 3) := by decide +kernel
theorem dX7_againstStory_73 : decode cX7_againstStory 73 = .ok (.goto (-34), 3) := by decide +kernel
theorem dX7_againstStory_76 : decode cX7_againstStory 76 = .ok (.iload 5, 2) := by decide +kernel
theorem dX7_againstStory_78 : decode cX7_againstStory 78 = .ok (.ireturn, 1) := by decide +kernel
theorem dX7_isOddWithin_0 : decode cX7_isOddWithin 0 = .ok (.iconst 0, 1) := by decide +kernel
theorem dX7_isOddWithin_1 : decode cX7_isOddWithin 1 = .ok (.istore 4, 2) := by decide +kernel
theorem dX7_isOddWithin_3 : decode cX7_isOddWithin 3 = .ok (.iload 4, 2) := by decide +kernel
theorem dX7_isOddWithin_5 : decode cX7_isOddWithin 5 = .ok (.iload_n 3, 1) := by decide +kernel
theorem dX7_isOddWithin_6 : decode cX7_isOddWithin 6 = .ok (.if_icmp .gt 23, 3) := by decide +kernel
theorem dX7_isOddWithin_9 : decode cX7_isOddWithin 9 = .ok (.aload_n 0, 1) := by decide +kernel
theorem dX7_isOddWithin_10 : decode cX7_isOddWithin 10 = .ok (.iload_n 1, 1) := by decide +kernel
theorem dX7_isOddWithin_11 : decode cX7_isOddWithin 11 = .ok (.iload_n 2, 1) := by decide +kernel
theorem dX7_isOddWithin_12 : decode cX7_isOddWithin 12 = .ok (.iload 4, 2) := by decide +kernel
theorem dX7_isOddWithin_14 : decode cX7_isOddWithin 14 = .ok (.iadd, 1) := by decide +kernel
theorem dX7_isOddWithin_15 : decode cX7_isOddWithin 15 = .ok (.invokevirtual 112, 3) := by decide +kernel
theorem dX7_isOddWithin_18 : decode cX7_isOddWithin 18 = .ok (.ifCond .eq 5, 3) := by decide +kernel
theorem dX7_isOddWithin_21 : decode cX7_isOddWithin 21 = .ok (.iconst 1, 1) := by decide +kernel
theorem dX7_isOddWithin_22 : decode cX7_isOddWithin 22 = .ok (.ireturn, 1) := by decide +kernel
theorem dX7_isOddWithin_23 : decode cX7_isOddWithin 23 = .ok (.iinc 4 1, 3) := by decide +kernel
theorem dX7_isOddWithin_26 : decode cX7_isOddWithin 26 = .ok (.goto (-23), 3) := by decide +kernel
theorem dX7_isOddWithin_29 : decode cX7_isOddWithin 29 = .ok (.iconst 0, 1) := by decide +kernel
theorem dX7_isOddWithin_30 : decode cX7_isOddWithin 30 = .ok (.ireturn, 1) := by decide +kernel
theorem dX8_init_0 : decode cX8_init 0 = .ok (.aload_n 0, 1) := by decide +kernel
theorem dX8_init_1 : decode cX8_init 1 = .ok (.invokespecial 3, 3) := by decide +kernel
theorem dX8_init_4 : decode cX8_init 4 = .ok (.aload_n 0, 1) := by decide +kernel
theorem dX8_init_5 : decode cX8_init 5 = .ok (.sipush 400, 3) := by decide +kernel
theorem dX8_init_8 : decode cX8_init 8 = .ok (.newarray .boolean, 2) := by decide +kernel
theorem dX8_init_10 : decode cX8_init 10 = .ok (.putfield 9, 3) := by decide +kernel
theorem dX8_init_13 : decode cX8_init 13 = .ok (.aload_n 0, 1) := by decide +kernel
theorem dX8_init_14 : decode cX8_init 14 = .ok (.iconst 0, 1) := by decide +kernel
theorem dX8_init_15 : decode cX8_init 15 = .ok (.putfield 15, 3) := by decide +kernel
theorem dX8_init_18 : decode cX8_init 18 = .ok (.aload_n 0, 1) := by decide +kernel
theorem dX8_init_19 : decode cX8_init 19 = .ok (.iconst 0, 1) := by decide +kernel
theorem dX8_init_20 : decode cX8_init 20 = .ok (.putfield 19, 3) := by decide +kernel
theorem dX8_init_23 : decode cX8_init 23 = .ok (.aload_n 0, 1) := by decide +kernel
theorem dX8_init_24 : decode cX8_init 24 = .ok (.iconst 0, 1) := by decide +kernel
theorem dX8_init_25 : decode cX8_init 25 = .ok (.putfield 22, 3) := by decide +kernel
theorem dX8_init_28 : decode cX8_init 28 = .ok (.aload_n 0, 1) := by decide +kernel
theorem dX8_init_29 : decode cX8_init 29 = .ok (.iconst 0, 1) := by decide +kernel
theorem dX8_init_30 : decode cX8_init 30 = .ok (.putfield 25, 3) := by decide +kernel
theorem dX8_init_33 : decode cX8_init 33 = .ok (.aload_n 0, 1) := by decide +kernel
theorem dX8_init_34 : decode cX8_init 34 = .ok (.aload_n 1, 1) := by decide +kernel
theorem dX8_init_35 : decode cX8_init 35 = .ok (.putfield 28, 3) := by decide +kernel
theorem dX8_init_38 : decode cX8_init 38 = .ok (.aload_n 0, 1) := by decide +kernel
theorem dX8_init_39 : decode cX8_init 39 = .ok (.aload_n 2, 1) := by decide +kernel
theorem dX8_init_40 : decode cX8_init 40 = .ok (.putfield 32, 3) := by decide +kernel
theorem dX8_init_43 : decode cX8_init 43 = .ok (.return_, 1) := by decide +kernel
theorem dX8_number_0 : decode cX8_number 0 = .ok (.iload_n 1, 1) := by decide +kernel
theorem dX8_number_1 : decode cX8_number 1 = .ok (.tableswitch 42 0 2 #[27, 32, 37], 27) := by decide +kernel
theorem dX8_number_28 : decode cX8_number 28 = .ok (.aload_n 0, 1) := by decide +kernel
theorem dX8_number_29 : decode cX8_number 29 = .ok (.getfield 15, 3) := by decide +kernel
theorem dX8_number_32 : decode cX8_number 32 = .ok (.ireturn, 1) := by decide +kernel
theorem dX8_number_33 : decode cX8_number 33 = .ok (.aload_n 0, 1) := by decide +kernel
theorem dX8_number_34 : decode cX8_number 34 = .ok (.getfield 19, 3) := by decide +kernel
theorem dX8_number_37 : decode cX8_number 37 = .ok (.ireturn, 1) := by decide +kernel
theorem dX8_number_38 : decode cX8_number 38 = .ok (.aload_n 0, 1) := by decide +kernel
theorem dX8_number_39 : decode cX8_number 39 = .ok (.getfield 22, 3) := by decide +kernel
theorem dX8_number_42 : decode cX8_number 42 = .ok (.ireturn, 1) := by decide +kernel
theorem dX8_number_43 : decode cX8_number 43 = .ok (.aload_n 0, 1) := by decide +kernel
theorem dX8_number_44 : decode cX8_number 44 = .ok (.getfield 25, 3) := by decide +kernel
theorem dX8_number_47 : decode cX8_number 47 = .ok (.ireturn, 1) := by decide +kernel
theorem dX8_worth_0 : decode cX8_worth 0 = .ok (.aload_n 0, 1) := by decide +kernel
theorem dX8_worth_1 : decode cX8_worth 1 = .ok (.getfield 15, 3) := by decide +kernel
theorem dX8_worth_4 : decode cX8_worth 4 = .ok (.aload_n 0, 1) := by decide +kernel
theorem dX8_worth_5 : decode cX8_worth 5 = .ok (.getfield 15, 3) := by decide +kernel
theorem dX8_worth_8 : decode cX8_worth 8 = .ok (.aload_n 0, 1) := by decide +kernel
theorem dX8_worth_9 : decode cX8_worth 9 = .ok (.getfield 19, 3) := by decide +kernel
theorem dX8_worth_12 : decode cX8_worth 12 = .ok (.iadd, 1) := by decide +kernel
theorem dX8_worth_13 : decode cX8_worth 13 = .ok (.invokestatic 36, 3) := by decide +kernel
theorem dX8_worth_16 : decode cX8_worth 16 = .ok (.aload_n 0, 1) := by decide +kernel
theorem dX8_worth_17 : decode cX8_worth 17 = .ok (.getfield 22, 3) := by decide +kernel
theorem dX8_worth_20 : decode cX8_worth 20 = .ok (.aload_n 0, 1) := by decide +kernel
theorem dX8_worth_21 : decode cX8_worth 21 = .ok (.getfield 22, 3) := by decide +kernel
theorem dX8_worth_24 : decode cX8_worth 24 = .ok (.aload_n 0, 1) := by decide +kernel
theorem dX8_worth_25 : decode cX8_worth 25 = .ok (.getfield 25, 3) := by decide +kernel
theorem dX8_worth_28 : decode cX8_worth 28 = .ok (.iadd, 1) := by decide +kernel
theorem dX8_worth_29 : decode cX8_worth 29 = .ok (.invokestatic 36, 3) := by decide +kernel
theorem dX8_worth_32 : decode cX8_worth 32 = .ok (.isub, 1) := by decide +kernel
theorem dX8_worth_33 : decode cX8_worth 33 = .ok (.ireturn, 1) := by decide +kernel
theorem dX8_thousandths_0 : decode cX8_thousandths 0 = .ok (.iload_n 1, 1) := by decide +kernel
theorem dX8_thousandths_1 : decode cX8_thousandths 1 = .ok (.iconst 1, 1) := by decide +kernel
theorem dX8_thousandths_2 : decode cX8_thousandths 2 = .ok (.if_icmp .ge 7, 3) := by decide +kernel
theorem dX8_thousandths_5 : decode cX8_thousandths 5 = .ok (.iconst 0, 1) := by decide +kernel
theorem dX8_thousandths_6 : decode cX8_thousandths 6 = .ok (.goto 10, 3) := by decide +kernel
theorem dX8_thousandths_9 : decode cX8_thousandths 9 = .ok (.sipush 1000, 3) := by decide +kernel
theorem dX8_thousandths_12 : decode cX8_thousandths 12 = .ok (.iload_n 0, 1) := by decide +kernel
theorem dX8_thousandths_13 : decode cX8_thousandths 13 = .ok (.imul, 1) := by decide +kernel
theorem dX8_thousandths_14 : decode cX8_thousandths 14 = .ok (.iload_n 1, 1) := by decide +kernel
theorem dX8_thousandths_15 : decode cX8_thousandths 15 = .ok (.idiv, 1) := by decide +kernel
theorem dX8_thousandths_16 : decode cX8_thousandths 16 = .ok (.ireturn, 1) := by decide +kernel
theorem dX8_fill_0 : decode cX8_fill 0 = .ok (.aload_n 0, 1) := by decide +kernel
theorem dX8_fill_1 : decode cX8_fill 1 = .ok (.getfield 28, 3) := by decide +kernel
theorem dX8_fill_4 : decode cX8_fill 4 = .ok (.invokevirtual 40, 3) := by decide +kernel
theorem dX8_fill_7 : decode cX8_fill 7 = .ok (.aload_n 0, 1) := by decide +kernel
theorem dX8_fill_8 : decode cX8_fill 8 = .ok (.aload_n 0, 1) := by decide +kernel
theorem dX8_fill_9 : decode cX8_fill 9 = .ok (.getfield 28, 3) := by decide +kernel
theorem dX8_fill_12 : decode cX8_fill 12 = .ok (.iload_n 1, 1) := by decide +kernel
theorem dX8_fill_13 : decode cX8_fill 13 = .ok (.invokevirtual 45, 3) := by decide +kernel
theorem dX8_fill_16 : decode cX8_fill 16 = .ok (.iload_n 2, 1) := by decide +kernel
theorem dX8_fill_17 : decode cX8_fill 17 = .ok (.iload_n 3, 1) := by decide +kernel
theorem dX8_fill_18 : decode cX8_fill 18 = .ok (.iload 4, 2) := by decide +kernel
theorem dX8_fill_20 : decode cX8_fill 20 = .ok (.invokevirtual 49, 3) := by decide +kernel
theorem dX8_fill_23 : decode cX8_fill 23 = .ok (.aload_n 0, 1) := by decide +kernel
theorem dX8_fill_24 : decode cX8_fill 24 = .ok (.iconst 0, 1) := by decide +kernel
theorem dX8_fill_25 : decode cX8_fill 25 = .ok (.putfield 15, 3) := by decide +kernel
theorem dX8_fill_28 : decode cX8_fill 28 = .ok (.aload_n 0, 1) := by decide +kernel
theorem dX8_fill_29 : decode cX8_fill 29 = .ok (.iconst 0, 1) := by decide +kernel
theorem dX8_fill_30 : decode cX8_fill 30 = .ok (.putfield 19, 3) := by decide +kernel
theorem dX8_fill_33 : decode cX8_fill 33 = .ok (.aload_n 0, 1) := by decide +kernel
theorem dX8_fill_34 : decode cX8_fill 34 = .ok (.iconst 0, 1) := by decide +kernel
theorem dX8_fill_35 : decode cX8_fill 35 = .ok (.putfield 22, 3) := by decide +kernel
theorem dX8_fill_38 : decode cX8_fill 38 = .ok (.aload_n 0, 1) := by decide +kernel
theorem dX8_fill_39 : decode cX8_fill 39 = .ok (.iconst 0, 1) := by decide +kernel
theorem dX8_fill_40 : decode cX8_fill 40 = .ok (.putfield 25, 3) := by decide +kernel
theorem dX8_fill_43 : decode cX8_fill 43 = .ok (.aload_n 0, 1) := by decide +kernel
theorem dX8_fill_44 : decode cX8_fill 44 = .ok (.getfield 28, 3) := by decide +kernel
theorem dX8_fill_47 : decode cX8_fill 47 = .ok (.iload_n 1, 1) := by decide +kernel
theorem dX8_fill_48 : decode cX8_fill 48 = .ok (.invokevirtual 53, 3) := by decide +kernel
theorem dX8_fill_51 : decode cX8_fill 51 = .ok (.iload_n 2, 1) := by decide +kernel
theorem dX8_fill_52 : decode cX8_fill 52 = .ok (.isub, 1) := by decide +kernel
theorem dX8_fill_53 : decode cX8_fill 53 = .ok (.istore 5, 2) := by decide +kernel
theorem dX8_fill_55 : decode cX8_fill 55 = .ok (.aload_n 0, 1) := by decide +kernel
theorem dX8_fill_56 : decode cX8_fill 56 = .ok (.getfield 28, 3) := by decide +kernel
theorem dX8_fill_59 : decode cX8_fill 59 = .ok (.iload_n 1, 1) := by decide +kernel
theorem dX8_fill_60 : decode cX8_fill 60 = .ok (.invokevirtual 56, 3) := by decide +kernel
theorem dX8_fill_63 : decode cX8_fill 63 = .ok (.istore 6, 2) := by decide +kernel
theorem dX8_fill_65 : decode cX8_fill 65 = .ok (.iload 6, 2) := by decide +kernel
theorem dX8_fill_67 : decode cX8_fill 67 = .ok (.iload 5, 2) := by decide +kernel
theorem dX8_fill_69 : decode cX8_fill 69 = .ok (.if_icmp .gt 46, 3) := by decide +kernel
theorem dX8_fill_72 : decode cX8_fill 72 = .ok (.aload_n 0, 1) := by decide +kernel
theorem dX8_fill_73 : decode cX8_fill 73 = .ok (.aload_n 0, 1) := by decide +kernel
theorem dX8_fill_74 : decode cX8_fill 74 = .ok (.getfield 28, 3) := by decide +kernel
theorem dX8_fill_77 : decode cX8_fill 77 = .ok (.iload_n 1, 1) := by decide +kernel
theorem dX8_fill_78 : decode cX8_fill 78 = .ok (.iload 6, 2) := by decide +kernel
theorem dX8_fill_80 : decode cX8_fill 80 = .ok (.invokevirtual 59, 3) := by decide +kernel
theorem dX8_fill_83 : decode cX8_fill 83 = .ok (.iload 6, 2) := by decide +kernel
theorem dX8_fill_85 : decode cX8_fill 85 = .ok (.invokestatic 63, 3) := by decide +kernel
theorem dX8_fill_88 : decode cX8_fill 88 = .ok (.ifCond .eq 17, 3) := by decide +kernel
theorem dX8_fill_91 : decode cX8_fill 91 = .ok (.aload_n 0, 1) := by decide +kernel
theorem dX8_fill_92 : decode cX8_fill 92 = .ok (.getfield 9, 3) := by decide +kernel
theorem dX8_fill_95 : decode cX8_fill 95 = .ok (.iload 6, 2) := by decide +kernel
theorem dX8_fill_97 : decode cX8_fill 97 = .ok (.baload, 1) := by decide +kernel
theorem dX8_fill_98 : decode cX8_fill 98 = .ok (.ifCond .eq 7, 3) := by decide +kernel
theorem dX8_fill_101 : decode cX8_fill 101 = .ok (.iconst 1, 1) := by decide +kernel
theorem dX8_fill_102 : decode cX8_fill 102 = .ok (.goto 4, 3) := by decide +kernel
theorem dX8_fill_105 : decode cX8_fill 105 = .ok (.iconst 0, 1) := by decide +kernel
theorem dX8_fill_106 : decode cX8_fill 106 = .ok (.invokevirtual 67, 3) := by decide +kernel
theorem dX8_fill_109 : decode cX8_fill 109 = .ok (.iinc 6 1, 3) := by decide +kernel
theorem dX8_fill_112 : decode cX8_fill 112 = .ok (.goto (-47), 3) := by decide +kernel
theorem dX8_fill_115 : decode cX8_fill 115 = .ok (.return_, 1) := by decide +kernel
theorem dX8_put_0 : decode cX8_put 0 = .ok (.iload_n 1, 1) := by decide +kernel
theorem dX8_put_1 : decode cX8_put 1 = .ok (.ifCond .eq 20, 3) := by decide +kernel
theorem dX8_put_4 : decode cX8_put 4 = .ok (.iload_n 2, 1) := by decide +kernel
theorem dX8_put_5 : decode cX8_put 5 = .ok (.ifCond .eq 16, 3) := by decide +kernel
theorem dX8_put_8 : decode cX8_put 8 = .ok (.aload_n 0, 1) := by decide +kernel
theorem dX8_put_9 : decode cX8_put 9 = .ok (.dup, 1) := by decide +kernel
theorem dX8_put_10 : decode cX8_put 10 = .ok (.getfield 15, 3) := by decide +kernel
theorem dX8_put_13 : decode cX8_put 13 = .ok (.iconst 1, 1) := by decide +kernel
theorem dX8_put_14 : decode cX8_put 14 = .ok (.iadd, 1) := by decide +kernel
theorem dX8_put_15 : decode cX8_put 15 = .ok (.putfield 15, 3) := by decide +kernel
theorem dX8_put_18 : decode cX8_put 18 = .ok (.goto 47, 3) := by decide +kernel
theorem dX8_put_21 : decode cX8_put 21 = .ok (.iload_n 1, 1) := by decide +kernel
theorem dX8_put_22 : decode cX8_put 22 = .ok (.ifCond .eq 16, 3) := by decide +kernel
theorem dX8_put_25 : decode cX8_put 25 = .ok (.aload_n 0, 1) := by decide +kernel
theorem dX8_put_26 : decode cX8_put 26 = .ok (.dup, 1) := by decide +kernel
theorem dX8_put_27 : decode cX8_put 27 = .ok (.getfield 19, 3) := by decide +kernel
theorem dX8_put_30 : decode cX8_put 30 = .ok (.iconst 1, 1) := by decide +kernel
theorem dX8_put_31 : decode cX8_put 31 = .ok (.iadd, 1) := by decide +kernel
theorem dX8_put_32 : decode cX8_put 32 = .ok (.putfield 19, 3) := by decide +kernel
theorem dX8_put_35 : decode cX8_put 35 = .ok (.goto 30, 3) := by decide +kernel
theorem dX8_put_38 : decode cX8_put 38 = .ok (.iload_n 2, 1) := by decide +kernel
theorem dX8_put_39 : decode cX8_put 39 = .ok (.ifCond .eq 16, 3) := by decide +kernel
theorem dX8_put_42 : decode cX8_put 42 = .ok (.aload_n 0, 1) := by decide +kernel
theorem dX8_put_43 : decode cX8_put 43 = .ok (.dup, 1) := by decide +kernel
theorem dX8_put_44 : decode cX8_put 44 = .ok (.getfield 22, 3) := by decide +kernel
theorem dX8_put_47 : decode cX8_put 47 = .ok (.iconst 1, 1) := by decide +kernel
theorem dX8_put_48 : decode cX8_put 48 = .ok (.iadd, 1) := by decide +kernel
theorem dX8_put_49 : decode cX8_put 49 = .ok (.putfield 22, 3) := by decide +kernel
theorem dX8_put_52 : decode cX8_put 52 = .ok (.goto 13, 3) := by decide +kernel
theorem dX8_put_55 : decode cX8_put 55 = .ok (.aload_n 0, 1) := by decide +kernel
theorem dX8_put_56 : decode cX8_put 56 = .ok (.dup, 1) := by decide +kernel
theorem dX8_put_57 : decode cX8_put 57 = .ok (.getfield 25, 3) := by decide +kernel
theorem dX8_put_60 : decode cX8_put 60 = .ok (.iconst 1, 1) := by decide +kernel
theorem dX8_put_61 : decode cX8_put 61 = .ok (.iadd, 1) := by decide +kernel
theorem dX8_put_62 : decode cX8_put 62 = .ok (.putfield 25, 3) := by decide +kernel
theorem dX8_put_65 : decode cX8_put 65 = .ok (.return_, 1) := by decide +kernel
theorem dX8_findShakes_0 : decode cX8_findShakes 0 = .ok (.iconst 0, 1) := by decide +kernel
theorem dX8_findShakes_1 : decode cX8_findShakes 1 = .ok (.istore 5, 2) := by decide +kernel
theorem dX8_findShakes_3 : decode cX8_findShakes 3 = .ok (.iload 5, 2) := by decide +kernel
theorem dX8_findShakes_5 : decode cX8_findShakes 5 = .ok (.sipush 400, 3) := by decide +kernel
theorem dX8_findShakes_8 : decode cX8_findShakes 8 = .ok (.if_icmp .ge 17, 3) := by decide +kernel
theorem dX8_findShakes_11 : decode cX8_findShakes 11 = .ok (.aload_n 0, 1) := by decide +kernel
theorem dX8_findShakes_12 : decode cX8_findShakes 12 = .ok (.getfield 9, 3) := by decide +kernel
theorem dX8_findShakes_15 : decode cX8_findShakes 15 = .ok (.iload 5, 2) := by decide +kernel
