theorem dX0_init_0 : decode cX0_init 0 = .ok (.aload_n 0, 1) := by decide +kernel
theorem dX0_init_1 : decode cX0_init 1 = .ok (.invokespecial 3, 3) := by decide +kernel
theorem dX0_init_4 : decode cX0_init 4 = .ok (.aload_n 0, 1) := by decide +kernel
theorem dX0_init_5 : decode cX0_init 5 = .ok (.bipush 8, 2) := by decide +kernel
theorem dX0_init_7 : decode cX0_init 7 = .ok (.newarray .int, 2) := by decide +kernel
theorem dX0_init_9 : decode cX0_init 9 = .ok (.putfield 9, 3) := by decide +kernel
theorem dX0_init_12 : decode cX0_init 12 = .ok (.aload_n 0, 1) := by decide +kernel
theorem dX0_init_13 : decode cX0_init 13 = .ok (.bipush 8, 2) := by decide +kernel
theorem dX0_init_15 : decode cX0_init 15 = .ok (.newarray .int, 2) := by decide +kernel
theorem dX0_init_17 : decode cX0_init 17 = .ok (.putfield 15, 3) := by decide +kernel
theorem dX0_init_20 : decode cX0_init 20 = .ok (.return_, 1) := by decide +kernel
theorem dX0_tell_0 : decode cX0_tell 0 = .ok (.aload_n 0, 1) := by decide +kernel
theorem dX0_tell_1 : decode cX0_tell 1 = .ok (.getfield 18, 3) := by decide +kernel
theorem dX0_tell_4 : decode cX0_tell 4 = .ok (.ifCond .lt 42, 3) := by decide +kernel
theorem dX0_tell_7 : decode cX0_tell 7 = .ok (.aload_n 0, 1) := by decide +kernel
theorem dX0_tell_8 : decode cX0_tell 8 = .ok (.getfield 18, 3) := by decide +kernel
theorem dX0_tell_11 : decode cX0_tell 11 = .ok (.bipush 8, 2) := by decide +kernel
theorem dX0_tell_13 : decode cX0_tell 13 = .ok (.if_icmp .ge 33, 3) := by decide +kernel
theorem dX0_tell_16 : decode cX0_tell 16 = .ok (.aload_n 0, 1) := by decide +kernel
theorem dX0_tell_17 : decode cX0_tell 17 = .ok (.getfield 9, 3) := by decide +kernel
theorem dX0_tell_20 : decode cX0_tell 20 = .ok (.aload_n 0, 1) := by decide +kernel
theorem dX0_tell_21 : decode cX0_tell 21 = .ok (.getfield 18, 3) := by decide +kernel
theorem dX0_tell_24 : decode cX0_tell 24 = .ok (.iload_n 1, 1) := by decide +kernel
theorem dX0_tell_25 : decode cX0_tell 25 = .ok (.iastore, 1) := by decide +kernel
theorem dX0_tell_26 : decode cX0_tell 26 = .ok (.aload_n 0, 1) := by decide +kernel
theorem dX0_tell_27 : decode cX0_tell 27 = .ok (.getfield 15, 3) := by decide +kernel
theorem dX0_tell_30 : decode cX0_tell 30 = .ok (.aload_n 0, 1) := by decide +kernel
theorem dX0_tell_31 : decode cX0_tell 31 = .ok (.getfield 18, 3) := by decide +kernel
theorem dX0_tell_34 : decode cX0_tell 34 = .ok (.iload_n 2, 1) := by decide +kernel
theorem dX0_tell_35 : decode cX0_tell 35 = .ok (.iastore, 1) := by decide +kernel
theorem dX0_tell_36 : decode cX0_tell 36 = .ok (.aload_n 0, 1) := by decide +kernel
theorem dX0_tell_37 : decode cX0_tell 37 = .ok (.dup, 1) := by decide +kernel
theorem dX0_tell_38 : decode cX0_tell 38 = .ok (.getfield 18, 3) := by decide +kernel
theorem dX0_tell_41 : decode cX0_tell 41 = .ok (.iconst 1, 1) := by decide +kernel
theorem dX0_tell_42 : decode cX0_tell 42 = .ok (.iadd, 1) := by decide +kernel
theorem dX0_tell_43 : decode cX0_tell 43 = .ok (.putfield 18, 3) := by decide +kernel
theorem dX0_tell_46 : decode cX0_tell 46 = .ok (.return_, 1) := by decide +kernel
theorem dX0_cover_0 : decode cX0_cover 0 = .ok (.iconst 0, 1) := by decide +kernel
theorem dX0_cover_1 : decode cX0_cover 1 = .ok (.istore_n 2, 1) := by decide +kernel
theorem dX0_cover_2 : decode cX0_cover 2 = .ok (.iload_n 2, 1) := by decide +kernel
theorem dX0_cover_3 : decode cX0_cover 3 = .ok (.aload_n 0, 1) := by decide +kernel
theorem dX0_cover_4 : decode cX0_cover 4 = .ok (.getfield 18, 3) := by decide +kernel
theorem dX0_cover_7 : decode cX0_cover 7 = .ok (.if_icmp .ge 37, 3) := by decide +kernel
theorem dX0_cover_10 : decode cX0_cover 10 = .ok (.iload_n 2, 1) := by decide +kernel
theorem dX0_cover_11 : decode cX0_cover 11 = .ok (.bipush 8, 2) := by decide +kernel
theorem dX0_cover_13 : decode cX0_cover 13 = .ok (.if_icmp .ge 31, 3) := by decide +kernel
theorem dX0_cover_16 : decode cX0_cover 16 = .ok (.aload_n 0, 1) := by decide +kernel
theorem dX0_cover_17 : decode cX0_cover 17 = .ok (.getfield 9, 3) := by decide +kernel
theorem dX0_cover_20 : decode cX0_cover 20 = .ok (.iload_n 2, 1) := by decide +kernel
theorem dX0_cover_21 : decode cX0_cover 21 = .ok (.iaload, 1) := by decide +kernel
theorem dX0_cover_22 : decode cX0_cover 22 = .ok (.iload_n 1, 1) := by decide +kernel
theorem dX0_cover_23 : decode cX0_cover 23 = .ok (.if_icmp .gt 15, 3) := by decide +kernel
theorem dX0_cover_26 : decode cX0_cover 26 = .ok (.iload_n 1, 1) := by decide +kernel
theorem dX0_cover_27 : decode cX0_cover 27 = .ok (.aload_n 0, 1) := by decide +kernel
theorem dX0_cover_28 : decode cX0_cover 28 = .ok (.getfield 15, 3) := by decide +kernel
theorem dX0_cover_31 : decode cX0_cover 31 = .ok (.iload_n 2, 1) := by decide +kernel
theorem dX0_cover_32 : decode cX0_cover 32 = .ok (.iaload, 1) := by decide +kernel
theorem dX0_cover_33 : decode cX0_cover 33 = .ok (.if_icmp .gt 5, 3) := by decide +kernel
theorem dX0_cover_36 : decode cX0_cover 36 = .ok (.iconst 1, 1) := by decide +kernel
theorem dX0_cover_37 : decode cX0_cover 37 = .ok (.ireturn, 1) := by decide +kernel
theorem dX0_cover_38 : decode cX0_cover 38 = .ok (.iinc 2 1, 3) := by decide +kernel
theorem dX0_cover_41 : decode cX0_cover 41 = .ok (.goto (-39), 3) := by decide +kernel
theorem dX0_cover_44 : decode cX0_cover 44 = .ok (.iconst 0, 1) := by decide +kernel
theorem dX0_cover_45 : decode cX0_cover 45 = .ok (.ireturn, 1) := by decide +kernel
theorem dX1_init_0 : decode cX1_init 0 = .ok (.aload_n 0, 1) := by decide +kernel
theorem dX1_init_1 : decode cX1_init 1 = .ok (.invokespecial 3, 3) := by decide +kernel
theorem dX1_init_4 : decode cX1_init 4 = .ok (.aload_n 0, 1) := by decide +kernel
theorem dX1_init_5 : decode cX1_init 5 = .ok (.sipush 900, 3) := by decide +kernel
theorem dX1_init_8 : decode cX1_init 8 = .ok (.newarray .int, 2) := by decide +kernel
theorem dX1_init_10 : decode cX1_init 10 = .ok (.putfield 9, 3) := by decide +kernel
theorem dX1_init_13 : decode cX1_init 13 = .ok (.return_, 1) := by decide +kernel
theorem dX1_clear_0 : decode cX1_clear 0 = .ok (.aload_n 0, 1) := by decide +kernel
theorem dX1_clear_1 : decode cX1_clear 1 = .ok (.getfield 9, 3) := by decide +kernel
theorem dX1_clear_4 : decode cX1_clear 4 = .ok (.iconst 0, 1) := by decide +kernel
theorem dX1_clear_5 : decode cX1_clear 5 = .ok (.invokestatic 15, 3) := by decide +kernel
theorem dX1_clear_8 : decode cX1_clear 8 = .ok (.aload_n 0, 1) := by decide +kernel
theorem dX1_clear_9 : decode cX1_clear 9 = .ok (.iconst (-1), 1) := by decide +kernel
theorem dX1_clear_10 : decode cX1_clear 10 = .ok (.putfield 21, 3) := by decide +kernel
theorem dX1_clear_13 : decode cX1_clear 13 = .ok (.aload_n 0, 1) := by decide +kernel
theorem dX1_clear_14 : decode cX1_clear 14 = .ok (.iconst (-1), 1) := by decide +kernel
theorem dX1_clear_15 : decode cX1_clear 15 = .ok (.putfield 25, 3) := by decide +kernel
theorem dX1_clear_18 : decode cX1_clear 18 = .ok (.aload_n 0, 1) := by decide +kernel
theorem dX1_clear_19 : decode cX1_clear 19 = .ok (.iconst 0, 1) := by decide +kernel
theorem dX1_clear_20 : decode cX1_clear 20 = .ok (.putfield 28, 3) := by decide +kernel
theorem dX1_clear_23 : decode cX1_clear 23 = .ok (.aload_n 0, 1) := by decide +kernel
theorem dX1_clear_24 : decode cX1_clear 24 = .ok (.iconst (-1), 1) := by decide +kernel
theorem dX1_clear_25 : decode cX1_clear 25 = .ok (.putfield 31, 3) := by decide +kernel
theorem dX1_clear_28 : decode cX1_clear 28 = .ok (.aload_n 0, 1) := by decide +kernel
theorem dX1_clear_29 : decode cX1_clear 29 = .ok (.iconst 0, 1) := by decide +kernel
theorem dX1_clear_30 : decode cX1_clear 30 = .ok (.putfield 34, 3) := by decide +kernel
theorem dX1_clear_33 : decode cX1_clear 33 = .ok (.aload_n 0, 1) := by decide +kernel
theorem dX1_clear_34 : decode cX1_clear 34 = .ok (.iconst (-1), 1) := by decide +kernel
theorem dX1_clear_35 : decode cX1_clear 35 = .ok (.putfield 37, 3) := by decide +kernel
theorem dX1_clear_38 : decode cX1_clear 38 = .ok (.return_, 1) := by decide +kernel
theorem dX1_noteHeight_0 : decode cX1_noteHeight 0 = .ok (.aload_n 0, 1) := by decide +kernel
theorem dX1_noteHeight_1 : decode cX1_noteHeight 1 = .ok (.getfield 31, 3) := by decide +kernel
theorem dX1_noteHeight_4 : decode cX1_noteHeight 4 = .ok (.ifCond .lt 11, 3) := by decide +kernel
theorem dX1_noteHeight_7 : decode cX1_noteHeight 7 = .ok (.iload_n 2, 1) := by decide +kernel
theorem dX1_noteHeight_8 : decode cX1_noteHeight 8 = .ok (.aload_n 0, 1) := by decide +kernel
theorem dX1_noteHeight_9 : decode cX1_noteHeight 9 = .ok (.getfield 34, 3) := by decide +kernel
theorem dX1_noteHeight_12 : decode cX1_noteHeight 12 = .ok (.if_icmp .lt 13, 3) := by decide +kernel
theorem dX1_noteHeight_15 : decode cX1_noteHeight 15 = .ok (.aload_n 0, 1) := by decide +kernel
theorem dX1_noteHeight_16 : decode cX1_noteHeight 16 = .ok (.iload_n 1, 1) := by decide +kernel
theorem dX1_noteHeight_17 : decode cX1_noteHeight 17 = .ok (.putfield 31, 3) := by decide +kernel
theorem dX1_noteHeight_20 : decode cX1_noteHeight 20 = .ok (.aload_n 0, 1) := by decide +kernel
theorem dX1_noteHeight_21 : decode cX1_noteHeight 21 = .ok (.iload_n 2, 1) := by decide +kernel
theorem dX1_noteHeight_22 : decode cX1_noteHeight 22 = .ok (.putfield 34, 3) := by decide +kernel
theorem dX1_noteHeight_25 : decode cX1_noteHeight 25 = .ok (.return_, 1) := by decide +kernel
theorem dX1_noteRun_0 : decode cX1_noteRun 0 = .ok (.iload_n 2, 1) := by decide +kernel
theorem dX1_noteRun_1 : decode cX1_noteRun 1 = .ok (.ifCond .le 74, 3) := by decide +kernel
theorem dX1_noteRun_4 : decode cX1_noteRun 4 = .ok (.iload_n 1, 1) := by decide +kernel
theorem dX1_noteRun_5 : decode cX1_noteRun 5 = .ok (.ifCond .lt 70, 3) := by decide +kernel
theorem dX1_noteRun_8 : decode cX1_noteRun 8 = .ok (.iload_n 1, 1) := by decide +kernel
theorem dX1_noteRun_9 : decode cX1_noteRun 9 = .ok (.aload_n 0, 1) := by decide +kernel
theorem dX1_noteRun_10 : decode cX1_noteRun 10 = .ok (.getfield 9, 3) := by decide +kernel
theorem dX1_noteRun_13 : decode cX1_noteRun 13 = .ok (.arraylength, 1) := by decide +kernel
theorem dX1_noteRun_14 : decode cX1_noteRun 14 = .ok (.if_icmp .ge 61, 3) := by decide +kernel
theorem dX1_noteRun_17 : decode cX1_noteRun 17 = .ok (.aload_n 0, 1) := by decide +kernel
theorem dX1_noteRun_18 : decode cX1_noteRun 18 = .ok (.getfield 9, 3) := by decide +kernel
theorem dX1_noteRun_21 : decode cX1_noteRun 21 = .ok (.iload_n 1, 1) := by decide +kernel
theorem dX1_noteRun_22 : decode cX1_noteRun 22 = .ok (.iload_n 2, 1) := by decide +kernel
theorem dX1_noteRun_23 : decode cX1_noteRun 23 = .ok (.iastore, 1) := by decide +kernel
theorem dX1_noteRun_24 : decode cX1_noteRun 24 = .ok (.aload_n 0, 1) := by decide +kernel
theorem dX1_noteRun_25 : decode cX1_noteRun 25 = .ok (.iload_n 1, 1) := by decide +kernel
theorem dX1_noteRun_26 : decode cX1_noteRun 26 = .ok (.putfield 21, 3) := by decide +kernel
theorem dX1_noteRun_29 : decode cX1_noteRun 29 = .ok (.aload_n 0, 1) := by decide +kernel
theorem dX1_noteRun_30 : decode cX1_noteRun 30 = .ok (.aload_n 0, 1) := by decide +kernel
theorem dX1_noteRun_31 : decode cX1_noteRun 31 = .ok (.getfield 25, 3) := by decide +kernel
theorem dX1_noteRun_34 : decode cX1_noteRun 34 = .ok (.ifCond .ge 7, 3) := by decide +kernel
theorem dX1_noteRun_37 : decode cX1_noteRun 37 = .ok (.iload_n 1, 1) := by decide +kernel
theorem dX1_noteRun_38 : decode cX1_noteRun 38 = .ok (.goto 7, 3) := by decide +kernel
theorem dX1_noteRun_41 : decode cX1_noteRun 41 = .ok (.aload_n 0, 1) := by decide +kernel
theorem dX1_noteRun_42 : decode cX1_noteRun 42 = .ok (.getfield 25, 3) := by decide +kernel
theorem dX1_noteRun_45 : decode cX1_noteRun 45 = .ok (.putfield 25, 3) := by decide +kernel
theorem dX1_noteRun_48 : decode cX1_noteRun 48 = .ok (.aload_n 0, 1) := by decide +kernel
theorem dX1_noteRun_49 : decode cX1_noteRun 49 = .ok (.dup, 1) := by decide +kernel
theorem dX1_noteRun_50 : decode cX1_noteRun 50 = .ok (.getfield 28, 3) := by decide +kernel
theorem dX1_noteRun_53 : decode cX1_noteRun 53 = .ok (.iconst 1, 1) := by decide +kernel
theorem dX1_noteRun_54 : decode cX1_noteRun 54 = .ok (.iadd, 1) := by decide +kernel
theorem dX1_noteRun_55 : decode cX1_noteRun 55 = .ok (.putfield 28, 3) := by decide +kernel
theorem dX1_noteRun_58 : decode cX1_noteRun 58 = .ok (.aload_n 0, 1) := by decide +kernel
theorem dX1_noteRun_59 : decode cX1_noteRun 59 = .ok (.iload_n 2, 1) := by decide +kernel
theorem dX1_noteRun_60 : decode cX1_noteRun 60 = .ok (.iload_n 3, 1) := by decide +kernel
theorem dX1_noteRun_61 : decode cX1_noteRun 61 = .ok (.if_icmp .lt 7, 3) := by decide +kernel
theorem dX1_noteRun_64 : decode cX1_noteRun 64 = .ok (.iload_n 1, 1) := by decide +kernel
theorem dX1_noteRun_65 : decode cX1_noteRun 65 = .ok (.goto 7, 3) := by decide +kernel
theorem dX1_noteRun_68 : decode cX1_noteRun 68 = .ok (.aload_n 0, 1) := by decide +kernel
theorem dX1_noteRun_69 : decode cX1_noteRun 69 = .ok (.getfield 37, 3) := by decide +kernel
theorem dX1_noteRun_72 : decode cX1_noteRun 72 = .ok (.putfield 37, 3) := by decide +kernel
theorem dX1_noteRun_75 : decode cX1_noteRun 75 = .ok (.return_, 1) := by decide +kernel
theorem dX1_lasts_0 : decode cX1_lasts 0 = .ok (.iload_n 1, 1) := by decide +kernel
theorem dX1_lasts_1 : decode cX1_lasts 1 = .ok (.ifCond .lt 26, 3) := by decide +kernel
theorem dX1_lasts_4 : decode cX1_lasts 4 = .ok (.iload_n 1, 1) := by decide +kernel
theorem dX1_lasts_5 : decode cX1_lasts 5 = .ok (.aload_n 0, 1) := by decide +kernel
theorem dX1_lasts_6 : decode cX1_lasts 6 = .ok (.getfield 9, 3) := by decide +kernel
theorem dX1_lasts_9 : decode cX1_lasts 9 = .ok (.arraylength, 1) := by decide +kernel
theorem dX1_lasts_10 : decode cX1_lasts 10 = .ok (.if_icmp .ge 17, 3) := by decide +kernel
theorem dX1_lasts_13 : decode cX1_lasts 13 = .ok (.aload_n 0, 1) := by decide +kernel
theorem dX1_lasts_14 : decode cX1_lasts 14 = .ok (.getfield 9, 3) := by decide +kernel
theorem dX1_lasts_17 : decode cX1_lasts 17 = .ok (.iload_n 1, 1) := by decide +kernel
theorem dX1_lasts_18 : decode cX1_lasts 18 = .ok (.iaload, 1) := by decide +kernel
theorem dX1_lasts_19 : decode cX1_lasts 19 = .ok (.iload_n 2, 1) := by decide +kernel
theorem dX1_lasts_20 : decode cX1_lasts 20 = .ok (.if_icmp .lt 7, 3) := by decide +kernel
theorem dX1_lasts_23 : decode cX1_lasts 23 = .ok (.iconst 1, 1) := by decide +kernel
theorem dX1_lasts_24 : decode cX1_lasts 24 = .ok (.goto 4, 3) := by decide +kernel
theorem dX1_lasts_27 : decode cX1_lasts 27 = .ok (.iconst 0, 1) := by decide +kernel
theorem dX1_lasts_28 : decode cX1_lasts 28 = .ok (.ireturn, 1) := by decide +kernel
theorem dX1_fact_0 : decode cX1_fact 0 = .ok (.iload_n 1, 1) := by decide +kernel
theorem dX1_fact_1 : decode cX1_fact 1 = .ok (.tableswitch 51 0 3 #[31, 36, 41, 46], 31) := by decide +kernel
theorem dX1_fact_32 : decode cX1_fact 32 = .ok (.aload_n 0, 1) := by decide +kernel
theorem dX1_fact_33 : decode cX1_fact 33 = .ok (.getfield 21, 3) := by decide +kernel
theorem dX1_fact_36 : decode cX1_fact 36 = .ok (.ireturn, 1) := by decide +kernel
theorem dX1_fact_37 : decode cX1_fact 37 = .ok (.aload_n 0, 1) := by decide +kernel
theorem dX1_fact_38 : decode cX1_fact 38 = .ok (.getfield 25, 3) := by decide +kernel
theorem dX1_fact_41 : decode cX1_fact 41 = .ok (.ireturn, 1) := by decide +kernel
theorem dX1_fact_42 : decode cX1_fact 42 = .ok (.aload_n 0, 1) := by decide +kernel
theorem dX1_fact_43 : decode cX1_fact 43 = .ok (.getfield 28, 3) := by decide +kernel
theorem dX1_fact_46 : decode cX1_fact 46 = .ok (.ireturn, 1) := by decide +kernel
theorem dX1_fact_47 : decode cX1_fact 47 = .ok (.aload_n 0, 1) := by decide +kernel
theorem dX1_fact_48 : decode cX1_fact 48 = .ok (.getfield 31, 3) := by decide +kernel
theorem dX1_fact_51 : decode cX1_fact 51 = .ok (.ireturn, 1) := by decide +kernel
theorem dX1_fact_52 : decode cX1_fact 52 = .ok (.aload_n 0, 1) := by decide +kernel
theorem dX1_fact_53 : decode cX1_fact 53 = .ok (.getfield 37, 3) := by decide +kernel
theorem dX1_fact_56 : decode cX1_fact 56 = .ok (.ireturn, 1) := by decide +kernel
theorem dX2_init_0 : decode cX2_init 0 = .ok (.aload_n 0, 1) := by decide +kernel
theorem dX2_init_1 : decode cX2_init 1 = .ok (.invokespecial 3, 3) := by decide +kernel
theorem dX2_init_4 : decode cX2_init 4 = .ok (.aload_n 0, 1) := by decide +kernel
theorem dX2_init_5 : decode cX2_init 5 = .ok (.bipush 20, 2) := by decide +kernel
theorem dX2_init_7 : decode cX2_init 7 = .ok (.iconst 4, 1) := by decide +kernel
theorem dX2_init_8 : decode cX2_init 8 = .ok (.multianewarray 9 2, 4) := by decide +kernel
theorem dX2_init_12 : decode cX2_init 12 = .ok (.putfield 11, 3) := by decide +kernel
theorem dX2_init_15 : decode cX2_init 15 = .ok (.return_, 1) := by decide +kernel
theorem dX2_clear_0 : decode cX2_clear 0 = .ok (.aload_n 0, 1) := by decide +kernel
theorem dX2_clear_1 : decode cX2_clear 1 = .ok (.iconst 0, 1) := by decide +kernel
theorem dX2_clear_2 : decode cX2_clear 2 = .ok (.putfield 16, 3) := by decide +kernel
theorem dX2_clear_5 : decode cX2_clear 5 = .ok (.aload_n 0, 1) := by decide +kernel
theorem dX2_clear_6 : decode cX2_clear 6 = .ok (.iconst 0, 1) := by decide +kernel
theorem dX2_clear_7 : decode cX2_clear 7 = .ok (.putfield 20, 3) := by decide +kernel
theorem dX2_clear_10 : decode cX2_clear 10 = .ok (.aload_n 0, 1) := by decide +kernel
theorem dX2_clear_11 : decode cX2_clear 11 = .ok (.aconst_null, 1) := by decide +kernel
theorem dX2_clear_12 : decode cX2_clear 12 = .ok (.putfield 23, 3) := by decide +kernel
theorem dX2_clear_15 : decode cX2_clear 15 = .ok (.return_, 1) := by decide +kernel
theorem dX2_minutesUntilReady_0 : decode cX2_minutesUntilReady 0 = .ok (.aload_n 0, 1) := by decide +kernel
theorem dX2_minutesUntilReady_1 : decode cX2_minutesUntilReady 1 = .ok (.getfield 23, 3) := by decide +kernel
theorem dX2_minutesUntilReady_4 : decode cX2_minutesUntilReady 4 = .ok (.ifnonnull 7, 3) := by decide +kernel
theorem dX2_minutesUntilReady_7 : decode cX2_minutesUntilReady 7 = .ok (.iconst 0, 1) := by decide +kernel
theorem dX2_minutesUntilReady_8 : decode cX2_minutesUntilReady 8 = .ok (.goto 10, 3) := by decide +kernel
theorem dX2_minutesUntilReady_11 : decode cX2_minutesUntilReady 11 = .ok (.aload_n 0, 1) := by decide +kernel
theorem dX2_minutesUntilReady_12 : decode cX2_minutesUntilReady 12 = .ok (.getfield 23, 3) := by decide +kernel
theorem dX2_minutesUntilReady_15 : decode cX2_minutesUntilReady 15 = .ok (.getfield 27, 3) := by decide +kernel
theorem dX2_minutesUntilReady_18 : decode cX2_minutesUntilReady 18 = .ok (.istore_n 2, 1) := by decide +kernel
theorem dX2_minutesUntilReady_19 : decode cX2_minutesUntilReady 19 = .ok (.aload_n 0, 1) := by decide +kernel
theorem dX2_minutesUntilReady_20 : decode cX2_minutesUntilReady 20 = .ok (.getfield 23, 3) := by decide +kernel
theorem dX2_minutesUntilReady_23 : decode cX2_minutesUntilReady 23 = .ok (.ifnonnull 7, 3) := by decide +kernel
theorem dX2_minutesUntilReady_26 : decode cX2_minutesUntilReady 26 = .ok (.iconst 2, 1) := by decide +kernel
theorem dX2_minutesUntilReady_27 : decode cX2_minutesUntilReady 27 = .ok (.goto 27, 3) := by decide +kernel
theorem dX2_minutesUntilReady_30 : decode cX2_minutesUntilReady 30 = .ok (.iconst 1, 1) := by decide +kernel
theorem dX2_minutesUntilReady_31 : decode cX2_minutesUntilReady 31 = .ok (.sipush 1000, 3) := by decide +kernel
theorem dX2_minutesUntilReady_34 : decode cX2_minutesUntilReady 34 = .ok (.aload_n 0, 1) := by decide +kernel
theorem dX2_minutesUntilReady_35 : decode cX2_minutesUntilReady 35 = .ok (.getfield 23, 3) := by decide +kernel
theorem dX2_minutesUntilReady_38 : decode cX2_minutesUntilReady 38 = .ok (.getfield 32, 3) := by decide +kernel
theorem dX2_minutesUntilReady_41 : decode cX2_minutesUntilReady 41 = .ok (.aload_n 1, 1) := by decide +kernel
theorem dX2_minutesUntilReady_42 : decode cX2_minutesUntilReady 42 = .ok (.getfield 32, 3) := by decide +kernel
theorem dX2_minutesUntilReady_45 : decode cX2_minutesUntilReady 45 = .ok (.invokestatic 36, 3) := by decide +kernel
theorem dX2_minutesUntilReady_48 : decode cX2_minutesUntilReady 48 = .ok (.isub, 1) := by decide +kernel
theorem dX2_minutesUntilReady_49 : decode cX2_minutesUntilReady 49 = .ok (.sipush 250, 3) := by decide +kernel
theorem dX2_minutesUntilReady_52 : decode cX2_minutesUntilReady 52 = .ok (.idiv, 1) := by decide +kernel
theorem dX2_minutesUntilReady_53 : decode cX2_minutesUntilReady 53 = .ok (.iadd, 1) := by decide +kernel
theorem dX2_minutesUntilReady_54 : decode cX2_minutesUntilReady 54 = .ok (.istore_n 3, 1) := by decide +kernel
theorem dX2_minutesUntilReady_55 : decode cX2_minutesUntilReady 55 = .ok (.aload_n 1, 1) := by decide +kernel
theorem dX2_minutesUntilReady_56 : decode cX2_minutesUntilReady 56 = .ok (.getfield 27, 3) := by decide +kernel
theorem dX2_minutesUntilReady_59 : decode cX2_minutesUntilReady 59 = .ok (.iload_n 2, 1) := by decide +kernel
theorem dX2_minutesUntilReady_60 : decode cX2_minutesUntilReady 60 = .ok (.if_icmp .ne 7, 3) := by decide +kernel
theorem dX2_minutesUntilReady_63 : decode cX2_minutesUntilReady 63 = .ok (.iload_n 3, 1) := by decide +kernel
theorem dX2_minutesUntilReady_64 : decode cX2_minutesUntilReady 64 = .ok (.goto 6, 3) := by decide +kernel
theorem dX2_minutesUntilReady_67 : decode cX2_minutesUntilReady 67 = .ok (.iload_n 3, 1) := by decide +kernel
theorem dX2_minutesUntilReady_68 : decode cX2_minutesUntilReady 68 = .ok (.iconst 3, 1) := by decide +kernel
theorem dX2_minutesUntilReady_69 : decode cX2_minutesUntilReady 69 = .ok (.iadd, 1) := by decide +kernel
theorem dX2_minutesUntilReady_70 : decode cX2_minutesUntilReady 70 = .ok (.ireturn, 1) := by decide +kernel
theorem dX2_take_0 : decode cX2_take 0 = .ok (.aload_n 0, 1) := by decide +kernel
theorem dX2_take_1 : decode cX2_take 1 = .ok (.aload_n 1, 1) := by decide +kernel
theorem dX2_take_2 : decode cX2_take 2 = .ok (.invokevirtual 40, 3) := by decide +kernel
theorem dX2_take_5 : decode cX2_take 5 = .ok (.istore 4, 2) := by decide +kernel
theorem dX2_take_7 : decode cX2_take 7 = .ok (.aload_n 0, 1) := by decide +kernel
theorem dX2_take_8 : decode cX2_take 8 = .ok (.getfield 16, 3) := by decide +kernel
theorem dX2_take_11 : decode cX2_take 11 = .ok (.ifCond .lt 103, 3) := by decide +kernel
theorem dX2_take_14 : decode cX2_take 14 = .ok (.aload_n 0, 1) := by decide +kernel
theorem dX2_take_15 : decode cX2_take 15 = .ok (.getfield 16, 3) := by decide +kernel
theorem dX2_take_18 : decode cX2_take 18 = .ok (.aload_n 0, 1) := by decide +kernel
theorem dX2_take_19 : decode cX2_take 19 = .ok (.getfield 11, 3) := by decide +kernel
theorem dX2_take_22 : decode cX2_take 22 = .ok (.arraylength, 1) := by decide +kernel
theorem dX2_take_23 : decode cX2_take 23 = .ok (.if_icmp .ge 91, 3) := by decide +kernel
theorem dX2_take_26 : decode cX2_take 26 = .ok (.aload_n 0, 1) := by decide +kernel
theorem dX2_take_27 : decode cX2_take 27 = .ok (.getfield 11, 3) := by decide +kernel
theorem dX2_take_30 : decode cX2_take 30 = .ok (.aload_n 0, 1) := by decide +kernel
theorem dX2_take_31 : decode cX2_take 31 = .ok (.getfield 16, 3) := by decide +kernel
theorem dX2_take_34 : decode cX2_take 34 = .ok (.aaload, 1) := by decide +kernel
theorem dX2_take_35 : decode cX2_take 35 = .ok (.iconst 0, 1) := by decide +kernel
theorem dX2_take_36 : decode cX2_take 36 = .ok (.aload_n 1, 1) := by decide +kernel
theorem dX2_take_37 : decode cX2_take 37 = .ok (.getfield 44, 3) := by decide +kernel
theorem dX2_take_40 : decode cX2_take 40 = .ok (.iastore, 1) := by decide +kernel
theorem dX2_take_41 : decode cX2_take 41 = .ok (.aload_n 0, 1) := by decide +kernel
theorem dX2_take_42 : decode cX2_take 42 = .ok (.getfield 11, 3) := by decide +kernel
theorem dX2_take_45 : decode cX2_take 45 = .ok (.aload_n 0, 1) := by decide +kernel
theorem dX2_take_46 : decode cX2_take 46 = .ok (.getfield 16, 3) := by decide +kernel
theorem dX2_take_49 : decode cX2_take 49 = .ok (.aaload, 1) := by decide +kernel
theorem dX2_take_50 : decode cX2_take 50 = .ok (.iconst 1, 1) := by decide +kernel
theorem dX2_take_51 : decode cX2_take 51 = .ok (.iload_n 2, 1) := by decide +kernel
theorem dX2_take_52 : decode cX2_take 52 = .ok (.iload 4, 2) := by decide +kernel
theorem dX2_take_54 : decode cX2_take 54 = .ok (.iadd, 1) := by decide +kernel
theorem dX2_take_55 : decode cX2_take 55 = .ok (.iastore, 1) := by decide +kernel
theorem dX2_take_56 : decode cX2_take 56 = .ok (.aload_n 0, 1) := by decide +kernel
theorem dX2_take_57 : decode cX2_take 57 = .ok (.getfield 11, 3) := by decide +kernel
theorem dX2_take_60 : decode cX2_take 60 = .ok (.aload_n 0, 1) := by decide +kernel
theorem dX2_take_61 : decode cX2_take 61 = .ok (.getfield 16, 3) := by decide +kernel
theorem dX2_take_64 : decode cX2_take 64 = .ok (.aaload, 1) := by decide +kernel
theorem dX2_take_65 : decode cX2_take 65 = .ok (.iconst 2, 1) := by decide +kernel
theorem dX2_take_66 : decode cX2_take 66 = .ok (.iload 4, 2) := by decide +kernel
theorem dX2_take_68 : decode cX2_take 68 = .ok (.iastore, 1) := by decide +kernel
theorem dX2_take_69 : decode cX2_take 69 = .ok (.aload_n 0, 1) := by decide +kernel
theorem dX2_take_70 : decode cX2_take 70 = .ok (.getfield 11, 3) := by decide +kernel
theorem dX2_take_73 : decode cX2_take 73 = .ok (.aload_n 0, 1) := by decide +kernel
theorem dX2_take_74 : decode cX2_take 74 = .ok (.getfield 16, 3) := by decide +kernel
theorem dX2_take_77 : decode cX2_take 77 = .ok (.aaload, 1) := by decide +kernel
theorem dX2_take_78 : decode cX2_take 78 = .ok (.iconst 3, 1) := by decide +kernel
theorem dX2_take_79 : decode cX2_take 79 = .ok (.iload_n 3, 1) := by decide +kernel
theorem dX2_take_80 : decode cX2_take 80 = .ok (.iastore, 1) := by decide +kernel
theorem dX2_take_81 : decode cX2_take 81 = .ok (.aload_n 0, 1) := by decide +kernel
theorem dX2_take_82 : decode cX2_take 82 = .ok (.dup, 1) := by decide +kernel
theorem dX2_take_83 : decode cX2_take 83 = .ok (.getfield 16, 3) := by decide +kernel
theorem dX2_take_86 : decode cX2_take 86 = .ok (.iconst 1, 1) := by decide +kernel
theorem dX2_take_87 : decode cX2_take 87 = .ok (.iadd, 1) := by decide +kernel
theorem dX2_take_88 : decode cX2_take 88 = .ok (.putfield 16, 3) := by decide +kernel
theorem dX2_take_91 : decode cX2_take 91 = .ok (.aload_n 0, 1) := by decide +kernel
theorem dX2_take_92 : decode cX2_take 92 = .ok (.dup, 1) := by decide +kernel
theorem dX2_take_93 : decode cX2_take 93 = .ok (.getfield 20, 3) := by decide +kernel
theorem dX2_take_96 : decode cX2_take 96 = .ok (.aload_n 1, 1) := by decide +kernel
theorem dX2_take_97 : decode cX2_take 97 = .ok (.getfield 47, 3) := by decide +kernel
theorem dX2_take_100 : decode cX2_take 100 = .ok (.iadd, 1) := by decide +kernel
theorem dX2_take_101 : decode cX2_take 101 = .ok (.putfield 20, 3) := by decide +kernel
theorem dX2_take_104 : decode cX2_take 104 = .ok (.aload_n 1, 1) := by decide +kernel
theorem dX2_take_105 : decode cX2_take 105 = .ok (.iconst 1, 1) := by decide +kernel
theorem dX2_take_106 : decode cX2_take 106 = .ok (.putfield 48, 3) := by decide +kernel
theorem dX2_take_109 : decode cX2_take 109 = .ok (.aload_n 0, 1) := by decide +kernel
theorem dX2_take_110 : decode cX2_take 110 = .ok (.aload_n 1, 1) := by decide +kernel
theorem dX2_take_111 : decode cX2_take 111 = .ok (.putfield 23, 3) := by decide +kernel
theorem dX2_take_114 : decode cX2_take 114 = .ok (.iload_n 2, 1) := by decide +kernel
theorem dX2_take_115 : decode cX2_take 115 = .ok (.iload 4, 2) := by decide +kernel
theorem dX2_take_117 : decode cX2_take 117 = .ok (.iadd, 1) := by decide +kernel
theorem dX2_take_118 : decode cX2_take 118 = .ok (.aload_n 1, 1) := by decide +kernel
theorem dX2_take_119 : decode cX2_take 119 = .ok (.getfield 47, 3) := by decide +kernel
theorem dX2_take_122 : decode cX2_take 122 = .ok (.iadd, 1) := by decide +kernel
theorem dX2_take_123 : decode cX2_take 123 = .ok (.ireturn, 1) := by decide +kernel
theorem dX3_init_0 : decode cX3_init 0 = .ok (.aload_n 0, 1) := by decide +kernel
theorem dX3_init_1 : decode cX3_init 1 = .ok (.invokespecial 1, 3) := by decide +kernel
theorem dX3_init_4 : decode cX3_init 4 = .ok (.aload_n 0, 1) := by decide +kernel
theorem dX3_init_5 : decode cX3_init 5 = .ok (.iload_n 1, 1) := by decide +kernel
theorem dX3_init_6 : decode cX3_init 6 = .ok (.putfield 7, 3) := by decide +kernel
theorem dX3_init_9 : decode cX3_init 9 = .ok (.aload_n 0, 1) := by decide +kernel
theorem dX3_init_10 : decode cX3_init 10 = .ok (.iload_n 2, 1) := by decide +kernel
theorem dX3_init_11 : decode cX3_init 11 = .ok (.putfield 13, 3) := by decide +kernel
theorem dX3_init_14 : decode cX3_init 14 = .ok (.aload_n 0, 1) := by decide +kernel
theorem dX3_init_15 : decode cX3_init 15 = .ok (.iload_n 2, 1) := by decide +kernel
theorem dX3_init_16 : decode cX3_init 16 = .ok (.invokestatic 16, 3) := by decide +kernel
theorem dX3_init_19 : decode cX3_init 19 = .ok (.putfield 22, 3) := by decide +kernel
theorem dX3_init_22 : decode cX3_init 22 = .ok (.aload_n 0, 1) := by decide +kernel
theorem dX3_init_23 : decode cX3_init 23 = .ok (.iload_n 2, 1) := by decide +kernel
theorem dX3_init_24 : decode cX3_init 24 = .ok (.bipush 90, 2) := by decide +kernel
theorem dX3_init_26 : decode cX3_init 26 = .ok (.iadd, 1) := by decide +kernel
theorem dX3_init_27 : decode cX3_init 27 = .ok (.invokestatic 16, 3) := by decide +kernel
theorem dX3_init_30 : decode cX3_init 30 = .ok (.putfield 25, 3) := by decide +kernel
theorem dX3_init_33 : decode cX3_init 33 = .ok (.return_, 1) := by decide +kernel
theorem dX4_init_0 : decode cX4_init 0 = .ok (.aload_n 0, 1) := by decide +kernel
theorem dX4_init_1 : decode cX4_init 1 = .ok (.invokespecial 1, 3) := by decide +kernel
theorem dX4_init_4 : decode cX4_init 4 = .ok (.aload_n 0, 1) := by decide +kernel
theorem dX4_init_5 : decode cX4_init 5 = .ok (.new 7, 3) := by decide +kernel
theorem dX4_init_8 : decode cX4_init 8 = .ok (.dup, 1) := by decide +kernel
theorem dX4_init_9 : decode cX4_init 9 = .ok (.invokespecial 9, 3) := by decide +kernel
theorem dX4_init_12 : decode cX4_init 12 = .ok (.putfield 10, 3) := by decide +kernel
theorem dX4_init_15 : decode cX4_init 15 = .ok (.aload_n 0, 1) := by decide +kernel
theorem dX4_init_16 : decode cX4_init 16 = .ok (.sipush 300, 3) := by decide +kernel
theorem dX4_init_19 : decode cX4_init 19 = .ok (.putfield 16, 3) := by decide +kernel
theorem dX4_init_22 : decode cX4_init 22 = .ok (.aload_n 0, 1) := by decide +kernel
theorem dX4_init_23 : decode cX4_init 23 = .ok (.iconst 1, 1) := by decide +kernel
theorem dX4_init_24 : decode cX4_init 24 = .ok (.putfield 20, 3) := by decide +kernel
theorem dX4_init_27 : decode cX4_init 27 = .ok (.aload_n 0, 1) := by decide +kernel
theorem dX4_init_28 : decode cX4_init 28 = .ok (.iconst 1, 1) := by decide +kernel
theorem dX4_init_29 : decode cX4_init 29 = .ok (.putfield 23, 3) := by decide +kernel
theorem dX4_init_32 : decode cX4_init 32 = .ok (.aload_n 0, 1) := by decide +kernel
theorem dX4_init_33 : decode cX4_init 33 = .ok (.iconst (-1), 1) := by decide +kernel
theorem dX4_init_34 : decode cX4_init 34 = .ok (.putfield 26, 3) := by decide +kernel
theorem dX4_init_37 : decode cX4_init 37 = .ok (.aload_n 0, 1) := by decide +kernel
theorem dX4_init_38 : decode cX4_init 38 = .ok (.iload_n 1, 1) := by decide +kernel
theorem dX4_init_39 : decode cX4_init 39 = .ok (.putfield 29, 3) := by decide +kernel
theorem dX4_init_42 : decode cX4_init 42 = .ok (.aload_n 0, 1) := by decide +kernel
theorem dX4_init_43 : decode cX4_init 43 = .ok (.aload_n 2, 1) := by decide +kernel
theorem dX4_init_44 : decode cX4_init 44 = .ok (.putfield 32, 3) := by decide +kernel
theorem dX4_init_47 : decode cX4_init 47 = .ok (.aload_n 0, 1) := by decide +kernel
theorem dX4_init_48 : decode cX4_init 48 = .ok (.iload_n 3, 1) := by decide +kernel
theorem dX4_init_49 : decode cX4_init 49 = .ok (.putfield 36, 3) := by decide +kernel
theorem dX4_init_52 : decode cX4_init 52 = .ok (.aload_n 0, 1) := by decide +kernel
theorem dX4_init_53 : decode cX4_init 53 = .ok (.iload 4, 2) := by decide +kernel
theorem dX4_init_55 : decode cX4_init 55 = .ok (.putfield 39, 3) := by decide +kernel
theorem dX4_init_58 : decode cX4_init 58 = .ok (.aload_n 0, 1) := by decide +kernel
theorem dX4_init_59 : decode cX4_init 59 = .ok (.iload 5, 2) := by decide +kernel
theorem dX4_init_61 : decode cX4_init 61 = .ok (.putfield 42, 3) := by decide +kernel
theorem dX4_init_64 : decode cX4_init 64 = .ok (.return_, 1) := by decide +kernel
theorem dX4_isOpenOn_0 : decode cX4_isOpenOn 0 = .ok (.aload_n 0, 1) := by decide +kernel
theorem dX4_isOpenOn_1 : decode cX4_isOpenOn 1 = .ok (.getfield 45, 3) := by decide +kernel
theorem dX4_isOpenOn_4 : decode cX4_isOpenOn 4 = .ok (.aload_n 0, 1) := by decide +kernel
theorem dX4_isOpenOn_5 : decode cX4_isOpenOn 5 = .ok (.getfield 20, 3) := by decide +kernel
theorem dX4_isOpenOn_8 : decode cX4_isOpenOn 8 = .ok (.if_icmp .ge 27, 3) := by decide +kernel
theorem dX4_isOpenOn_11 : decode cX4_isOpenOn 11 = .ok (.aload_n 0, 1) := by decide +kernel
theorem dX4_isOpenOn_12 : decode cX4_isOpenOn 12 = .ok (.getfield 45, 3) := by decide +kernel
theorem dX4_isOpenOn_15 : decode cX4_isOpenOn 15 = .ok (.ifCond .eq 16, 3) := by decide +kernel
theorem dX4_isOpenOn_18 : decode cX4_isOpenOn 18 = .ok (.iload_n 1, 1) := by decide +kernel
theorem dX4_isOpenOn_19 : decode cX4_isOpenOn 19 = .ok (.aload_n 0, 1) := by decide +kernel
theorem dX4_isOpenOn_20 : decode cX4_isOpenOn 20 = .ok (.getfield 26, 3) := by decide +kernel
theorem dX4_isOpenOn_23 : decode cX4_isOpenOn 23 = .ok (.isub, 1) := by decide +kernel
theorem dX4_isOpenOn_24 : decode cX4_isOpenOn 24 = .ok (.aload_n 0, 1) := by decide +kernel
theorem dX4_isOpenOn_25 : decode cX4_isOpenOn 25 = .ok (.getfield 23, 3) := by decide +kernel
theorem dX4_isOpenOn_28 : decode cX4_isOpenOn 28 = .ok (.if_icmp .lt 7, 3) := by decide +kernel
theorem dX4_isOpenOn_31 : decode cX4_isOpenOn 31 = .ok (.iconst 1, 1) := by decide +kernel
theorem dX4_isOpenOn_32 : decode cX4_isOpenOn 32 = .ok (.goto 4, 3) := by decide +kernel
theorem dX4_isOpenOn_35 : decode cX4_isOpenOn 35 = .ok (.iconst 0, 1) := by decide +kernel
theorem dX4_isOpenOn_36 : decode cX4_isOpenOn 36 = .ok (.ireturn, 1) := by decide +kernel
theorem dX4_takeVisit_0 : decode cX4_takeVisit 0 = .ok (.aload_n 0, 1) := by decide +kernel
theorem dX4_takeVisit_1 : decode cX4_takeVisit 1 = .ok (.getfield 48, 3) := by decide +kernel
theorem dX4_takeVisit_4 : decode cX4_takeVisit 4 = .ok (.ifCond .eq 18, 3) := by decide +kernel
theorem dX4_takeVisit_7 : decode cX4_takeVisit 7 = .ok (.aload_n 0, 1) := by decide +kernel
theorem dX4_takeVisit_8 : decode cX4_takeVisit 8 = .ok (.dup, 1) := by decide +kernel
theorem dX4_takeVisit_9 : decode cX4_takeVisit 9 = .ok (.getfield 45, 3) := by decide +kernel
theorem dX4_takeVisit_12 : decode cX4_takeVisit 12 = .ok (.iconst 1, 1) := by decide +kernel
theorem dX4_takeVisit_13 : decode cX4_takeVisit 13 = .ok (.iadd, 1) := by decide +kernel
theorem dX4_takeVisit_14 : decode cX4_takeVisit 14 = .ok (.putfield 45, 3) := by decide +kernel
theorem dX4_takeVisit_17 : decode cX4_takeVisit 17 = .ok (.aload_n 0, 1) := by decide +kernel
theorem dX4_takeVisit_18 : decode cX4_takeVisit 18 = .ok (.iload_n 1, 1) := by decide +kernel
theorem dX4_takeVisit_19 : decode cX4_takeVisit 19 = .ok (.putfield 26, 3) := by decide +kernel
theorem dX4_takeVisit_22 : decode cX4_takeVisit 22 = .ok (.return_, 1) := by decide +kernel
theorem dX4_fact_0 : decode cX4_fact 0 = .ok (.iload_n 1, 1) := by decide +kernel
theorem dX4_fact_1 : decode cX4_fact 1 = .ok (.tableswitch 102 0 8 #[51, 59, 67, 72, 77, 82, 87, 92, 97], 51) := by decide +kernel
theorem dX4_fact_52 : decode cX4_fact 52 = .ok (.aload_n 0, 1) := by decide +kernel
theorem dX4_fact_53 : decode cX4_fact 53 = .ok (.getfield 32, 3) := by decide +kernel
theorem dX4_fact_56 : decode cX4_fact 56 = .ok (.getfield 52, 3) := by decide +kernel
theorem dX4_fact_59 : decode cX4_fact 59 = .ok (.ireturn, 1) := by decide +kernel
theorem dX4_fact_60 : decode cX4_fact 60 = .ok (.aload_n 0, 1) := by decide +kernel
theorem dX4_fact_61 : decode cX4_fact 61 = .ok (.getfield 32, 3) := by decide +kernel
theorem dX4_fact_64 : decode cX4_fact 64 = .ok (.getfield 57, 3) := by decide +kernel
theorem dX4_fact_67 : decode cX4_fact 67 = .ok (.ireturn, 1) := by decide +kernel
theorem dX4_fact_68 : decode cX4_fact 68 = .ok (.aload_n 0, 1) := by decide +kernel
theorem dX4_fact_69 : decode cX4_fact 69 = .ok (.getfield 36, 3) := by decide +kernel
theorem dX4_fact_72 : decode cX4_fact 72 = .ok (.ireturn, 1) := by decide +kernel
theorem dX4_fact_73 : decode cX4_fact 73 = .ok (.aload_n 0, 1) := by decide +kernel
theorem dX4_fact_74 : decode cX4_fact 74 = .ok (.getfield 39, 3) := by decide +kernel
theorem dX4_fact_77 : decode cX4_fact 77 = .ok (.ireturn, 1) := by decide +kernel
theorem dX4_fact_78 : decode cX4_fact 78 = .ok (.aload_n 0, 1) := by decide +kernel
theorem dX4_fact_79 : decode cX4_fact 79 = .ok (.getfield 16, 3) := by decide +kernel
theorem dX4_fact_82 : decode cX4_fact 82 = .ok (.ireturn, 1) := by decide +kernel
theorem dX4_fact_83 : decode cX4_fact 83 = .ok (.aload_n 0, 1) := by decide +kernel
theorem dX4_fact_84 : decode cX4_fact 84 = .ok (.getfield 42, 3) := by decide +kernel
theorem dX4_fact_87 : decode cX4_fact 87 = .ok (.ireturn, 1) := by decide +kernel
theorem dX4_fact_88 : decode cX4_fact 88 = .ok (.aload_n 0, 1) := by decide +kernel
theorem dX4_fact_89 : decode cX4_fact 89 = .ok (.getfield 20, 3) := by decide +kernel
theorem dX4_fact_92 : decode cX4_fact 92 = .ok (.ireturn, 1) := by decide +kernel
theorem dX4_fact_93 : decode cX4_fact 93 = .ok (.aload_n 0, 1) := by decide +kernel
theorem dX4_fact_94 : decode cX4_fact 94 = .ok (.getfield 23, 3) := by decide +kernel
theorem dX4_fact_97 : decode cX4_fact 97 = .ok (.ireturn, 1) := by decide +kernel
theorem dX4_fact_98 : decode cX4_fact 98 = .ok (.aload_n 0, 1) := by decide +kernel
theorem dX4_fact_99 : decode cX4_fact 99 = .ok (.getfield 45, 3) := by decide +kernel
theorem dX4_fact_102 : decode cX4_fact 102 = .ok (.ireturn, 1) := by decide +kernel
theorem dX4_fact_103 : decode cX4_fact 103 = .ok (.aload_n 0, 1) := by decide +kernel
theorem dX4_fact_104 : decode cX4_fact 104 = .ok (.getfield 26, 3) := by decide +kernel
theorem dX4_fact_107 : decode cX4_fact 107 = .ok (.ireturn, 1) := by decide +kernel
theorem dX5_init_0 : decode cX5_init 0 = .ok (.aload_n 0, 1) := by decide +kernel
theorem dX5_init_1 : decode cX5_init 1 = .ok (.invokespecial 1, 3) := by decide +kernel
theorem dX5_init_4 : decode cX5_init 4 = .ok (.aload_n 0, 1) := by decide +kernel
theorem dX5_init_5 : decode cX5_init 5 = .ok (.new 7, 3) := by decide +kernel
theorem dX5_init_8 : decode cX5_init 8 = .ok (.dup, 1) := by decide +kernel
theorem dX5_init_9 : decode cX5_init 9 = .ok (.iconst 0, 1) := by decide +kernel
theorem dX5_init_10 : decode cX5_init 10 = .ok (.bipush 50, 2) := by decide +kernel
theorem dX5_init_12 : decode cX5_init 12 = .ok (.invokespecial 9, 3) := by decide +kernel
theorem dX5_init_15 : decode cX5_init 15 = .ok (.putfield 12, 3) := by decide +kernel
theorem dX5_init_18 : decode cX5_init 18 = .ok (.aload_n 0, 1) := by decide +kernel
theorem dX5_init_19 : decode cX5_init 19 = .ok (.new 7, 3) := by decide +kernel
theorem dX5_init_22 : decode cX5_init 22 = .ok (.dup, 1) := by decide +kernel
theorem dX5_init_23 : decode cX5_init 23 = .ok (.iconst 0, 1) := by decide +kernel
theorem dX5_init_24 : decode cX5_init 24 = .ok (.iconst 0, 1) := by decide +kernel
theorem dX5_init_25 : decode cX5_init 25 = .ok (.invokespecial 9, 3) := by decide +kernel
theorem dX5_init_28 : decode cX5_init 28 = .ok (.putfield 18, 3) := by decide +kernel
theorem dX5_init_31 : decode cX5_init 31 = .ok (.aload_n 0, 1) := by decide +kernel
theorem dX5_init_32 : decode cX5_init 32 = .ok (.sipush 600, 3) := by decide +kernel
theorem dX5_init_35 : decode cX5_init 35 = .ok (.putfield 21, 3) := by decide +kernel
theorem dX5_init_38 : decode cX5_init 38 = .ok (.aload_n 0, 1) := by decide +kernel
theorem dX5_init_39 : decode cX5_init 39 = .ok (.new 25, 3) := by decide +kernel
theorem dX5_init_42 : decode cX5_init 42 = .ok (.dup, 1) := by decide +kernel
theorem dX5_init_43 : decode cX5_init 43 = .ok (.invokespecial 27, 3) := by decide +kernel
theorem dX5_init_46 : decode cX5_init 46 = .ok (.putfield 28, 3) := by decide +kernel
theorem dX5_init_49 : decode cX5_init 49 = .ok (.aload_n 0, 1) := by decide +kernel
theorem dX5_init_50 : decode cX5_init 50 = .ok (.new 32, 3) := by decide +kernel
theorem dX5_init_53 : decode cX5_init 53 = .ok (.dup, 1) := by decide +kernel
theorem dX5_init_54 : decode cX5_init 54 = .ok (.invokespecial 34, 3) := by decide +kernel
theorem dX5_init_57 : decode cX5_init 57 = .ok (.putfield 35, 3) := by decide +kernel
theorem dX5_init_60 : decode cX5_init 60 = .ok (.aload_n 0, 1) := by decide +kernel
theorem dX5_init_61 : decode cX5_init 61 = .ok (.new 39, 3) := by decide +kernel
theorem dX5_init_64 : decode cX5_init 64 = .ok (.dup, 1) := by decide +kernel
theorem dX5_init_65 : decode cX5_init 65 = .ok (.invokespecial 41, 3) := by decide +kernel
theorem dX5_init_68 : decode cX5_init 68 = .ok (.putfield 42, 3) := by decide +kernel
theorem dX5_init_71 : decode cX5_init 71 = .ok (.return_, 1) := by decide +kernel
theorem dX5_setSite_0 : decode cX5_setSite 0 = .ok (.iload_n 1, 1) := by decide +kernel
theorem dX5_setSite_1 : decode cX5_setSite 1 = .ok (.bipush (-90), 2) := by decide +kernel
theorem dX5_setSite_3 : decode cX5_setSite 3 = .ok (.bipush 90, 2) := by decide +kernel
theorem dX5_setSite_5 : decode cX5_setSite 5 = .ok (.invokestatic 46, 3) := by decide +kernel
theorem dX5_setSite_8 : decode cX5_setSite 8 = .ok (.ifCond .eq 14, 3) := by decide +kernel
theorem dX5_setSite_11 : decode cX5_setSite 11 = .ok (.iload_n 2, 1) := by decide +kernel
theorem dX5_setSite_12 : decode cX5_setSite 12 = .ok (.iconst 0, 1) := by decide +kernel
theorem dX5_setSite_13 : decode cX5_setSite 13 = .ok (.sipush 1439, 3) := by decide +kernel
theorem dX5_setSite_16 : decode cX5_setSite 16 = .ok (.invokestatic 46, 3) := by decide +kernel
theorem dX5_setSite_19 : decode cX5_setSite 19 = .ok (.ifCond .ne 13, 3) := by decide +kernel
theorem dX5_setSite_22 : decode cX5_setSite 22 = .ok (.new 50, 3) := by decide +kernel
theorem dX5_setSite_25 : decode cX5_setSite 25 = .ok (.dup, 1) := by decide +kernel
theorem dX5_setSite_26 : decode cX5_setSite 26 = .ok (.ldc 52, 2) := by decide +kernel
theorem dX5_setSite_28 : decode cX5_setSite 28 = .ok (.invokespecial 54, 3) := by decide +kernel
theorem dX5_setSite_31 : decode cX5_setSite 31 = .ok (.athrow, 1) := by decide +kernel
theorem dX5_setSite_32 : decode cX5_setSite 32 = .ok (.aload_n 0, 1) := by decide +kernel
theorem dX5_setSite_33 : decode cX5_setSite 33 = .ok (.getfield 12, 3) := by decide +kernel
theorem dX5_setSite_36 : decode cX5_setSite 36 = .ok (.getfield 57, 3) := by decide +kernel
theorem dX5_setSite_39 : decode cX5_setSite 39 = .ok (.istore_n 3, 1) := by decide +kernel
theorem dX5_setSite_40 : decode cX5_setSite 40 = .ok (.aload_n 0, 1) := by decide +kernel
theorem dX5_setSite_41 : decode cX5_setSite 41 = .ok (.new 7, 3) := by decide +kernel
theorem dX5_setSite_44 : decode cX5_setSite 44 = .ok (.dup, 1) := by decide +kernel
theorem dX5_setSite_45 : decode cX5_setSite 45 = .ok (.iload_n 2, 1) := by decide +kernel
theorem dX5_setSite_46 : decode cX5_setSite 46 = .ok (.iload_n 1, 1) := by decide +kernel
theorem dX5_setSite_47 : decode cX5_setSite 47 = .ok (.invokespecial 9, 3) := by decide +kernel
theorem dX5_setSite_50 : decode cX5_setSite 50 = .ok (.putfield 12, 3) := by decide +kernel
theorem dX5_setSite_53 : decode cX5_setSite 53 = .ok (.aload_n 0, 1) := by decide +kernel
theorem dX5_setSite_54 : decode cX5_setSite 54 = .ok (.invokevirtual 60, 3) := by decide +kernel
theorem dX5_setSite_57 : decode cX5_setSite 57 = .ok (.iload_n 3, 1) := by decide +kernel
theorem dX5_setSite_58 : decode cX5_setSite 58 = .ok (.ireturn, 1) := by decide +kernel
theorem dX5_setLength_0 : decode cX5_setLength 0 = .ok (.iload_n 1, 1) := by decide +kernel
theorem dX5_setLength_1 : decode cX5_setLength 1 = .ok (.bipush 60, 2) := by decide +kernel
theorem dX5_setLength_3 : decode cX5_setLength 3 = .ok (.sipush 900, 3) := by decide +kernel
theorem dX5_setLength_6 : decode cX5_setLength 6 = .ok (.invokestatic 46, 3) := by decide +kernel
theorem dX5_setLength_9 : decode cX5_setLength 9 = .ok (.ifCond .ne 13, 3) := by decide +kernel
theorem dX5_setLength_12 : decode cX5_setLength 12 = .ok (.new 50, 3) := by decide +kernel
theorem dX5_setLength_15 : decode cX5_setLength 15 = .ok (.dup, 1) := by decide +kernel
theorem dX5_setLength_16 : decode cX5_setLength 16 = .ok (.ldc 63, 2) := by decide +kernel
theorem dX5_setLength_18 : decode cX5_setLength 18 = .ok (.invokespecial 54, 3) := by decide +kernel
theorem dX5_setLength_21 : decode cX5_setLength 21 = .ok (.athrow, 1) := by decide +kernel
theorem dX5_setLength_22 : decode cX5_setLength 22 = .ok (.aload_n 0, 1) := by decide +kernel
theorem dX5_setLength_23 : decode cX5_setLength 23 = .ok (.getfield 21, 3) := by decide +kernel
theorem dX5_setLength_26 : decode cX5_setLength 26 = .ok (.istore_n 2, 1) := by decide +kernel
theorem dX5_setLength_27 : decode cX5_setLength 27 = .ok (.aload_n 0, 1) := by decide +kernel
theorem dX5_setLength_28 : decode cX5_setLength 28 = .ok (.iload_n 1, 1) := by decide +kernel
theorem dX5_setLength_29 : decode cX5_setLength 29 = .ok (.putfield 21, 3) := by decide +kernel
theorem dX5_setLength_32 : decode cX5_setLength 32 = .ok (.aload_n 0, 1) := by decide +kernel
theorem dX5_setLength_33 : decode cX5_setLength 33 = .ok (.invokevirtual 60, 3) := by decide +kernel
theorem dX5_setLength_36 : decode cX5_setLength 36 = .ok (.iload_n 2, 1) := by decide +kernel
theorem dX5_setLength_37 : decode cX5_setLength 37 = .ok (.ireturn, 1) := by decide +kernel
theorem dX5_setMoon_0 : decode cX5_setMoon 0 = .ok (.iload_n 1, 1) := by decide +kernel
theorem dX5_setMoon_1 : decode cX5_setMoon 1 = .ok (.iload_n 2, 1) := by decide +kernel
theorem dX5_setMoon_2 : decode cX5_setMoon 2 = .ok (.invokestatic 65, 3) := by decide +kernel
theorem dX5_setMoon_5 : decode cX5_setMoon 5 = .ok (.ifCond .eq 13, 3) := by decide +kernel
theorem dX5_setMoon_8 : decode cX5_setMoon 8 = .ok (.iload_n 3, 1) := by decide +kernel
theorem dX5_setMoon_9 : decode cX5_setMoon 9 = .ok (.iconst 0, 1) := by decide +kernel
theorem dX5_setMoon_10 : decode cX5_setMoon 10 = .ok (.bipush 29, 2) := by decide +kernel
theorem dX5_setMoon_12 : decode cX5_setMoon 12 = .ok (.invokestatic 46, 3) := by decide +kernel
theorem dX5_setMoon_15 : decode cX5_setMoon 15 = .ok (.ifCond .ne 13, 3) := by decide +kernel
theorem dX5_setMoon_18 : decode cX5_setMoon 18 = .ok (.new 50, 3) := by decide +kernel
theorem dX5_setMoon_21 : decode cX5_setMoon 21 = .ok (.dup, 1) := by decide +kernel
theorem dX5_setMoon_22 : decode cX5_setMoon 22 = .ok (.ldc 69, 2) := by decide +kernel
theorem dX5_setMoon_24 : decode cX5_setMoon 24 = .ok (.invokespecial 54, 3) := by decide +kernel
theorem dX5_setMoon_27 : decode cX5_setMoon 27 = .ok (.athrow, 1) := by decide +kernel
theorem dX5_setMoon_28 : decode cX5_setMoon 28 = .ok (.aload_n 0, 1) := by decide +kernel
theorem dX5_setMoon_29 : decode cX5_setMoon 29 = .ok (.new 7, 3) := by decide +kernel
theorem dX5_setMoon_32 : decode cX5_setMoon 32 = .ok (.dup, 1) := by decide +kernel
theorem dX5_setMoon_33 : decode cX5_setMoon 33 = .ok (.iload_n 1, 1) := by decide +kernel
theorem dX5_setMoon_34 : decode cX5_setMoon 34 = .ok (.iload_n 2, 1) := by decide +kernel
theorem dX5_setMoon_35 : decode cX5_setMoon 35 = .ok (.invokespecial 9, 3) := by decide +kernel
theorem dX5_setMoon_38 : decode cX5_setMoon 38 = .ok (.putfield 18, 3) := by decide +kernel
theorem dX5_setMoon_41 : decode cX5_setMoon 41 = .ok (.aload_n 0, 1) := by decide +kernel
theorem dX5_setMoon_42 : decode cX5_setMoon 42 = .ok (.iload_n 3, 1) := by decide +kernel
theorem dX5_setMoon_43 : decode cX5_setMoon 43 = .ok (.putfield 71, 3) := by decide +kernel
theorem dX5_setMoon_46 : decode cX5_setMoon 46 = .ok (.aload_n 0, 1) := by decide +kernel
theorem dX5_setMoon_47 : decode cX5_setMoon 47 = .ok (.invokevirtual 60, 3) := by decide +kernel
theorem dX5_setMoon_50 : decode cX5_setMoon 50 = .ok (.aload_n 0, 1) := by decide +kernel
theorem dX5_setMoon_51 : decode cX5_setMoon 51 = .ok (.invokevirtual 74, 3) := by decide +kernel
theorem dX5_setMoon_54 : decode cX5_setMoon 54 = .ok (.ireturn, 1) := by decide +kernel
theorem dX5_addClouds_0 : decode cX5_addClouds 0 = .ok (.iload_n 1, 1) := by decide +kernel
theorem dX5_addClouds_1 : decode cX5_addClouds 1 = .ok (.ifCond .lt 16, 3) := by decide +kernel
theorem dX5_addClouds_4 : decode cX5_addClouds 4 = .ok (.iload_n 1, 1) := by decide +kernel
theorem dX5_addClouds_5 : decode cX5_addClouds 5 = .ok (.iload_n 2, 1) := by decide +kernel
theorem dX5_addClouds_6 : decode cX5_addClouds 6 = .ok (.if_icmp .gt 11, 3) := by decide +kernel
theorem dX5_addClouds_9 : decode cX5_addClouds 9 = .ok (.iload_n 2, 1) := by decide +kernel
theorem dX5_addClouds_10 : decode cX5_addClouds 10 = .ok (.aload_n 0, 1) := by decide +kernel
theorem dX5_addClouds_11 : decode cX5_addClouds 11 = .ok (.getfield 21, 3) := by decide +kernel
theorem dX5_addClouds_14 : decode cX5_addClouds 14 = .ok (.if_icmp .lt 13, 3) := by decide +kernel
theorem dX5_addClouds_17 : decode cX5_addClouds 17 = .ok (.new 50, 3) := by decide +kernel
theorem dX5_addClouds_20 : decode cX5_addClouds 20 = .ok (.dup, 1) := by decide +kernel
theorem dX5_addClouds_21 : decode cX5_addClouds 21 = .ok (.ldc 78, 2) := by decide +kernel
theorem dX5_addClouds_23 : decode cX5_addClouds 23 = .ok (.invokespecial 54, 3) := by decide +kernel
theorem dX5_addClouds_26 : decode cX5_addClouds 26 = .ok (.athrow, 1) := by decide +kernel
theorem dX5_addClouds_27 : decode cX5_addClouds 27 = .ok (.aload_n 0, 1) := by decide +kernel
theorem dX5_addClouds_28 : decode cX5_addClouds 28 = .ok (.getfield 28, 3) := by decide +kernel
theorem dX5_addClouds_31 : decode cX5_addClouds 31 = .ok (.getfield 80, 3) := by decide +kernel
theorem dX5_addClouds_34 : decode cX5_addClouds 34 = .ok (.bipush 8, 2) := by decide +kernel
theorem dX5_addClouds_36 : decode cX5_addClouds 36 = .ok (.if_icmp .lt 13, 3) := by decide +kernel
theorem dX5_addClouds_39 : decode cX5_addClouds 39 = .ok (.new 83, 3) := by decide +kernel
theorem dX5_addClouds_42 : decode cX5_addClouds 42 = .ok (.dup, 1) := by decide +kernel
theorem dX5_addClouds_43 : decode cX5_addClouds 43 = .ok (.ldc 85, 2) := by decide +kernel
theorem dX5_addClouds_45 : decode cX5_addClouds 45 = .ok (.invokespecial 87, 3) := by decide +kernel
theorem dX5_addClouds_48 : decode cX5_addClouds 48 = .ok (.athrow, 1) := by decide +kernel
theorem dX5_addClouds_49 : decode cX5_addClouds 49 = .ok (.aload_n 0, 1) := by decide +kernel
theorem dX5_addClouds_50 : decode cX5_addClouds 50 = .ok (.getfield 28, 3) := by decide +kernel
theorem dX5_addClouds_53 : decode cX5_addClouds 53 = .ok (.iload_n 1, 1) := by decide +kernel
theorem dX5_addClouds_54 : decode cX5_addClouds 54 = .ok (.iload_n 2, 1) := by decide +kernel
theorem dX5_addClouds_55 : decode cX5_addClouds 55 = .ok (.invokevirtual 88, 3) := by decide +kernel
theorem dX5_addClouds_58 : decode cX5_addClouds 58 = .ok (.aload_n 0, 1) := by decide +kernel
theorem dX5_addClouds_59 : decode cX5_addClouds 59 = .ok (.invokevirtual 60, 3) := by decide +kernel
theorem dX5_addClouds_62 : decode cX5_addClouds 62 = .ok (.aload_n 0, 1) := by decide +kernel
theorem dX5_addClouds_63 : decode cX5_addClouds 63 = .ok (.invokevirtual 91, 3) := by decide +kernel
theorem dX5_addClouds_66 : decode cX5_addClouds 66 = .ok (.ireturn, 1) := by decide +kernel
theorem dX5_addTarget_0 : decode cX5_addTarget 0 = .ok (.iload_n 1, 1) := by decide +kernel
theorem dX5_addTarget_1 : decode cX5_addTarget 1 = .ok (.iload_n 2, 1) := by decide +kernel
theorem dX5_addTarget_2 : decode cX5_addTarget 2 = .ok (.invokestatic 65, 3) := by decide +kernel
theorem dX5_addTarget_5 : decode cX5_addTarget 5 = .ok (.ifCond .eq 34, 3) := by decide +kernel
theorem dX5_addTarget_8 : decode cX5_addTarget 8 = .ok (.iload_n 3, 1) := by decide +kernel
theorem dX5_addTarget_9 : decode cX5_addTarget 9 = .ok (.iconst 0, 1) := by decide +kernel
theorem dX5_addTarget_10 : decode cX5_addTarget 10 = .ok (.iconst 3, 1) := by decide +kernel
theorem dX5_addTarget_11 : decode cX5_addTarget 11 = .ok (.invokestatic 46, 3) := by decide +kernel
theorem dX5_addTarget_14 : decode cX5_addTarget 14 = .ok (.ifCond .eq 25, 3) := by decide +kernel
theorem dX5_addTarget_17 : decode cX5_addTarget 17 = .ok (.iload 4, 2) := by decide +kernel
theorem dX5_addTarget_19 : decode cX5_addTarget 19 = .ok (.iconst 1, 1) := by decide +kernel
theorem dX5_addTarget_20 : decode cX5_addTarget 20 = .ok (.bipush 9, 2) := by decide +kernel
theorem dX5_addTarget_22 : decode cX5_addTarget 22 = .ok (.invokestatic 46, 3) := by decide +kernel
theorem dX5_addTarget_25 : decode cX5_addTarget 25 = .ok (.ifCond .eq 14, 3) := by decide +kernel
theorem dX5_addTarget_28 : decode cX5_addTarget 28 = .ok (.iload 5, 2) := by decide +kernel
theorem dX5_addTarget_30 : decode cX5_addTarget 30 = .ok (.iconst 5, 1) := by decide +kernel
theorem dX5_addTarget_31 : decode cX5_addTarget 31 = .ok (.bipush 120, 2) := by decide +kernel
theorem dX5_addTarget_33 : decode cX5_addTarget 33 = .ok (.invokestatic 46, 3) := by decide +kernel
theorem dX5_addTarget_36 : decode cX5_addTarget 36 = .ok (.ifCond .ne 13, 3) := by decide +kernel
theorem dX5_addTarget_39 : decode cX5_addTarget 39 = .ok (.new 50, 3) := by decide +kernel
theorem dX5_addTarget_42 : decode cX5_addTarget 42 = .ok (.dup, 1) := by decide +kernel
theorem dX5_addTarget_43 : decode cX5_addTarget 43 = .ok (.ldc 100, 2) := by decide +kernel
theorem dX5_addTarget_45 : decode cX5_addTarget 45 = .ok (.invokespecial 54, 3) := by decide +kernel
theorem dX5_addTarget_48 : decode cX5_addTarget 48 = .ok (.athrow, 1) := by decide +kernel
theorem dX5_addTarget_49 : decode cX5_addTarget 49 = .ok (.aload_n 0, 1) := by decide +kernel
theorem dX5_addTarget_50 : decode cX5_addTarget 50 = .ok (.getfield 35, 3) := by decide +kernel
theorem dX5_addTarget_53 : decode cX5_addTarget 53 = .ok (.invokevirtual 102, 3) := by decide +kernel
theorem dX5_addTarget_56 : decode cX5_addTarget 56 = .ok (.bipush 20, 2) := by decide +kernel
theorem dX5_addTarget_58 : decode cX5_addTarget 58 = .ok (.if_icmp .lt 13, 3) := by decide +kernel
theorem dX5_addTarget_61 : decode cX5_addTarget 61 = .ok (.new 83, 3) := by decide +kernel
theorem dX5_addTarget_64 : decode cX5_addTarget 64 = .ok (.dup, 1) := by decide +kernel
theorem dX5_addTarget_65 : decode cX5_addTarget 65 = .ok (.ldc 105, 2) := by decide +kernel
theorem dX5_addTarget_67 : decode cX5_addTarget 67 = .ok (.invokespecial 87, 3) := by decide +kernel
theorem dX5_addTarget_70 : decode cX5_addTarget 70 = .ok (.athrow, 1) := by decide +kernel
theorem dX5_addTarget_71 : decode cX5_addTarget 71 = .ok (.aload_n 0, 1) := by decide +kernel
theorem dX5_addTarget_72 : decode cX5_addTarget 72 = .ok (.getfield 35, 3) := by decide +kernel
theorem dX5_addTarget_75 : decode cX5_addTarget 75 = .ok (.invokevirtual 102, 3) := by decide +kernel
theorem dX5_addTarget_78 : decode cX5_addTarget 78 = .ok (.istore 6, 2) := by decide +kernel
theorem dX5_addTarget_80 : decode cX5_addTarget 80 = .ok (.aload_n 0, 1) := by decide +kernel
theorem dX5_addTarget_81 : decode cX5_addTarget 81 = .ok (.getfield 35, 3) := by decide +kernel
theorem dX5_addTarget_84 : decode cX5_addTarget 84 = .ok (.new 107, 3) := by decide +kernel
theorem dX5_addTarget_87 : decode cX5_addTarget 87 = .ok (.dup, 1) := by decide +kernel
theorem dX5_addTarget_88 : decode cX5_addTarget 88 = .ok (.iload 6, 2) := by decide +kernel
theorem dX5_addTarget_90 : decode cX5_addTarget 90 = .ok (.new 7, 3) := by decide +kernel
theorem dX5_addTarget_93 : decode cX5_addTarget 93 = .ok (.dup, 1) := by decide +kernel
theorem dX5_addTarget_94 : decode cX5_addTarget 94 = .ok (.iload_n 1, 1) := by decide +kernel
theorem dX5_addTarget_95 : decode cX5_addTarget 95 = .ok (.iload_n 2, 1) := by decide +kernel
theorem dX5_addTarget_96 : decode cX5_addTarget 96 = .ok (.invokespecial 9, 3) := by decide +kernel
theorem dX5_addTarget_99 : decode cX5_addTarget 99 = .ok (.iload_n 3, 1) := by decide +kernel
theorem dX5_addTarget_100 : decode cX5_addTarget 100 = .ok (.iload 4, 2) := by decide +kernel
theorem dX5_addTarget_102 : decode cX5_addTarget 102 = .ok (.iload 5, 2) := by decide +kernel
theorem dX5_addTarget_104 : decode cX5_addTarget 104 = .ok (.invokespecial 109, 3) := by decide +kernel
theorem dX5_addTarget_107 : decode cX5_addTarget 107 = .ok (.invokevirtual 112, 3) := by decide +kernel
theorem dX5_addTarget_110 : decode cX5_addTarget 110 = .ok (.pop, 1) := by decide +kernel
theorem dX5_addTarget_111 : decode cX5_addTarget 111 = .ok (.aload_n 0, 1) := by decide +kernel
theorem dX5_addTarget_112 : decode cX5_addTarget 112 = .ok (.getfield 42, 3) := by decide +kernel
theorem dX5_addTarget_115 : decode cX5_addTarget 115 = .ok (.iconst 0, 1) := by decide +kernel
theorem dX5_addTarget_116 : decode cX5_addTarget 116 = .ok (.putfield 116, 3) := by decide +kernel
theorem dX5_addTarget_119 : decode cX5_addTarget 119 = .ok (.iload 6, 2) := by decide +kernel
theorem dX5_addTarget_121 : decode cX5_addTarget 121 = .ok (.ireturn, 1) := by decide +kernel
theorem dX5_want_0 : decode cX5_want 0 = .ok (.aload_n 0, 1) := by decide +kernel
theorem dX5_want_1 : decode cX5_want 1 = .ok (.iload_n 1, 1) := by decide +kernel
theorem dX5_want_2 : decode cX5_want 2 = .ok (.invokevirtual 120, 3) := by decide +kernel
theorem dX5_want_5 : decode cX5_want 5 = .ok (.astore 5, 2) := by decide +kernel
theorem dX5_want_7 : decode cX5_want 7 = .ok (.iload_n 2, 1) := by decide +kernel
theorem dX5_want_8 : decode cX5_want 8 = .ok (.sipush (-1000), 3) := by decide +kernel
theorem dX5_want_11 : decode cX5_want 11 = .ok (.sipush 1000, 3) := by decide +kernel
theorem dX5_want_14 : decode cX5_want 14 = .ok (.invokestatic 46, 3) := by decide +kernel
theorem dX5_want_17 : decode cX5_want 17 = .ok (.ifCond .eq 24, 3) := by decide +kernel
theorem dX5_want_20 : decode cX5_want 20 = .ok (.iload_n 3, 1) := by decide +kernel
theorem dX5_want_21 : decode cX5_want 21 = .ok (.iconst 1, 1) := by decide +kernel
theorem dX5_want_22 : decode cX5_want 22 = .ok (.bipush 10, 2) := by decide +kernel
theorem dX5_want_24 : decode cX5_want 24 = .ok (.invokestatic 46, 3) := by decide +kernel
theorem dX5_want_27 : decode cX5_want 27 = .ok (.ifCond .eq 14, 3) := by decide +kernel
theorem dX5_want_30 : decode cX5_want 30 = .ok (.iload 4, 2) := by decide +kernel
theorem dX5_want_32 : decode cX5_want 32 = .ok (.iconst 1, 1) := by decide +kernel
theorem dX5_want_33 : decode cX5_want 33 = .ok (.bipush 20, 2) := by decide +kernel
theorem dX5_want_35 : decode cX5_want 35 = .ok (.invokestatic 46, 3) := by decide +kernel
theorem dX5_want_38 : decode cX5_want 38 = .ok (.ifCond .ne 13, 3) := by decide +kernel
theorem dX5_want_41 : decode cX5_want 41 = .ok (.new 50, 3) := by decide +kernel
theorem dX5_want_44 : decode cX5_want 44 = .ok (.dup, 1) := by decide +kernel
theorem dX5_want_45 : decode cX5_want 45 = .ok (.ldc 124, 2) := by decide +kernel
theorem dX5_want_47 : decode cX5_want 47 = .ok (.invokespecial 54, 3) := by decide +kernel
theorem dX5_want_50 : decode cX5_want 50 = .ok (.athrow, 1) := by decide +kernel
theorem dX5_want_51 : decode cX5_want 51 = .ok (.aload 5, 2) := by decide +kernel
theorem dX5_want_53 : decode cX5_want 53 = .ok (.getfield 126, 3) := by decide +kernel
theorem dX5_want_56 : decode cX5_want 56 = .ok (.istore 6, 2) := by decide +kernel
theorem dX5_want_58 : decode cX5_want 58 = .ok (.aload 5, 2) := by decide +kernel
theorem dX5_want_60 : decode cX5_want 60 = .ok (.iload_n 2, 1) := by decide +kernel
theorem dX5_want_61 : decode cX5_want 61 = .ok (.putfield 129, 3) := by decide +kernel
theorem dX5_want_64 : decode cX5_want 64 = .ok (.aload 5, 2) := by decide +kernel
theorem dX5_want_66 : decode cX5_want 66 = .ok (.iload_n 3, 1) := by decide +kernel
theorem dX5_want_67 : decode cX5_want 67 = .ok (.putfield 126, 3) := by decide +kernel
theorem dX5_want_70 : decode cX5_want 70 = .ok (.aload 5, 2) := by decide +kernel
theorem dX5_want_72 : decode cX5_want 72 = .ok (.iload 4, 2) := by decide +kernel
theorem dX5_want_74 : decode cX5_want 74 = .ok (.putfield 132, 3) := by decide +kernel
theorem dX5_want_77 : decode cX5_want 77 = .ok (.aload 5, 2) := by decide +kernel
theorem dX5_want_79 : decode cX5_want 79 = .ok (.getfield 135, 3) := by decide +kernel
theorem dX5_want_82 : decode cX5_want 82 = .ok (.iconst 0, 1) := by decide +kernel
theorem dX5_want_83 : decode cX5_want 83 = .ok (.putfield 139, 3) := by decide +kernel
theorem dX5_want_86 : decode cX5_want 86 = .ok (.aload_n 0, 1) := by decide +kernel
theorem dX5_want_87 : decode cX5_want 87 = .ok (.getfield 42, 3) := by decide +kernel
theorem dX5_want_90 : decode cX5_want 90 = .ok (.iconst 0, 1) := by decide +kernel
theorem dX5_want_91 : decode cX5_want 91 = .ok (.putfield 116, 3) := by decide +kernel
theorem dX5_want_94 : decode cX5_want 94 = .ok (.iload 6, 2) := by decide +kernel
theorem dX5_want_96 : decode cX5_want 96 = .ok (.ireturn, 1) := by decide +kernel
theorem dX5_target_0 : decode cX5_target 0 = .ok (.aload_n 0, 1) := by decide +kernel
theorem dX5_target_1 : decode cX5_target 1 = .ok (.iload_n 1, 1) := by decide +kernel
theorem dX5_target_2 : decode cX5_target 2 = .ok (.invokevirtual 120, 3) := by decide +kernel
theorem dX5_target_5 : decode cX5_target 5 = .ok (.astore_n 3, 1) := by decide +kernel
theorem dX5_target_6 : decode cX5_target 6 = .ok (.iload_n 2, 1) := by decide +kernel
theorem dX5_target_7 : decode cX5_target 7 = .ok (.bipush 10, 2) := by decide +kernel
theorem dX5_target_9 : decode cX5_target 9 = .ok (.invokestatic 142, 3) := by decide +kernel
theorem dX5_target_12 : decode cX5_target 12 = .ok (.aload_n 3, 1) := by decide +kernel
theorem dX5_target_13 : decode cX5_target 13 = .ok (.iload_n 2, 1) := by decide +kernel
theorem dX5_target_14 : decode cX5_target 14 = .ok (.invokevirtual 145, 3) := by decide +kernel
theorem dX5_target_17 : decode cX5_target 17 = .ok (.ireturn, 1) := by decide +kernel
theorem dX5_reason_0 : decode cX5_reason 0 = .ok (.aload_n 0, 1) := by decide +kernel
theorem dX5_reason_1 : decode cX5_reason 1 = .ok (.iload_n 1, 1) := by decide +kernel
theorem dX5_reason_2 : decode cX5_reason 2 = .ok (.invokevirtual 120, 3) := by decide +kernel
theorem dX5_reason_5 : decode cX5_reason 5 = .ok (.astore_n 3, 1) := by decide +kernel
theorem dX5_reason_6 : decode cX5_reason 6 = .ok (.aload_n 0, 1) := by decide +kernel
theorem dX5_reason_7 : decode cX5_reason 7 = .ok (.iload_n 2, 1) := by decide +kernel
theorem dX5_reason_8 : decode cX5_reason 8 = .ok (.invokevirtual 148, 3) := by decide +kernel
theorem dX5_reason_11 : decode cX5_reason 11 = .ok (.aload_n 0, 1) := by decide +kernel
theorem dX5_reason_12 : decode cX5_reason 12 = .ok (.aload_n 3, 1) := by decide +kernel
theorem dX5_reason_13 : decode cX5_reason 13 = .ok (.iload_n 2, 1) := by decide +kernel
theorem dX5_reason_14 : decode cX5_reason 14 = .ok (.aload_n 0, 1) := by decide +kernel
theorem dX5_reason_15 : decode cX5_reason 15 = .ok (.aload_n 3, 1) := by decide +kernel
theorem dX5_reason_16 : decode cX5_reason 16 = .ok (.getfield 152, 3) := by decide +kernel
theorem dX5_reason_19 : decode cX5_reason 19 = .ok (.iload_n 2, 1) := by decide +kernel
theorem dX5_reason_20 : decode cX5_reason 20 = .ok (.invokevirtual 155, 3) := by decide +kernel
theorem dX5_reason_23 : decode cX5_reason 23 = .ok (.invokevirtual 163, 3) := by decide +kernel
theorem dX5_reason_26 : decode cX5_reason 26 = .ok (.ireturn, 1) := by decide +kernel
theorem dX5_window_0 : decode cX5_window 0 = .ok (.aload_n 0, 1) := by decide +kernel
theorem dX5_window_1 : decode cX5_window 1 = .ok (.iload_n 1, 1) := by decide +kernel
theorem dX5_window_2 : decode cX5_window 2 = .ok (.invokevirtual 120, 3) := by decide +kernel
theorem dX5_window_5 : decode cX5_window 5 = .ok (.astore_n 3, 1) := by decide +kernel
theorem dX5_window_6 : decode cX5_window 6 = .ok (.iload_n 2, 1) := by decide +kernel
theorem dX5_window_7 : decode cX5_window 7 = .ok (.iconst 5, 1) := by decide +kernel
theorem dX5_window_8 : decode cX5_window 8 = .ok (.invokestatic 142, 3) := by decide +kernel
theorem dX5_window_11 : decode cX5_window 11 = .ok (.aload_n 0, 1) := by decide +kernel
theorem dX5_window_12 : decode cX5_window 12 = .ok (.aload_n 3, 1) := by decide +kernel
theorem dX5_window_13 : decode cX5_window 13 = .ok (.invokevirtual 167, 3) := by decide +kernel
theorem dX5_window_16 : decode cX5_window 16 = .ok (.aload_n 3, 1) := by decide +kernel
theorem dX5_window_17 : decode cX5_window 17 = .ok (.getfield 135, 3) := by decide +kernel
theorem dX5_window_20 : decode cX5_window 20 = .ok (.iload_n 2, 1) := by decide +kernel
theorem dX5_window_21 : decode cX5_window 21 = .ok (.invokevirtual 171, 3) := by decide +kernel
theorem dX5_window_24 : decode cX5_window 24 = .ok (.ireturn, 1) := by decide +kernel
theorem dX5_isOpen_0 : decode cX5_isOpen 0 = .ok (.aload_n 0, 1) := by decide +kernel
theorem dX5_isOpen_1 : decode cX5_isOpen 1 = .ok (.iload_n 1, 1) := by decide +kernel
theorem dX5_isOpen_2 : decode cX5_isOpen 2 = .ok (.invokevirtual 120, 3) := by decide +kernel
theorem dX5_isOpen_5 : decode cX5_isOpen 5 = .ok (.aload_n 0, 1) := by decide +kernel
theorem dX5_isOpen_6 : decode cX5_isOpen 6 = .ok (.getfield 172, 3) := by decide +kernel
theorem dX5_isOpen_9 : decode cX5_isOpen 9 = .ok (.invokevirtual 175, 3) := by decide +kernel
theorem dX5_isOpen_12 : decode cX5_isOpen 12 = .ok (.ireturn, 1) := by decide +kernel
theorem dX5_count_0 : decode cX5_count 0 = .ok (.iload_n 1, 1) := by decide +kernel
theorem dX5_count_1 : decode cX5_count 1 = .ok (.iconst 4, 1) := by decide +kernel
theorem dX5_count_2 : decode cX5_count 2 = .ok (.invokestatic 142, 3) := by decide +kernel
theorem dX5_count_5 : decode cX5_count 5 = .ok (.iconst 0, 1) := by decide +kernel
theorem dX5_count_6 : decode cX5_count 6 = .ok (.istore_n 2, 1) := by decide +kernel
theorem dX5_count_7 : decode cX5_count 7 = .ok (.iconst 0, 1) := by decide +kernel
theorem dX5_count_8 : decode cX5_count 8 = .ok (.istore_n 3, 1) := by decide +kernel
theorem dX5_count_9 : decode cX5_count 9 = .ok (.iload_n 3, 1) := by decide +kernel
theorem dX5_count_10 : decode cX5_count 10 = .ok (.aload_n 0, 1) := by decide +kernel
theorem dX5_count_11 : decode cX5_count 11 = .ok (.getfield 35, 3) := by decide +kernel
theorem dX5_count_14 : decode cX5_count 14 = .ok (.invokevirtual 102, 3) := by decide +kernel
theorem dX5_count_17 : decode cX5_count 17 = .ok (.if_icmp .ge 28, 3) := by decide +kernel
theorem dX5_count_20 : decode cX5_count 20 = .ok (.iload_n 2, 1) := by decide +kernel
theorem dX5_count_21 : decode cX5_count 21 = .ok (.aload_n 0, 1) := by decide +kernel
theorem dX5_count_22 : decode cX5_count 22 = .ok (.aload_n 0, 1) := by decide +kernel
theorem dX5_count_23 : decode cX5_count 23 = .ok (.getfield 35, 3) := by decide +kernel
theorem dX5_count_26 : decode cX5_count 26 = .ok (.iload_n 3, 1) := by decide +kernel
theorem dX5_count_27 : decode cX5_count 27 = .ok (.invokevirtual 179, 3) := by decide +kernel
theorem dX5_count_30 : decode cX5_count 30 = .ok (.checkcast 107, 3) := by decide +kernel
theorem dX5_count_33 : decode cX5_count 33 = .ok (.iload_n 1, 1) := by decide +kernel
theorem dX5_count_34 : decode cX5_count 34 = .ok (.invokevirtual 183, 3) := by decide +kernel
theorem dX5_count_37 : decode cX5_count 37 = .ok (.iadd, 1) := by decide +kernel
theorem dX5_count_38 : decode cX5_count 38 = .ok (.istore_n 2, 1) := by decide +kernel
theorem dX5_count_39 : decode cX5_count 39 = .ok (.iinc 3 1, 3) := by decide +kernel
theorem dX5_count_42 : decode cX5_count 42 = .ok (.goto (-33), 3) := by decide +kernel
theorem dX5_count_45 : decode cX5_count 45 = .ok (.iload_n 2, 1) := by decide +kernel
theorem dX5_count_46 : decode cX5_count 46 = .ok (.ireturn, 1) := by decide +kernel
theorem dX5_visits_0 : decode cX5_visits 0 = .ok (.aload_n 0, 1) := by decide +kernel
theorem dX5_visits_1 : decode cX5_visits 1 = .ok (.invokevirtual 187, 3) := by decide +kernel
theorem dX5_visits_4 : decode cX5_visits 4 = .ok (.aload_n 0, 1) := by decide +kernel
theorem dX5_visits_5 : decode cX5_visits 5 = .ok (.getfield 42, 3) := by decide +kernel
theorem dX5_visits_8 : decode cX5_visits 8 = .ok (.getfield 190, 3) := by decide +kernel
theorem dX5_visits_11 : decode cX5_visits 11 = .ok (.ireturn, 1) := by decide +kernel
theorem dX5_visit_0 : decode cX5_visit 0 = .ok (.aload_n 0, 1) := by decide +kernel
theorem dX5_visit_1 : decode cX5_visit 1 = .ok (.invokevirtual 187, 3) := by decide +kernel
theorem dX5_visit_4 : decode cX5_visit 4 = .ok (.iload_n 1, 1) := by decide +kernel
theorem dX5_visit_5 : decode cX5_visit 5 = .ok (.ifCond .lt 14, 3) := by decide +kernel
theorem dX5_visit_8 : decode cX5_visit 8 = .ok (.iload_n 1, 1) := by decide +kernel
theorem dX5_visit_9 : decode cX5_visit 9 = .ok (.aload_n 0, 1) := by decide +kernel
theorem dX5_visit_10 : decode cX5_visit 10 = .ok (.getfield 42, 3) := by decide +kernel
theorem dX5_visit_13 : decode cX5_visit 13 = .ok (.getfield 190, 3) := by decide +kernel
theorem dX5_visit_16 : decode cX5_visit 16 = .ok (.if_icmp .lt 13, 3) := by decide +kernel
theorem dX5_visit_19 : decode cX5_visit 19 = .ok (.new 192, 3) := by decide +kernel
theorem dX5_visit_22 : decode cX5_visit 22 = .ok (.dup, 1) := by decide +kernel
theorem dX5_visit_23 : decode cX5_visit 23 = .ok (.ldc 194, 2) := by decide +kernel
theorem dX5_visit_25 : decode cX5_visit 25 = .ok (.invokespecial 196, 3) := by decide +kernel
theorem dX5_visit_28 : decode cX5_visit 28 = .ok (.athrow, 1) := by decide +kernel
theorem dX5_visit_29 : decode cX5_visit 29 = .ok (.iload_n 2, 1) := by decide +kernel
theorem dX5_visit_30 : decode cX5_visit 30 = .ok (.iconst 4, 1) := by decide +kernel
theorem dX5_visit_31 : decode cX5_visit 31 = .ok (.invokestatic 142, 3) := by decide +kernel
theorem dX5_visit_34 : decode cX5_visit 34 = .ok (.aload_n 0, 1) := by decide +kernel
theorem dX5_visit_35 : decode cX5_visit 35 = .ok (.getfield 42, 3) := by decide +kernel
theorem dX5_visit_38 : decode cX5_visit 38 = .ok (.getfield 197, 3) := by decide +kernel
theorem dX5_visit_41 : decode cX5_visit 41 = .ok (.iload_n 1, 1) := by decide +kernel
theorem dX5_visit_42 : decode cX5_visit 42 = .ok (.aaload, 1) := by decide +kernel
theorem dX5_visit_43 : decode cX5_visit 43 = .ok (.iload_n 2, 1) := by decide +kernel
theorem dX5_visit_44 : decode cX5_visit 44 = .ok (.iaload, 1) := by decide +kernel
theorem dX5_visit_45 : decode cX5_visit 45 = .ok (.ireturn, 1) := by decide +kernel
theorem dX5_use_0 : decode cX5_use 0 = .ok (.aload_n 0, 1) := by decide +kernel
theorem dX5_use_1 : decode cX5_use 1 = .ok (.invokevirtual 187, 3) := by decide +kernel
theorem dX5_use_4 : decode cX5_use 4 = .ok (.aload_n 0, 1) := by decide +kernel
theorem dX5_use_5 : decode cX5_use 5 = .ok (.getfield 42, 3) := by decide +kernel
theorem dX5_use_8 : decode cX5_use 8 = .ok (.getfield 201, 3) := by decide +kernel
theorem dX5_use_11 : decode cX5_use 11 = .ok (.i2d, 1) := by decide +kernel
theorem dX5_use_12 : decode cX5_use 12 = .ok (.aload_n 0, 1) := by decide +kernel
theorem dX5_use_13 : decode cX5_use 13 = .ok (.getfield 21, 3) := by decide +kernel
theorem dX5_use_16 : decode cX5_use 16 = .ok (.i2d, 1) := by decide +kernel
theorem dX5_use_17 : decode cX5_use 17 = .ok (.ddiv, 1) := by decide +kernel
theorem dX5_use_18 : decode cX5_use 18 = .ok (.dreturn, 1) := by decide +kernel
theorem dX5_observe_0 : decode cX5_observe 0 = .ok (.aload_n 0, 1) := by decide +kernel
theorem dX5_observe_1 : decode cX5_observe 1 = .ok (.getfield 172, 3) := by decide +kernel
theorem dX5_observe_4 : decode cX5_observe 4 = .ok (.bipush 60, 2) := by decide +kernel
theorem dX5_observe_6 : decode cX5_observe 6 = .ok (.if_icmp .lt 13, 3) := by decide +kernel
theorem dX5_observe_9 : decode cX5_observe 9 = .ok (.new 83, 3) := by decide +kernel
theorem dX5_observe_12 : decode cX5_observe 12 = .ok (.dup, 1) := by decide +kernel
theorem dX5_observe_13 : decode cX5_observe 13 = .ok (.ldc 204, 2) := by decide +kernel
theorem dX5_observe_15 : decode cX5_observe 15 = .ok (.invokespecial 87, 3) := by decide +kernel
theorem dX5_observe_18 : decode cX5_observe 18 = .ok (.athrow, 1) := by decide +kernel
theorem dX5_observe_19 : decode cX5_observe 19 = .ok (.aload_n 0, 1) := by decide +kernel
theorem dX5_observe_20 : decode cX5_observe 20 = .ok (.invokevirtual 187, 3) := by decide +kernel
theorem dX5_observe_23 : decode cX5_observe 23 = .ok (.aload_n 0, 1) := by decide +kernel
theorem dX5_observe_24 : decode cX5_observe 24 = .ok (.getfield 42, 3) := by decide +kernel
theorem dX5_observe_27 : decode cX5_observe 27 = .ok (.getfield 190, 3) := by decide +kernel
theorem dX5_observe_30 : decode cX5_observe 30 = .ok (.istore_n 1, 1) := by decide +kernel
theorem dX5_observe_31 : decode cX5_observe 31 = .ok (.iconst 0, 1) := by decide +kernel
theorem dX5_observe_32 : decode cX5_observe 32 = .ok (.istore_n 2, 1) := by decide +kernel
theorem dX5_observe_33 : decode cX5_observe 33 = .ok (.iload_n 2, 1) := by decide +kernel
theorem dX5_observe_34 : decode cX5_observe 34 = .ok (.aload_n 0, 1) := by decide +kernel
theorem dX5_observe_35 : decode cX5_observe 35 = .ok (.getfield 35, 3) := by decide +kernel
theorem dX5_observe_38 : decode cX5_observe 38 = .ok (.invokevirtual 102, 3) := by decide +kernel
theorem dX5_observe_41 : decode cX5_observe 41 = .ok (.if_icmp .ge 27, 3) := by decide +kernel
theorem dX5_observe_44 : decode cX5_observe 44 = .ok (.aload_n 0, 1) := by decide +kernel
theorem dX5_observe_45 : decode cX5_observe 45 = .ok (.getfield 35, 3) := by decide +kernel
theorem dX5_observe_48 : decode cX5_observe 48 = .ok (.iload_n 2, 1) := by decide +kernel
theorem dX5_observe_49 : decode cX5_observe 49 = .ok (.invokevirtual 179, 3) := by decide +kernel
theorem dX5_observe_52 : decode cX5_observe 52 = .ok (.checkcast 107, 3) := by decide +kernel
theorem dX5_observe_55 : decode cX5_observe 55 = .ok (.aload_n 0, 1) := by decide +kernel
theorem dX5_observe_56 : decode cX5_observe 56 = .ok (.getfield 172, 3) := by decide +kernel
theorem dX5_observe_59 : decode cX5_observe 59 = .ok (.invokevirtual 206, 3) := by decide +kernel
theorem dX5_observe_62 : decode cX5_observe 62 = .ok (.iinc 2 1, 3) := by decide +kernel
theorem dX5_observe_65 : decode cX5_observe 65 = .ok (.goto (-32), 3) := by decide +kernel
theorem dX5_observe_68 : decode cX5_observe 68 = .ok (.aload_n 0, 1) := by decide +kernel
theorem dX5_observe_69 : decode cX5_observe 69 = .ok (.invokevirtual 209, 3) := by decide +kernel
theorem dX5_observe_72 : decode cX5_observe 72 = .ok (.iload_n 1, 1) := by decide +kernel
theorem dX5_observe_73 : decode cX5_observe 73 = .ok (.ireturn, 1) := by decide +kernel
theorem dX5_night_0 : decode cX5_night 0 = .ok (.aload_n 0, 1) := by decide +kernel
theorem dX5_night_1 : decode cX5_night 1 = .ok (.getfield 172, 3) := by decide +kernel
theorem dX5_night_4 : decode cX5_night 4 = .ok (.ireturn, 1) := by decide +kernel
theorem dX5_isWithin_0 : decode cX5_isWithin 0 = .ok (.iload_n 0, 1) := by decide +kernel
theorem dX5_isWithin_1 : decode cX5_isWithin 1 = .ok (.iload_n 1, 1) := by decide +kernel
theorem dX5_isWithin_2 : decode cX5_isWithin 2 = .ok (.if_icmp .lt 12, 3) := by decide +kernel
theorem dX5_isWithin_5 : decode cX5_isWithin 5 = .ok (.iload_n 0, 1) := by decide +kernel
theorem dX5_isWithin_6 : decode cX5_isWithin 6 = .ok (.iload_n 2, 1) := by decide +kernel
theorem dX5_isWithin_7 : decode cX5_isWithin 7 = .ok (.if_icmp .gt 7, 3) := by decide +kernel
theorem dX5_isWithin_10 : decode cX5_isWithin 10 = .ok (.iconst 1, 1) := by decide +kernel
theorem dX5_isWithin_11 : decode cX5_isWithin 11 = .ok (.goto 4, 3) := by decide +kernel
theorem dX5_isWithin_14 : decode cX5_isWithin 14 = .ok (.iconst 0, 1) := by decide +kernel
theorem dX5_isWithin_15 : decode cX5_isWithin 15 = .ok (.ireturn, 1) := by decide +kernel
theorem dX5_isPoint_0 : decode cX5_isPoint 0 = .ok (.iload_n 0, 1) := by decide +kernel
theorem dX5_isPoint_1 : decode cX5_isPoint 1 = .ok (.iconst 0, 1) := by decide +kernel
theorem dX5_isPoint_2 : decode cX5_isPoint 2 = .ok (.sipush 1439, 3) := by decide +kernel
theorem dX5_isPoint_5 : decode cX5_isPoint 5 = .ok (.invokestatic 46, 3) := by decide +kernel
theorem dX5_isPoint_8 : decode cX5_isPoint 8 = .ok (.ifCond .eq 18, 3) := by decide +kernel
theorem dX5_isPoint_11 : decode cX5_isPoint 11 = .ok (.iload_n 1, 1) := by decide +kernel
theorem dX5_isPoint_12 : decode cX5_isPoint 12 = .ok (.bipush (-90), 2) := by decide +kernel
theorem dX5_isPoint_14 : decode cX5_isPoint 14 = .ok (.bipush 90, 2) := by decide +kernel
theorem dX5_isPoint_16 : decode cX5_isPoint 16 = .ok (.invokestatic 46, 3) := by decide +kernel
theorem dX5_isPoint_19 : decode cX5_isPoint 19 = .ok (.ifCond .eq 7, 3) := by decide +kernel
theorem dX5_isPoint_22 : decode cX5_isPoint 22 = .ok (.iconst 1, 1) := by decide +kernel
theorem dX5_isPoint_23 : decode cX5_isPoint 23 = .ok (.goto 4, 3) := by decide +kernel
theorem dX5_isPoint_26 : decode cX5_isPoint 26 = .ok (.iconst 0, 1) := by decide +kernel
theorem dX5_isPoint_27 : decode cX5_isPoint 27 = .ok (.ireturn, 1) := by decide +kernel
theorem dX5_findTarget_0 : decode cX5_findTarget 0 = .ok (.iload_n 1, 1) := by decide +kernel
theorem dX5_findTarget_1 : decode cX5_findTarget 1 = .ok (.ifCond .lt 14, 3) := by decide +kernel
theorem dX5_findTarget_4 : decode cX5_findTarget 4 = .ok (.iload_n 1, 1) := by decide +kernel
theorem dX5_findTarget_5 : decode cX5_findTarget 5 = .ok (.aload_n 0, 1) := by decide +kernel
theorem dX5_findTarget_6 : decode cX5_findTarget 6 = .ok (.getfield 35, 3) := by decide +kernel
theorem dX5_findTarget_9 : decode cX5_findTarget 9 = .ok (.invokevirtual 102, 3) := by decide +kernel
theorem dX5_findTarget_12 : decode cX5_findTarget 12 = .ok (.if_icmp .lt 13, 3) := by decide +kernel
theorem dX5_findTarget_15 : decode cX5_findTarget 15 = .ok (.new 192, 3) := by decide +kernel
theorem dX5_findTarget_18 : decode cX5_findTarget 18 = .ok (.dup, 1) := by decide +kernel
theorem dX5_findTarget_19 : decode cX5_findTarget 19 = .ok (.ldc 230, 2) := by decide +kernel
theorem dX5_findTarget_21 : decode cX5_findTarget 21 = .ok (.invokespecial 196, 3) := by decide +kernel
theorem dX5_findTarget_24 : decode cX5_findTarget 24 = .ok (.athrow, 1) := by decide +kernel
theorem dX5_findTarget_25 : decode cX5_findTarget 25 = .ok (.aload_n 0, 1) := by decide +kernel
theorem dX5_findTarget_26 : decode cX5_findTarget 26 = .ok (.getfield 35, 3) := by decide +kernel
theorem dX5_findTarget_29 : decode cX5_findTarget 29 = .ok (.iload_n 1, 1) := by decide +kernel
theorem dX5_findTarget_30 : decode cX5_findTarget 30 = .ok (.invokevirtual 179, 3) := by decide +kernel
theorem dX5_findTarget_33 : decode cX5_findTarget 33 = .ok (.checkcast 107, 3) := by decide +kernel
theorem dX5_findTarget_36 : decode cX5_findTarget 36 = .ok (.areturn, 1) := by decide +kernel
theorem dX5_checkMinute_0 : decode cX5_checkMinute 0 = .ok (.iload_n 1, 1) := by decide +kernel
theorem dX5_checkMinute_1 : decode cX5_checkMinute 1 = .ok (.iconst 0, 1) := by decide +kernel
theorem dX5_checkMinute_2 : decode cX5_checkMinute 2 = .ok (.aload_n 0, 1) := by decide +kernel
theorem dX5_checkMinute_3 : decode cX5_checkMinute 3 = .ok (.getfield 21, 3) := by decide +kernel
theorem dX5_checkMinute_6 : decode cX5_checkMinute 6 = .ok (.iconst 1, 1) := by decide +kernel
theorem dX5_checkMinute_7 : decode cX5_checkMinute 7 = .ok (.isub, 1) := by decide +kernel
theorem dX5_checkMinute_8 : decode cX5_checkMinute 8 = .ok (.invokestatic 46, 3) := by decide +kernel
theorem dX5_checkMinute_11 : decode cX5_checkMinute 11 = .ok (.ifCond .ne 13, 3) := by decide +kernel
theorem dX5_checkMinute_14 : decode cX5_checkMinute 14 = .ok (.new 50, 3) := by decide +kernel
theorem dX5_checkMinute_17 : decode cX5_checkMinute 17 = .ok (.dup, 1) := by decide +kernel
theorem dX5_checkMinute_18 : decode cX5_checkMinute 18 = .ok (.ldc 232, 2) := by decide +kernel
theorem dX5_checkMinute_20 : decode cX5_checkMinute 20 = .ok (.invokespecial 54, 3) := by decide +kernel
theorem dX5_checkMinute_23 : decode cX5_checkMinute 23 = .ok (.athrow, 1) := by decide +kernel
theorem dX5_checkMinute_24 : decode cX5_checkMinute 24 = .ok (.return_, 1) := by decide +kernel
theorem dX5_checkWhat_0 : decode cX5_checkWhat 0 = .ok (.iload_n 0, 1) := by decide +kernel
theorem dX5_checkWhat_1 : decode cX5_checkWhat 1 = .ok (.ifCond .lt 8, 3) := by decide +kernel
theorem dX5_checkWhat_4 : decode cX5_checkWhat 4 = .ok (.iload_n 0, 1) := by decide +kernel
theorem dX5_checkWhat_5 : decode cX5_checkWhat 5 = .ok (.iload_n 1, 1) := by decide +kernel
theorem dX5_checkWhat_6 : decode cX5_checkWhat 6 = .ok (.if_icmp .lt 13, 3) := by decide +kernel
theorem dX5_checkWhat_9 : decode cX5_checkWhat 9 = .ok (.new 192, 3) := by decide +kernel
theorem dX5_checkWhat_12 : decode cX5_checkWhat 12 = .ok (.dup, 1) := by decide +kernel
theorem dX5_checkWhat_13 : decode cX5_checkWhat 13 = .ok (.ldc 234, 2) := by decide +kernel
theorem dX5_checkWhat_15 : decode cX5_checkWhat 15 = .ok (.invokespecial 196, 3) := by decide +kernel
theorem dX5_checkWhat_18 : decode cX5_checkWhat 18 = .ok (.athrow, 1) := by decide +kernel
theorem dX5_checkWhat_19 : decode cX5_checkWhat 19 = .ok (.return_, 1) := by decide +kernel
theorem dX5_sineOf_0 : decode cX5_sineOf 0 = .ok (.iload_n 0, 1) := by decide +kernel
theorem dX5_sineOf_1 : decode cX5_sineOf 1 = .ok (.sipush 360, 3) := by decide +kernel
theorem dX5_sineOf_4 : decode cX5_sineOf 4 = .ok (.irem, 1) := by decide +kernel
theorem dX5_sineOf_5 : decode cX5_sineOf 5 = .ok (.sipush 360, 3) := by decide +kernel
theorem dX5_sineOf_8 : decode cX5_sineOf 8 = .ok (.iadd, 1) := by decide +kernel
theorem dX5_sineOf_9 : decode cX5_sineOf 9 = .ok (.sipush 360, 3) := by decide +kernel
theorem dX5_sineOf_12 : decode cX5_sineOf 12 = .ok (.irem, 1) := by decide +kernel
theorem dX5_sineOf_13 : decode cX5_sineOf 13 = .ok (.istore_n 1, 1) := by decide +kernel
theorem dX5_sineOf_14 : decode cX5_sineOf 14 = .ok (.iload_n 1, 1) := by decide +kernel
theorem dX5_sineOf_15 : decode cX5_sineOf 15 = .ok (.sipush 180, 3) := by decide +kernel
theorem dX5_sineOf_18 : decode cX5_sineOf 18 = .ok (.irem, 1) := by decide +kernel
theorem dX5_sineOf_19 : decode cX5_sineOf 19 = .ok (.istore_n 2, 1) := by decide +kernel
theorem dX5_sineOf_20 : decode cX5_sineOf 20 = .ok (.iload_n 2, 1) := by decide +kernel
theorem dX5_sineOf_21 : decode cX5_sineOf 21 = .ok (.sipush 180, 3) := by decide +kernel
theorem dX5_sineOf_24 : decode cX5_sineOf 24 = .ok (.iload_n 2, 1) := by decide +kernel
theorem dX5_sineOf_25 : decode cX5_sineOf 25 = .ok (.isub, 1) := by decide +kernel
theorem dX5_sineOf_26 : decode cX5_sineOf 26 = .ok (.imul, 1) := by decide +kernel
theorem dX5_sineOf_27 : decode cX5_sineOf 27 = .ok (.istore_n 3, 1) := by decide +kernel
theorem dX5_sineOf_28 : decode cX5_sineOf 28 = .ok (.ldc 236, 2) := by decide +kernel
theorem dX5_sineOf_30 : decode cX5_sineOf 30 = .ok (.iload_n 3, 1) := by decide +kernel
theorem dX5_sineOf_31 : decode cX5_sineOf 31 = .ok (.isub, 1) := by decide +kernel
theorem dX5_sineOf_32 : decode cX5_sineOf 32 = .ok (.istore 4, 2) := by decide +kernel
theorem dX5_sineOf_34 : decode cX5_sineOf 34 = .ok (.iload 4, 2) := by decide +kernel
theorem dX5_sineOf_36 : decode cX5_sineOf 36 = .ok (.ifCond .le 14, 3) := by decide +kernel
theorem dX5_sineOf_39 : decode cX5_sineOf 39 = .ok (.sipush 4000, 3) := by decide +kernel
theorem dX5_sineOf_42 : decode cX5_sineOf 42 = .ok (.iload_n 3, 1) := by decide +kernel
theorem dX5_sineOf_43 : decode cX5_sineOf 43 = .ok (.imul, 1) := by decide +kernel
theorem dX5_sineOf_44 : decode cX5_sineOf 44 = .ok (.iload 4, 2) := by decide +kernel
theorem dX5_sineOf_46 : decode cX5_sineOf 46 = .ok (.idiv, 1) := by decide +kernel
theorem dX5_sineOf_47 : decode cX5_sineOf 47 = .ok (.goto 4, 3) := by decide +kernel
theorem dX5_sineOf_50 : decode cX5_sineOf 50 = .ok (.iconst 0, 1) := by decide +kernel
theorem dX5_sineOf_51 : decode cX5_sineOf 51 = .ok (.istore 5, 2) := by decide +kernel
theorem dX5_sineOf_53 : decode cX5_sineOf 53 = .ok (.iload_n 1, 1) := by decide +kernel
theorem dX5_sineOf_54 : decode cX5_sineOf 54 = .ok (.sipush 180, 3) := by decide +kernel
theorem dX5_sineOf_57 : decode cX5_sineOf 57 = .ok (.if_icmp .ge 8, 3) := by decide +kernel
theorem dX5_sineOf_60 : decode cX5_sineOf 60 = .ok (.iload 5, 2) := by decide +kernel
theorem dX5_sineOf_62 : decode cX5_sineOf 62 = .ok (.goto 6, 3) := by decide +kernel
theorem dX5_sineOf_65 : decode cX5_sineOf 65 = .ok (.iload 5, 2) := by decide +kernel
theorem dX5_sineOf_67 : decode cX5_sineOf 67 = .ok (.ineg, 1) := by decide +kernel
theorem dX5_sineOf_68 : decode cX5_sineOf 68 = .ok (.ireturn, 1) := by decide +kernel
theorem dX5_closeness_0 : decode cX5_closeness 0 = .ok (.aload_n 0, 1) := by decide +kernel
theorem dX5_closeness_1 : decode cX5_closeness 1 = .ok (.getfield 237, 3) := by decide +kernel
theorem dX5_closeness_4 : decode cX5_closeness 4 = .ok (.aload_n 1, 1) := by decide +kernel
theorem dX5_closeness_5 : decode cX5_closeness 5 = .ok (.getfield 237, 3) := by decide +kernel
theorem dX5_closeness_8 : decode cX5_closeness 8 = .ok (.imul, 1) := by decide +kernel
theorem dX5_closeness_9 : decode cX5_closeness 9 = .ok (.aload_n 0, 1) := by decide +kernel
theorem dX5_closeness_10 : decode cX5_closeness 10 = .ok (.getfield 240, 3) := by decide +kernel
theorem dX5_closeness_13 : decode cX5_closeness 13 = .ok (.aload_n 1, 1) := by decide +kernel
theorem dX5_closeness_14 : decode cX5_closeness 14 = .ok (.getfield 240, 3) := by decide +kernel
theorem dX5_closeness_17 : decode cX5_closeness 17 = .ok (.imul, 1) := by decide +kernel
theorem dX5_closeness_18 : decode cX5_closeness 18 = .ok (.sipush 1000, 3) := by decide +kernel
theorem dX5_closeness_21 : decode cX5_closeness 21 = .ok (.idiv, 1) := by decide +kernel
theorem dX5_closeness_22 : decode cX5_closeness 22 = .ok (.iload_n 2, 1) := by decide +kernel
theorem dX5_closeness_23 : decode cX5_closeness 23 = .ok (.imul, 1) := by decide +kernel
theorem dX5_closeness_24 : decode cX5_closeness 24 = .ok (.iadd, 1) := by decide +kernel
theorem dX5_closeness_25 : decode cX5_closeness 25 = .ok (.sipush 1000, 3) := by decide +kernel
theorem dX5_closeness_28 : decode cX5_closeness 28 = .ok (.idiv, 1) := by decide +kernel
theorem dX5_closeness_29 : decode cX5_closeness 29 = .ok (.ireturn, 1) := by decide +kernel
theorem dX5_nearnessOf_0 : decode cX5_nearnessOf 0 = .ok (.aload_n 0, 1) := by decide +kernel
theorem dX5_nearnessOf_1 : decode cX5_nearnessOf 1 = .ok (.getfield 220, 3) := by decide +kernel
theorem dX5_nearnessOf_4 : decode cX5_nearnessOf 4 = .ok (.aload_n 1, 1) := by decide +kernel
theorem dX5_nearnessOf_5 : decode cX5_nearnessOf 5 = .ok (.getfield 220, 3) := by decide +kernel
theorem dX5_nearnessOf_8 : decode cX5_nearnessOf 8 = .ok (.isub, 1) := by decide +kernel
theorem dX5_nearnessOf_9 : decode cX5_nearnessOf 9 = .ok (.invokestatic 243, 3) := by decide +kernel
theorem dX5_nearnessOf_12 : decode cX5_nearnessOf 12 = .ok (.iconst 4, 1) := by decide +kernel
theorem dX5_nearnessOf_13 : decode cX5_nearnessOf 13 = .ok (.idiv, 1) := by decide +kernel
theorem dX5_nearnessOf_14 : decode cX5_nearnessOf 14 = .ok (.istore_n 2, 1) := by decide +kernel
theorem dX5_nearnessOf_15 : decode cX5_nearnessOf 15 = .ok (.aload_n 0, 1) := by decide +kernel
theorem dX5_nearnessOf_16 : decode cX5_nearnessOf 16 = .ok (.aload_n 1, 1) := by decide +kernel
theorem dX5_nearnessOf_17 : decode cX5_nearnessOf 17 = .ok (.iload_n 2, 1) := by decide +kernel
theorem dX5_nearnessOf_18 : decode cX5_nearnessOf 18 = .ok (.bipush 90, 2) := by decide +kernel
theorem dX5_nearnessOf_20 : decode cX5_nearnessOf 20 = .ok (.iadd, 1) := by decide +kernel
theorem dX5_nearnessOf_21 : decode cX5_nearnessOf 21 = .ok (.invokestatic 96, 3) := by decide +kernel
theorem dX5_nearnessOf_24 : decode cX5_nearnessOf 24 = .ok (.invokestatic 248, 3) := by decide +kernel
theorem dX5_nearnessOf_27 : decode cX5_nearnessOf 27 = .ok (.ireturn, 1) := by decide +kernel
theorem dX5_heightOf_0 : decode cX5_heightOf 0 = .ok (.aload_n 0, 1) := by decide +kernel
theorem dX5_heightOf_1 : decode cX5_heightOf 1 = .ok (.getfield 12, 3) := by decide +kernel
theorem dX5_heightOf_4 : decode cX5_heightOf 4 = .ok (.getfield 220, 3) := by decide +kernel
theorem dX5_heightOf_7 : decode cX5_heightOf 7 = .ok (.iconst 4, 1) := by decide +kernel
theorem dX5_heightOf_8 : decode cX5_heightOf 8 = .ok (.aload_n 0, 1) := by decide +kernel
theorem dX5_heightOf_9 : decode cX5_heightOf 9 = .ok (.getfield 172, 3) := by decide +kernel
theorem dX5_heightOf_12 : decode cX5_heightOf 12 = .ok (.imul, 1) := by decide +kernel
theorem dX5_heightOf_13 : decode cX5_heightOf 13 = .ok (.iadd, 1) := by decide +kernel
theorem dX5_heightOf_14 : decode cX5_heightOf 14 = .ok (.iload_n 2, 1) := by decide +kernel
theorem dX5_heightOf_15 : decode cX5_heightOf 15 = .ok (.iadd, 1) := by decide +kernel
theorem dX5_heightOf_16 : decode cX5_heightOf 16 = .ok (.sipush 1440, 3) := by decide +kernel
theorem dX5_heightOf_19 : decode cX5_heightOf 19 = .ok (.irem, 1) := by decide +kernel
theorem dX5_heightOf_20 : decode cX5_heightOf 20 = .ok (.istore_n 3, 1) := by decide +kernel
theorem dX5_heightOf_21 : decode cX5_heightOf 21 = .ok (.iload_n 3, 1) := by decide +kernel
theorem dX5_heightOf_22 : decode cX5_heightOf 22 = .ok (.aload_n 1, 1) := by decide +kernel
theorem dX5_heightOf_23 : decode cX5_heightOf 23 = .ok (.getfield 220, 3) := by decide +kernel
theorem dX5_heightOf_26 : decode cX5_heightOf 26 = .ok (.isub, 1) := by decide +kernel
theorem dX5_heightOf_27 : decode cX5_heightOf 27 = .ok (.sipush 1440, 3) := by decide +kernel
theorem dX5_heightOf_30 : decode cX5_heightOf 30 = .ok (.iadd, 1) := by decide +kernel
theorem dX5_heightOf_31 : decode cX5_heightOf 31 = .ok (.sipush 1440, 3) := by decide +kernel
theorem dX5_heightOf_34 : decode cX5_heightOf 34 = .ok (.irem, 1) := by decide +kernel
theorem dX5_heightOf_35 : decode cX5_heightOf 35 = .ok (.iconst 4, 1) := by decide +kernel
theorem dX5_heightOf_36 : decode cX5_heightOf 36 = .ok (.idiv, 1) := by decide +kernel
theorem dX5_heightOf_37 : decode cX5_heightOf 37 = .ok (.istore 4, 2) := by decide +kernel
theorem dX5_heightOf_39 : decode cX5_heightOf 39 = .ok (.aload_n 0, 1) := by decide +kernel
theorem dX5_heightOf_40 : decode cX5_heightOf 40 = .ok (.getfield 12, 3) := by decide +kernel
theorem dX5_heightOf_43 : decode cX5_heightOf 43 = .ok (.aload_n 1, 1) := by decide +kernel
theorem dX5_heightOf_44 : decode cX5_heightOf 44 = .ok (.iload 4, 2) := by decide +kernel
theorem dX5_heightOf_46 : decode cX5_heightOf 46 = .ok (.bipush 90, 2) := by decide +kernel
theorem dX5_heightOf_48 : decode cX5_heightOf 48 = .ok (.iadd, 1) := by decide +kernel
theorem dX5_heightOf_49 : decode cX5_heightOf 49 = .ok (.invokestatic 96, 3) := by decide +kernel
theorem dX5_heightOf_52 : decode cX5_heightOf 52 = .ok (.invokestatic 248, 3) := by decide +kernel
theorem dX5_heightOf_55 : decode cX5_heightOf 55 = .ok (.ireturn, 1) := by decide +kernel
theorem dX5_moonLight_0 : decode cX5_moonLight 0 = .ok (.bipush 100, 2) := by decide +kernel
theorem dX5_moonLight_2 : decode cX5_moonLight 2 = .ok (.bipush 100, 2) := by decide +kernel
theorem dX5_moonLight_4 : decode cX5_moonLight 4 = .ok (.aload_n 0, 1) := by decide +kernel
theorem dX5_moonLight_5 : decode cX5_moonLight 5 = .ok (.getfield 71, 3) := by decide +kernel
theorem dX5_moonLight_8 : decode cX5_moonLight 8 = .ok (.bipush 15, 2) := by decide +kernel
theorem dX5_moonLight_10 : decode cX5_moonLight 10 = .ok (.isub, 1) := by decide +kernel
theorem dX5_moonLight_11 : decode cX5_moonLight 11 = .ok (.invokestatic 243, 3) := by decide +kernel
theorem dX5_moonLight_14 : decode cX5_moonLight 14 = .ok (.imul, 1) := by decide +kernel
theorem dX5_moonLight_15 : decode cX5_moonLight 15 = .ok (.bipush 15, 2) := by decide +kernel
theorem dX5_moonLight_17 : decode cX5_moonLight 17 = .ok (.idiv, 1) := by decide +kernel
theorem dX5_moonLight_18 : decode cX5_moonLight 18 = .ok (.isub, 1) := by decide +kernel
theorem dX5_moonLight_19 : decode cX5_moonLight 19 = .ok (.ireturn, 1) := by decide +kernel
theorem dX5_clearMinutes_0 : decode cX5_clearMinutes 0 = .ok (.iconst 0, 1) := by decide +kernel
theorem dX5_clearMinutes_1 : decode cX5_clearMinutes 1 = .ok (.istore_n 1, 1) := by decide +kernel
theorem dX5_clearMinutes_2 : decode cX5_clearMinutes 2 = .ok (.iconst 0, 1) := by decide +kernel
theorem dX5_clearMinutes_3 : decode cX5_clearMinutes 3 = .ok (.istore_n 2, 1) := by decide +kernel
theorem dX5_clearMinutes_4 : decode cX5_clearMinutes 4 = .ok (.iload_n 2, 1) := by decide +kernel
theorem dX5_clearMinutes_5 : decode cX5_clearMinutes 5 = .ok (.aload_n 0, 1) := by decide +kernel
theorem dX5_clearMinutes_6 : decode cX5_clearMinutes 6 = .ok (.getfield 21, 3) := by decide +kernel
theorem dX5_clearMinutes_9 : decode cX5_clearMinutes 9 = .ok (.if_icmp .ge 28, 3) := by decide +kernel
theorem dX5_clearMinutes_12 : decode cX5_clearMinutes 12 = .ok (.iload_n 1, 1) := by decide +kernel
theorem dX5_clearMinutes_13 : decode cX5_clearMinutes 13 = .ok (.aload_n 0, 1) := by decide +kernel
theorem dX5_clearMinutes_14 : decode cX5_clearMinutes 14 = .ok (.getfield 28, 3) := by decide +kernel
theorem dX5_clearMinutes_17 : decode cX5_clearMinutes 17 = .ok (.iload_n 2, 1) := by decide +kernel
theorem dX5_clearMinutes_18 : decode cX5_clearMinutes 18 = .ok (.invokevirtual 252, 3) := by decide +kernel
theorem dX5_clearMinutes_21 : decode cX5_clearMinutes 21 = .ok (.ifCond .eq 7, 3) := by decide +kernel
theorem dX5_clearMinutes_24 : decode cX5_clearMinutes 24 = .ok (.iconst 0, 1) := by decide +kernel
theorem dX5_clearMinutes_25 : decode cX5_clearMinutes 25 = .ok (.goto 4, 3) := by decide +kernel
theorem dX5_clearMinutes_28 : decode cX5_clearMinutes 28 = .ok (.iconst 1, 1) := by decide +kernel
theorem dX5_clearMinutes_29 : decode cX5_clearMinutes 29 = .ok (.iadd, 1) := by decide +kernel
theorem dX5_clearMinutes_30 : decode cX5_clearMinutes 30 = .ok (.istore_n 1, 1) := by decide +kernel
theorem dX5_clearMinutes_31 : decode cX5_clearMinutes 31 = .ok (.iinc 2 1, 3) := by decide +kernel
theorem dX5_clearMinutes_34 : decode cX5_clearMinutes 34 = .ok (.goto (-30), 3) := by decide +kernel
theorem dX5_clearMinutes_37 : decode cX5_clearMinutes 37 = .ok (.iload_n 1, 1) := by decide +kernel
theorem dX5_clearMinutes_38 : decode cX5_clearMinutes 38 = .ok (.ireturn, 1) := by decide +kernel
theorem dX5_reasonAgainst_0 : decode cX5_reasonAgainst 0 = .ok (.aload_n 0, 1) := by decide +kernel
theorem dX5_reasonAgainst_1 : decode cX5_reasonAgainst 1 = .ok (.getfield 28, 3) := by decide +kernel
theorem dX5_reasonAgainst_4 : decode cX5_reasonAgainst 4 = .ok (.iload_n 2, 1) := by decide +kernel
theorem dX5_reasonAgainst_5 : decode cX5_reasonAgainst 5 = .ok (.invokevirtual 252, 3) := by decide +kernel
theorem dX5_reasonAgainst_8 : decode cX5_reasonAgainst 8 = .ok (.ifCond .eq 5, 3) := by decide +kernel
theorem dX5_reasonAgainst_11 : decode cX5_reasonAgainst 11 = .ok (.iconst 1, 1) := by decide +kernel
theorem dX5_reasonAgainst_12 : decode cX5_reasonAgainst 12 = .ok (.ireturn, 1) := by decide +kernel
theorem dX5_reasonAgainst_13 : decode cX5_reasonAgainst 13 = .ok (.iload_n 3, 1) := by decide +kernel
theorem dX5_reasonAgainst_14 : decode cX5_reasonAgainst 14 = .ok (.aload_n 1, 1) := by decide +kernel
theorem dX5_reasonAgainst_15 : decode cX5_reasonAgainst 15 = .ok (.getfield 129, 3) := by decide +kernel
theorem dX5_reasonAgainst_18 : decode cX5_reasonAgainst 18 = .ok (.if_icmp .ge 5, 3) := by decide +kernel
theorem dX5_reasonAgainst_21 : decode cX5_reasonAgainst 21 = .ok (.iconst 2, 1) := by decide +kernel
theorem dX5_reasonAgainst_22 : decode cX5_reasonAgainst 22 = .ok (.ireturn, 1) := by decide +kernel
theorem dX5_reasonAgainst_23 : decode cX5_reasonAgainst 23 = .ok (.aload_n 1, 1) := by decide +kernel
theorem dX5_reasonAgainst_24 : decode cX5_reasonAgainst 24 = .ok (.getfield 152, 3) := by decide +kernel
theorem dX5_reasonAgainst_27 : decode cX5_reasonAgainst 27 = .ok (.aload_n 0, 1) := by decide +kernel
theorem dX5_reasonAgainst_28 : decode cX5_reasonAgainst 28 = .ok (.getfield 18, 3) := by decide +kernel
theorem dX5_reasonAgainst_31 : decode cX5_reasonAgainst 31 = .ok (.invokestatic 159, 3) := by decide +kernel
theorem dX5_reasonAgainst_34 : decode cX5_reasonAgainst 34 = .ok (.sipush 1000, 3) := by decide +kernel
theorem dX5_reasonAgainst_37 : decode cX5_reasonAgainst 37 = .ok (.iconst 5, 1) := by decide +kernel
theorem dX5_reasonAgainst_38 : decode cX5_reasonAgainst 38 = .ok (.aload_n 0, 1) := by decide +kernel
theorem dX5_reasonAgainst_39 : decode cX5_reasonAgainst 39 = .ok (.invokevirtual 74, 3) := by decide +kernel
theorem dX5_reasonAgainst_42 : decode cX5_reasonAgainst 42 = .ok (.imul, 1) := by decide +kernel
theorem dX5_reasonAgainst_43 : decode cX5_reasonAgainst 43 = .ok (.isub, 1) := by decide +kernel
theorem dX5_reasonAgainst_44 : decode cX5_reasonAgainst 44 = .ok (.if_icmp .le 7, 3) := by decide +kernel
theorem dX5_reasonAgainst_47 : decode cX5_reasonAgainst 47 = .ok (.iconst 1, 1) := by decide +kernel
theorem dX5_reasonAgainst_48 : decode cX5_reasonAgainst 48 = .ok (.goto 4, 3) := by decide +kernel
theorem dX5_reasonAgainst_51 : decode cX5_reasonAgainst 51 = .ok (.iconst 0, 1) := by decide +kernel
theorem dX5_reasonAgainst_52 : decode cX5_reasonAgainst 52 = .ok (.istore 4, 2) := by decide +kernel
theorem dX5_reasonAgainst_54 : decode cX5_reasonAgainst 54 = .ok (.iload 4, 2) := by decide +kernel
theorem dX5_reasonAgainst_56 : decode cX5_reasonAgainst 56 = .ok (.ifCond .eq 19, 3) := by decide +kernel
theorem dX5_reasonAgainst_59 : decode cX5_reasonAgainst 59 = .ok (.aload_n 0, 1) := by decide +kernel
theorem dX5_reasonAgainst_60 : decode cX5_reasonAgainst 60 = .ok (.aload_n 0, 1) := by decide +kernel
theorem dX5_reasonAgainst_61 : decode cX5_reasonAgainst 61 = .ok (.getfield 18, 3) := by decide +kernel
theorem dX5_reasonAgainst_64 : decode cX5_reasonAgainst 64 = .ok (.iload_n 2, 1) := by decide +kernel
theorem dX5_reasonAgainst_65 : decode cX5_reasonAgainst 65 = .ok (.invokevirtual 155, 3) := by decide +kernel
theorem dX5_reasonAgainst_68 : decode cX5_reasonAgainst 68 = .ok (.ifCond .le 7, 3) := by decide +kernel
theorem dX5_reasonAgainst_71 : decode cX5_reasonAgainst 71 = .ok (.iconst 3, 1) := by decide +kernel
theorem dX5_reasonAgainst_72 : decode cX5_reasonAgainst 72 = .ok (.goto 4, 3) := by decide +kernel
theorem dX5_reasonAgainst_75 : decode cX5_reasonAgainst 75 = .ok (.iconst 0, 1) := by decide +kernel
theorem dX5_reasonAgainst_76 : decode cX5_reasonAgainst 76 = .ok (.ireturn, 1) := by decide +kernel
theorem dX5_survey_0 : decode cX5_survey 0 = .ok (.aload_n 1, 1) := by decide +kernel
theorem dX5_survey_1 : decode cX5_survey 1 = .ok (.getfield 135, 3) := by decide +kernel
theorem dX5_survey_4 : decode cX5_survey 4 = .ok (.getfield 139, 3) := by decide +kernel
theorem dX5_survey_7 : decode cX5_survey 7 = .ok (.ifCond .eq 4, 3) := by decide +kernel
theorem dX5_survey_10 : decode cX5_survey 10 = .ok (.return_, 1) := by decide +kernel
theorem dX5_survey_11 : decode cX5_survey 11 = .ok (.aload_n 1, 1) := by decide +kernel
theorem dX5_survey_12 : decode cX5_survey 12 = .ok (.getfield 135, 3) := by decide +kernel
theorem dX5_survey_15 : decode cX5_survey 15 = .ok (.invokevirtual 255, 3) := by decide +kernel
theorem dX5_survey_18 : decode cX5_survey 18 = .ok (.iconst 0, 1) := by decide +kernel
theorem dX5_survey_19 : decode cX5_survey 19 = .ok (.istore_n 2, 1) := by decide +kernel
theorem dX5_survey_20 : decode cX5_survey 20 = .ok (.aload_n 0, 1) := by decide +kernel
theorem dX5_survey_21 : decode cX5_survey 21 = .ok (.getfield 21, 3) := by decide +kernel
theorem dX5_survey_24 : decode cX5_survey 24 = .ok (.iconst 1, 1) := by decide +kernel
theorem dX5_survey_25 : decode cX5_survey 25 = .ok (.isub, 1) := by decide +kernel
theorem dX5_survey_26 : decode cX5_survey 26 = .ok (.istore_n 3, 1) := by decide +kernel
theorem dX5_survey_27 : decode cX5_survey 27 = .ok (.iload_n 3, 1) := by decide +kernel
theorem dX5_survey_28 : decode cX5_survey 28 = .ok (.ifCond .lt 62, 3) := by decide +kernel
theorem dX5_survey_31 : decode cX5_survey 31 = .ok (.aload_n 0, 1) := by decide +kernel
theorem dX5_survey_32 : decode cX5_survey 32 = .ok (.aload_n 1, 1) := by decide +kernel
theorem dX5_survey_33 : decode cX5_survey 33 = .ok (.getfield 152, 3) := by decide +kernel
theorem dX5_survey_36 : decode cX5_survey 36 = .ok (.iload_n 3, 1) := by decide +kernel
theorem dX5_survey_37 : decode cX5_survey 37 = .ok (.invokevirtual 155, 3) := by decide +kernel
theorem dX5_survey_40 : decode cX5_survey 40 = .ok (.istore 4, 2) := by decide +kernel
theorem dX5_survey_42 : decode cX5_survey 42 = .ok (.aload_n 0, 1) := by decide +kernel
theorem dX5_survey_43 : decode cX5_survey 43 = .ok (.aload_n 1, 1) := by decide +kernel
theorem dX5_survey_44 : decode cX5_survey 44 = .ok (.iload_n 3, 1) := by decide +kernel
theorem dX5_survey_45 : decode cX5_survey 45 = .ok (.iload 4, 2) := by decide +kernel
theorem dX5_survey_47 : decode cX5_survey 47 = .ok (.invokevirtual 163, 3) := by decide +kernel
theorem dX5_survey_50 : decode cX5_survey 50 = .ok (.ifCond .ne 9, 3) := by decide +kernel
theorem dX5_survey_53 : decode cX5_survey 53 = .ok (.iload_n 2, 1) := by decide +kernel
theorem dX5_survey_54 : decode cX5_survey 54 = .ok (.iconst 1, 1) := by decide +kernel
theorem dX5_survey_55 : decode cX5_survey 55 = .ok (.iadd, 1) := by decide +kernel
theorem dX5_survey_56 : decode cX5_survey 56 = .ok (.goto 4, 3) := by decide +kernel
theorem dX5_survey_59 : decode cX5_survey 59 = .ok (.iconst 0, 1) := by decide +kernel
theorem dX5_survey_60 : decode cX5_survey 60 = .ok (.istore_n 2, 1) := by decide +kernel
theorem dX5_survey_61 : decode cX5_survey 61 = .ok (.aload_n 1, 1) := by decide +kernel
theorem dX5_survey_62 : decode cX5_survey 62 = .ok (.getfield 135, 3) := by decide +kernel
theorem dX5_survey_65 : decode cX5_survey 65 = .ok (.iload_n 3, 1) := by decide +kernel
theorem dX5_survey_66 : decode cX5_survey 66 = .ok (.iload 4, 2) := by decide +kernel
theorem dX5_survey_68 : decode cX5_survey 68 = .ok (.invokevirtual 258, 3) := by decide +kernel
theorem dX5_survey_71 : decode cX5_survey 71 = .ok (.aload_n 1, 1) := by decide +kernel
theorem dX5_survey_72 : decode cX5_survey 72 = .ok (.getfield 135, 3) := by decide +kernel
theorem dX5_survey_75 : decode cX5_survey 75 = .ok (.iload_n 3, 1) := by decide +kernel
theorem dX5_survey_76 : decode cX5_survey 76 = .ok (.iload_n 2, 1) := by decide +kernel
theorem dX5_survey_77 : decode cX5_survey 77 = .ok (.aload_n 1, 1) := by decide +kernel
theorem dX5_survey_78 : decode cX5_survey 78 = .ok (.getfield 261, 3) := by decide +kernel
theorem dX5_survey_81 : decode cX5_survey 81 = .ok (.invokevirtual 262, 3) := by decide +kernel
theorem dX5_survey_84 : decode cX5_survey 84 = .ok (.iinc 3 (-1), 3) := by decide +kernel
theorem dX5_survey_87 : decode cX5_survey 87 = .ok (.goto (-60), 3) := by decide +kernel
theorem dX5_survey_90 : decode cX5_survey 90 = .ok (.aload_n 1, 1) := by decide +kernel
theorem dX5_survey_91 : decode cX5_survey 91 = .ok (.getfield 135, 3) := by decide +kernel
theorem dX5_survey_94 : decode cX5_survey 94 = .ok (.iconst 1, 1) := by decide +kernel
theorem dX5_survey_95 : decode cX5_survey 95 = .ok (.putfield 139, 3) := by decide +kernel
theorem dX5_survey_98 : decode cX5_survey 98 = .ok (.return_, 1) := by decide +kernel
theorem dX5_share_0 : decode cX5_share 0 = .ok (.iload_n 2, 1) := by decide +kernel
theorem dX5_share_1 : decode cX5_share 1 = .ok (.tableswitch 63 0 2 #[27, 29, 46], 27) := by decide +kernel
theorem dX5_share_28 : decode cX5_share 28 = .ok (.iconst 1, 1) := by decide +kernel
theorem dX5_share_29 : decode cX5_share 29 = .ok (.ireturn, 1) := by decide +kernel
theorem dX5_share_30 : decode cX5_share 30 = .ok (.aload_n 1, 1) := by decide +kernel
theorem dX5_share_31 : decode cX5_share 31 = .ok (.aload_n 0, 1) := by decide +kernel
theorem dX5_share_32 : decode cX5_share 32 = .ok (.getfield 172, 3) := by decide +kernel
theorem dX5_share_35 : decode cX5_share 35 = .ok (.invokevirtual 175, 3) := by decide +kernel
theorem dX5_share_38 : decode cX5_share 38 = .ok (.ifCond .eq 7, 3) := by decide +kernel
theorem dX5_share_41 : decode cX5_share 41 = .ok (.iconst 1, 1) := by decide +kernel
theorem dX5_share_42 : decode cX5_share 42 = .ok (.goto 4, 3) := by decide +kernel
theorem dX5_share_45 : decode cX5_share 45 = .ok (.iconst 0, 1) := by decide +kernel
theorem dX5_share_46 : decode cX5_share 46 = .ok (.ireturn, 1) := by decide +kernel
theorem dX5_share_47 : decode cX5_share 47 = .ok (.aload_n 1, 1) := by decide +kernel
theorem dX5_share_48 : decode cX5_share 48 = .ok (.getfield 266, 3) := by decide +kernel
theorem dX5_share_51 : decode cX5_share 51 = .ok (.aload_n 1, 1) := by decide +kernel
theorem dX5_share_52 : decode cX5_share 52 = .ok (.getfield 126, 3) := by decide +kernel
theorem dX5_share_55 : decode cX5_share 55 = .ok (.if_icmp .lt 7, 3) := by decide +kernel
theorem dX5_share_58 : decode cX5_share 58 = .ok (.iconst 1, 1) := by decide +kernel
theorem dX5_share_59 : decode cX5_share 59 = .ok (.goto 4, 3) := by decide +kernel
theorem dX5_share_62 : decode cX5_share 62 = .ok (.iconst 0, 1) := by decide +kernel
theorem dX5_share_63 : decode cX5_share 63 = .ok (.ireturn, 1) := by decide +kernel
theorem dX5_share_64 : decode cX5_share 64 = .ok (.aload_n 1, 1) := by decide +kernel
theorem dX5_share_65 : decode cX5_share 65 = .ok (.getfield 266, 3) := by decide +kernel
theorem dX5_share_68 : decode cX5_share 68 = .ok (.ireturn, 1) := by decide +kernel
theorem dX5_settlePlan_0 : decode cX5_settlePlan 0 = .ok (.aload_n 0, 1) := by decide +kernel
theorem dX5_settlePlan_1 : decode cX5_settlePlan 1 = .ok (.getfield 42, 3) := by decide +kernel
theorem dX5_settlePlan_4 : decode cX5_settlePlan 4 = .ok (.getfield 116, 3) := by decide +kernel
theorem dX5_settlePlan_7 : decode cX5_settlePlan 7 = .ok (.ifCond .eq 4, 3) := by decide +kernel
theorem dX5_settlePlan_10 : decode cX5_settlePlan 10 = .ok (.return_, 1) := by decide +kernel
theorem dX5_settlePlan_11 : decode cX5_settlePlan 11 = .ok (.aload_n 0, 1) := by decide +kernel
theorem dX5_settlePlan_12 : decode cX5_settlePlan 12 = .ok (.getfield 42, 3) := by decide +kernel
theorem dX5_settlePlan_15 : decode cX5_settlePlan 15 = .ok (.invokevirtual 269, 3) := by decide +kernel
theorem dX5_settlePlan_18 : decode cX5_settlePlan 18 = .ok (.iconst 0, 1) := by decide +kernel
theorem dX5_settlePlan_19 : decode cX5_settlePlan 19 = .ok (.istore_n 1, 1) := by decide +kernel
theorem dX5_settlePlan_20 : decode cX5_settlePlan 20 = .ok (.iload_n 1, 1) := by decide +kernel
theorem dX5_settlePlan_21 : decode cX5_settlePlan 21 = .ok (.aload_n 0, 1) := by decide +kernel
theorem dX5_settlePlan_22 : decode cX5_settlePlan 22 = .ok (.getfield 35, 3) := by decide +kernel
theorem dX5_settlePlan_25 : decode cX5_settlePlan 25 = .ok (.invokevirtual 102, 3) := by decide +kernel
theorem dX5_settlePlan_28 : decode cX5_settlePlan 28 = .ok (.if_icmp .ge 31, 3) := by decide +kernel
theorem dX5_settlePlan_31 : decode cX5_settlePlan 31 = .ok (.aload_n 0, 1) := by decide +kernel
theorem dX5_settlePlan_32 : decode cX5_settlePlan 32 = .ok (.getfield 35, 3) := by decide +kernel
theorem dX5_settlePlan_35 : decode cX5_settlePlan 35 = .ok (.iload_n 1, 1) := by decide +kernel
theorem dX5_settlePlan_36 : decode cX5_settlePlan 36 = .ok (.invokevirtual 179, 3) := by decide +kernel
theorem dX5_settlePlan_39 : decode cX5_settlePlan 39 = .ok (.checkcast 107, 3) := by decide +kernel
theorem dX5_settlePlan_42 : decode cX5_settlePlan 42 = .ok (.astore_n 2, 1) := by decide +kernel
theorem dX5_settlePlan_43 : decode cX5_settlePlan 43 = .ok (.aload_n 2, 1) := by decide +kernel
theorem dX5_settlePlan_44 : decode cX5_settlePlan 44 = .ok (.iconst 0, 1) := by decide +kernel
theorem dX5_settlePlan_45 : decode cX5_settlePlan 45 = .ok (.putfield 270, 3) := by decide +kernel
theorem dX5_settlePlan_48 : decode cX5_settlePlan 48 = .ok (.aload_n 0, 1) := by decide +kernel
theorem dX5_settlePlan_49 : decode cX5_settlePlan 49 = .ok (.aload_n 2, 1) := by decide +kernel
theorem dX5_settlePlan_50 : decode cX5_settlePlan 50 = .ok (.invokevirtual 167, 3) := by decide +kernel
theorem dX5_settlePlan_53 : decode cX5_settlePlan 53 = .ok (.iinc 1 1, 3) := by decide +kernel
theorem dX5_settlePlan_56 : decode cX5_settlePlan 56 = .ok (.goto (-36), 3) := by decide +kernel
theorem dX5_settlePlan_59 : decode cX5_settlePlan 59 = .ok (.iconst 0, 1) := by decide +kernel
theorem dX5_settlePlan_60 : decode cX5_settlePlan 60 = .ok (.istore_n 1, 1) := by decide +kernel
theorem dX5_settlePlan_61 : decode cX5_settlePlan 61 = .ok (.iload_n 1, 1) := by decide +kernel
theorem dX5_settlePlan_62 : decode cX5_settlePlan 62 = .ok (.aload_n 0, 1) := by decide +kernel
theorem dX5_settlePlan_63 : decode cX5_settlePlan 63 = .ok (.getfield 21, 3) := by decide +kernel
theorem dX5_settlePlan_66 : decode cX5_settlePlan 66 = .ok (.if_icmp .ge 18, 3) := by decide +kernel
theorem dX5_settlePlan_69 : decode cX5_settlePlan 69 = .ok (.iload_n 1, 1) := by decide +kernel
theorem dX5_settlePlan_70 : decode cX5_settlePlan 70 = .ok (.iconst 1, 1) := by decide +kernel
theorem dX5_settlePlan_71 : decode cX5_settlePlan 71 = .ok (.iadd, 1) := by decide +kernel
theorem dX5_settlePlan_72 : decode cX5_settlePlan 72 = .ok (.aload_n 0, 1) := by decide +kernel
theorem dX5_settlePlan_73 : decode cX5_settlePlan 73 = .ok (.iload_n 1, 1) := by decide +kernel
theorem dX5_settlePlan_74 : decode cX5_settlePlan 74 = .ok (.invokevirtual 273, 3) := by decide +kernel
theorem dX5_settlePlan_77 : decode cX5_settlePlan 77 = .ok (.invokestatic 276, 3) := by decide +kernel
theorem dX5_settlePlan_80 : decode cX5_settlePlan 80 = .ok (.istore_n 1, 1) := by decide +kernel
theorem dX5_settlePlan_81 : decode cX5_settlePlan 81 = .ok (.goto (-20), 3) := by decide +kernel
theorem dX5_settlePlan_84 : decode cX5_settlePlan 84 = .ok (.aload_n 0, 1) := by decide +kernel
theorem dX5_settlePlan_85 : decode cX5_settlePlan 85 = .ok (.getfield 42, 3) := by decide +kernel
theorem dX5_settlePlan_88 : decode cX5_settlePlan 88 = .ok (.iconst 1, 1) := by decide +kernel
theorem dX5_settlePlan_89 : decode cX5_settlePlan 89 = .ok (.putfield 116, 3) := by decide +kernel
theorem dX5_settlePlan_92 : decode cX5_settlePlan 92 = .ok (.return_, 1) := by decide +kernel
theorem dX5_takeBest_0 : decode cX5_takeBest 0 = .ok (.aconst_null, 1) := by decide +kernel
theorem dX5_takeBest_1 : decode cX5_takeBest 1 = .ok (.astore_n 2, 1) := by decide +kernel
theorem dX5_takeBest_2 : decode cX5_takeBest 2 = .ok (.ldc_w 280, 3) := by decide +kernel
theorem dX5_takeBest_5 : decode cX5_takeBest 5 = .ok (.istore_n 3, 1) := by decide +kernel
theorem dX5_takeBest_6 : decode cX5_takeBest 6 = .ok (.iconst 0, 1) := by decide +kernel
theorem dX5_takeBest_7 : decode cX5_takeBest 7 = .ok (.istore 4, 2) := by decide +kernel
theorem dX5_takeBest_9 : decode cX5_takeBest 9 = .ok (.iload 4, 2) := by decide +kernel
theorem dX5_takeBest_11 : decode cX5_takeBest 11 = .ok (.aload_n 0, 1) := by decide +kernel
theorem dX5_takeBest_12 : decode cX5_takeBest 12 = .ok (.getfield 35, 3) := by decide +kernel
theorem dX5_takeBest_15 : decode cX5_takeBest 15 = .ok (.invokevirtual 102, 3) := by decide +kernel
theorem dX5_takeBest_18 : decode cX5_takeBest 18 = .ok (.if_icmp .ge 44, 3) := by decide +kernel
theorem dX5_takeBest_21 : decode cX5_takeBest 21 = .ok (.aload_n 0, 1) := by decide +kernel
theorem dX5_takeBest_22 : decode cX5_takeBest 22 = .ok (.getfield 35, 3) := by decide +kernel
theorem dX5_takeBest_25 : decode cX5_takeBest 25 = .ok (.iload 4, 2) := by decide +kernel
theorem dX5_takeBest_27 : decode cX5_takeBest 27 = .ok (.invokevirtual 179, 3) := by decide +kernel
theorem dX5_takeBest_30 : decode cX5_takeBest 30 = .ok (.checkcast 107, 3) := by decide +kernel
theorem dX5_takeBest_33 : decode cX5_takeBest 33 = .ok (.astore 5, 2) := by decide +kernel
theorem dX5_takeBest_35 : decode cX5_takeBest 35 = .ok (.aload_n 0, 1) := by decide +kernel
theorem dX5_takeBest_36 : decode cX5_takeBest 36 = .ok (.aload 5, 2) := by decide +kernel
theorem dX5_takeBest_38 : decode cX5_takeBest 38 = .ok (.iload_n 1, 1) := by decide +kernel
theorem dX5_takeBest_39 : decode cX5_takeBest 39 = .ok (.invokevirtual 281, 3) := by decide +kernel
theorem dX5_takeBest_42 : decode cX5_takeBest 42 = .ok (.istore 6, 2) := by decide +kernel
theorem dX5_takeBest_44 : decode cX5_takeBest 44 = .ok (.iload 6, 2) := by decide +kernel
theorem dX5_takeBest_46 : decode cX5_takeBest 46 = .ok (.iload_n 3, 1) := by decide +kernel
theorem dX5_takeBest_47 : decode cX5_takeBest 47 = .ok (.if_icmp .le 9, 3) := by decide +kernel
theorem dX5_takeBest_50 : decode cX5_takeBest 50 = .ok (.aload 5, 2) := by decide +kernel
theorem dX5_takeBest_52 : decode cX5_takeBest 52 = .ok (.astore_n 2, 1) := by decide +kernel
theorem dX5_takeBest_53 : decode cX5_takeBest 53 = .ok (.iload 6, 2) := by decide +kernel
theorem dX5_takeBest_55 : decode cX5_takeBest 55 = .ok (.istore_n 3, 1) := by decide +kernel
theorem dX5_takeBest_56 : decode cX5_takeBest 56 = .ok (.iinc 4 1, 3) := by decide +kernel
theorem dX5_takeBest_59 : decode cX5_takeBest 59 = .ok (.goto (-50), 3) := by decide +kernel
theorem dX5_takeBest_62 : decode cX5_takeBest 62 = .ok (.aload_n 2, 1) := by decide +kernel
theorem dX5_takeBest_63 : decode cX5_takeBest 63 = .ok (.ifnonnull 7, 3) := by decide +kernel
theorem dX5_takeBest_66 : decode cX5_takeBest 66 = .ok (.iload_n 1, 1) := by decide +kernel
theorem dX5_takeBest_67 : decode cX5_takeBest 67 = .ok (.goto 13, 3) := by decide +kernel
theorem dX5_takeBest_70 : decode cX5_takeBest 70 = .ok (.aload_n 0, 1) := by decide +kernel
theorem dX5_takeBest_71 : decode cX5_takeBest 71 = .ok (.getfield 42, 3) := by decide +kernel
theorem dX5_takeBest_74 : decode cX5_takeBest 74 = .ok (.aload_n 2, 1) := by decide +kernel
theorem dX5_takeBest_75 : decode cX5_takeBest 75 = .ok (.iload_n 1, 1) := by decide +kernel
theorem dX5_takeBest_76 : decode cX5_takeBest 76 = .ok (.iload_n 3, 1) := by decide +kernel
theorem dX5_takeBest_77 : decode cX5_takeBest 77 = .ok (.invokevirtual 284, 3) := by decide +kernel
theorem dX5_takeBest_80 : decode cX5_takeBest 80 = .ok (.ireturn, 1) := by decide +kernel
theorem dX5_meritAt_0 : decode cX5_meritAt 0 = .ok (.aload_n 1, 1) := by decide +kernel
theorem dX5_meritAt_1 : decode cX5_meritAt 1 = .ok (.getfield 270, 3) := by decide +kernel
theorem dX5_meritAt_4 : decode cX5_meritAt 4 = .ok (.ifCond .ne 14, 3) := by decide +kernel
theorem dX5_meritAt_7 : decode cX5_meritAt 7 = .ok (.aload_n 1, 1) := by decide +kernel
theorem dX5_meritAt_8 : decode cX5_meritAt 8 = .ok (.aload_n 0, 1) := by decide +kernel
theorem dX5_meritAt_9 : decode cX5_meritAt 9 = .ok (.getfield 172, 3) := by decide +kernel
theorem dX5_meritAt_12 : decode cX5_meritAt 12 = .ok (.invokevirtual 175, 3) := by decide +kernel
theorem dX5_meritAt_15 : decode cX5_meritAt 15 = .ok (.ifCond .ne 7, 3) := by decide +kernel
theorem dX5_meritAt_18 : decode cX5_meritAt 18 = .ok (.ldc_w 280, 3) := by decide +kernel
theorem dX5_meritAt_21 : decode cX5_meritAt 21 = .ok (.ireturn, 1) := by decide +kernel
theorem dX5_meritAt_22 : decode cX5_meritAt 22 = .ok (.aload_n 0, 1) := by decide +kernel
theorem dX5_meritAt_23 : decode cX5_meritAt 23 = .ok (.getfield 42, 3) := by decide +kernel
theorem dX5_meritAt_26 : decode cX5_meritAt 26 = .ok (.aload_n 1, 1) := by decide +kernel
theorem dX5_meritAt_27 : decode cX5_meritAt 27 = .ok (.invokevirtual 287, 3) := by decide +kernel
theorem dX5_meritAt_30 : decode cX5_meritAt 30 = .ok (.istore_n 3, 1) := by decide +kernel
theorem dX5_meritAt_31 : decode cX5_meritAt 31 = .ok (.aload_n 1, 1) := by decide +kernel
theorem dX5_meritAt_32 : decode cX5_meritAt 32 = .ok (.getfield 135, 3) := by decide +kernel
theorem dX5_meritAt_35 : decode cX5_meritAt 35 = .ok (.iload_n 2, 1) := by decide +kernel
theorem dX5_meritAt_36 : decode cX5_meritAt 36 = .ok (.iload_n 3, 1) := by decide +kernel
theorem dX5_meritAt_37 : decode cX5_meritAt 37 = .ok (.iadd, 1) := by decide +kernel
theorem dX5_meritAt_38 : decode cX5_meritAt 38 = .ok (.aload_n 1, 1) := by decide +kernel
theorem dX5_meritAt_39 : decode cX5_meritAt 39 = .ok (.getfield 261, 3) := by decide +kernel
theorem dX5_meritAt_42 : decode cX5_meritAt 42 = .ok (.invokevirtual 291, 3) := by decide +kernel
theorem dX5_meritAt_45 : decode cX5_meritAt 45 = .ok (.ifCond .ne 7, 3) := by decide +kernel
theorem dX5_meritAt_48 : decode cX5_meritAt 48 = .ok (.ldc_w 280, 3) := by decide +kernel
theorem dX5_meritAt_51 : decode cX5_meritAt 51 = .ok (.ireturn, 1) := by decide +kernel
theorem dX5_meritAt_52 : decode cX5_meritAt 52 = .ok (.bipush 100, 2) := by decide +kernel
theorem dX5_meritAt_54 : decode cX5_meritAt 54 = .ok (.aload_n 1, 1) := by decide +kernel
theorem dX5_meritAt_55 : decode cX5_meritAt 55 = .ok (.getfield 294, 3) := by decide +kernel
theorem dX5_meritAt_58 : decode cX5_meritAt 58 = .ok (.imul, 1) := by decide +kernel
theorem dX5_meritAt_59 : decode cX5_meritAt 59 = .ok (.aload_n 0, 1) := by decide +kernel
theorem dX5_meritAt_60 : decode cX5_meritAt 60 = .ok (.aload_n 1, 1) := by decide +kernel
theorem dX5_meritAt_61 : decode cX5_meritAt 61 = .ok (.getfield 152, 3) := by decide +kernel
theorem dX5_meritAt_64 : decode cX5_meritAt 64 = .ok (.iload_n 2, 1) := by decide +kernel
theorem dX5_meritAt_65 : decode cX5_meritAt 65 = .ok (.iload_n 3, 1) := by decide +kernel
theorem dX5_meritAt_66 : decode cX5_meritAt 66 = .ok (.iadd, 1) := by decide +kernel
theorem dX5_meritAt_67 : decode cX5_meritAt 67 = .ok (.invokevirtual 155, 3) := by decide +kernel
theorem dX5_meritAt_70 : decode cX5_meritAt 70 = .ok (.bipush 10, 2) := by decide +kernel
theorem dX5_meritAt_72 : decode cX5_meritAt 72 = .ok (.idiv, 1) := by decide +kernel
theorem dX5_meritAt_73 : decode cX5_meritAt 73 = .ok (.iadd, 1) := by decide +kernel
theorem dX5_meritAt_74 : decode cX5_meritAt 74 = .ok (.iload_n 3, 1) := by decide +kernel
theorem dX5_meritAt_75 : decode cX5_meritAt 75 = .ok (.isub, 1) := by decide +kernel
theorem dX5_meritAt_76 : decode cX5_meritAt 76 = .ok (.ireturn, 1) := by decide +kernel
theorem dX5_beginNextNight_0 : decode cX5_beginNextNight 0 = .ok (.aload_n 0, 1) := by decide +kernel
theorem dX5_beginNextNight_1 : decode cX5_beginNextNight 1 = .ok (.dup, 1) := by decide +kernel
theorem dX5_beginNextNight_2 : decode cX5_beginNextNight 2 = .ok (.getfield 172, 3) := by decide +kernel
theorem dX5_beginNextNight_5 : decode cX5_beginNextNight 5 = .ok (.iconst 1, 1) := by decide +kernel
theorem dX5_beginNextNight_6 : decode cX5_beginNextNight 6 = .ok (.iadd, 1) := by decide +kernel
theorem dX5_beginNextNight_7 : decode cX5_beginNextNight 7 = .ok (.putfield 172, 3) := by decide +kernel
theorem dX5_beginNextNight_10 : decode cX5_beginNextNight 10 = .ok (.aload_n 0, 1) := by decide +kernel
theorem dX5_beginNextNight_11 : decode cX5_beginNextNight 11 = .ok (.new 7, 3) := by decide +kernel
theorem dX5_beginNextNight_14 : decode cX5_beginNextNight 14 = .ok (.dup, 1) := by decide +kernel
theorem dX5_beginNextNight_15 : decode cX5_beginNextNight 15 = .ok (.aload_n 0, 1) := by decide +kernel
theorem dX5_beginNextNight_16 : decode cX5_beginNextNight 16 = .ok (.getfield 18, 3) := by decide +kernel
theorem dX5_beginNextNight_19 : decode cX5_beginNextNight 19 = .ok (.getfield 220, 3) := by decide +kernel
theorem dX5_beginNextNight_22 : decode cX5_beginNextNight 22 = .ok (.bipush 49, 2) := by decide +kernel
theorem dX5_beginNextNight_24 : decode cX5_beginNextNight 24 = .ok (.iadd, 1) := by decide +kernel
theorem dX5_beginNextNight_25 : decode cX5_beginNextNight 25 = .ok (.sipush 1440, 3) := by decide +kernel
theorem dX5_beginNextNight_28 : decode cX5_beginNextNight 28 = .ok (.irem, 1) := by decide +kernel
theorem dX5_beginNextNight_29 : decode cX5_beginNextNight 29 = .ok (.aload_n 0, 1) := by decide +kernel
theorem dX5_beginNextNight_30 : decode cX5_beginNextNight 30 = .ok (.getfield 18, 3) := by decide +kernel
theorem dX5_beginNextNight_33 : decode cX5_beginNextNight 33 = .ok (.getfield 57, 3) := by decide +kernel
theorem dX5_beginNextNight_36 : decode cX5_beginNextNight 36 = .ok (.invokespecial 9, 3) := by decide +kernel
theorem dX5_beginNextNight_39 : decode cX5_beginNextNight 39 = .ok (.putfield 18, 3) := by decide +kernel
theorem dX5_beginNextNight_42 : decode cX5_beginNextNight 42 = .ok (.aload_n 0, 1) := by decide +kernel
theorem dX5_beginNextNight_43 : decode cX5_beginNextNight 43 = .ok (.aload_n 0, 1) := by decide +kernel
theorem dX5_beginNextNight_44 : decode cX5_beginNextNight 44 = .ok (.getfield 71, 3) := by decide +kernel
theorem dX5_beginNextNight_47 : decode cX5_beginNextNight 47 = .ok (.iconst 1, 1) := by decide +kernel
theorem dX5_beginNextNight_48 : decode cX5_beginNextNight 48 = .ok (.iadd, 1) := by decide +kernel
theorem dX5_beginNextNight_49 : decode cX5_beginNextNight 49 = .ok (.bipush 30, 2) := by decide +kernel
theorem dX5_beginNextNight_51 : decode cX5_beginNextNight 51 = .ok (.irem, 1) := by decide +kernel
theorem dX5_beginNextNight_52 : decode cX5_beginNextNight 52 = .ok (.putfield 71, 3) := by decide +kernel
theorem dX5_beginNextNight_55 : decode cX5_beginNextNight 55 = .ok (.aload_n 0, 1) := by decide +kernel
theorem dX5_beginNextNight_56 : decode cX5_beginNextNight 56 = .ok (.getfield 28, 3) := by decide +kernel
theorem dX5_beginNextNight_59 : decode cX5_beginNextNight 59 = .ok (.iconst 0, 1) := by decide +kernel
theorem dX5_beginNextNight_60 : decode cX5_beginNextNight 60 = .ok (.putfield 80, 3) := by decide +kernel
theorem dX5_beginNextNight_63 : decode cX5_beginNextNight 63 = .ok (.aload_n 0, 1) := by decide +kernel
theorem dX5_beginNextNight_64 : decode cX5_beginNextNight 64 = .ok (.invokevirtual 60, 3) := by decide +kernel
theorem dX5_beginNextNight_67 : decode cX5_beginNextNight 67 = .ok (.return_, 1) := by decide +kernel
theorem dX5_forgetNight_0 : decode cX5_forgetNight 0 = .ok (.iconst 0, 1) := by decide +kernel
theorem dX5_forgetNight_1 : decode cX5_forgetNight 1 = .ok (.istore_n 1, 1) := by decide +kernel
theorem dX5_forgetNight_2 : decode cX5_forgetNight 2 = .ok (.iload_n 1, 1) := by decide +kernel
theorem dX5_forgetNight_3 : decode cX5_forgetNight 3 = .ok (.aload_n 0, 1) := by decide +kernel
theorem dX5_forgetNight_4 : decode cX5_forgetNight 4 = .ok (.getfield 35, 3) := by decide +kernel
theorem dX5_forgetNight_7 : decode cX5_forgetNight 7 = .ok (.invokevirtual 102, 3) := by decide +kernel
theorem dX5_forgetNight_10 : decode cX5_forgetNight 10 = .ok (.if_icmp .ge 27, 3) := by decide +kernel
theorem dX5_forgetNight_13 : decode cX5_forgetNight 13 = .ok (.aload_n 0, 1) := by decide +kernel
theorem dX5_forgetNight_14 : decode cX5_forgetNight 14 = .ok (.getfield 35, 3) := by decide +kernel
theorem dX5_forgetNight_17 : decode cX5_forgetNight 17 = .ok (.iload_n 1, 1) := by decide +kernel
theorem dX5_forgetNight_18 : decode cX5_forgetNight 18 = .ok (.invokevirtual 179, 3) := by decide +kernel
theorem dX5_forgetNight_21 : decode cX5_forgetNight 21 = .ok (.checkcast 107, 3) := by decide +kernel
theorem dX5_forgetNight_24 : decode cX5_forgetNight 24 = .ok (.getfield 135, 3) := by decide +kernel
theorem dX5_forgetNight_27 : decode cX5_forgetNight 27 = .ok (.iconst 0, 1) := by decide +kernel
theorem dX5_forgetNight_28 : decode cX5_forgetNight 28 = .ok (.putfield 139, 3) := by decide +kernel
theorem dX5_forgetNight_31 : decode cX5_forgetNight 31 = .ok (.iinc 1 1, 3) := by decide +kernel
theorem dX5_forgetNight_34 : decode cX5_forgetNight 34 = .ok (.goto (-32), 3) := by decide +kernel
theorem dX5_forgetNight_37 : decode cX5_forgetNight 37 = .ok (.aload_n 0, 1) := by decide +kernel
theorem dX5_forgetNight_38 : decode cX5_forgetNight 38 = .ok (.getfield 42, 3) := by decide +kernel
theorem dX5_forgetNight_41 : decode cX5_forgetNight 41 = .ok (.iconst 0, 1) := by decide +kernel
theorem dX5_forgetNight_42 : decode cX5_forgetNight 42 = .ok (.putfield 116, 3) := by decide +kernel
theorem dX5_forgetNight_45 : decode cX5_forgetNight 45 = .ok (.return_, 1) := by decide +kernel
theorem dJ9_abs_0f7a4_0 : decode cJ9_abs_0f7a4 0 = .ok (.iload_n 0, 1) := by decide +kernel
theorem dJ9_abs_0f7a4_1 : decode cJ9_abs_0f7a4 1 = .ok (.ifCond .ge 8, 3) := by decide +kernel
theorem dJ9_abs_0f7a4_4 : decode cJ9_abs_0f7a4 4 = .ok (.iload_n 0, 1) := by decide +kernel
theorem dJ9_abs_0f7a4_5 : decode cJ9_abs_0f7a4 5 = .ok (.ineg, 1) := by decide +kernel
theorem dJ9_abs_0f7a4_6 : decode cJ9_abs_0f7a4 6 = .ok (.goto 4, 3) := by decide +kernel
theorem dJ9_abs_0f7a4_9 : decode cJ9_abs_0f7a4 9 = .ok (.iload_n 0, 1) := by decide +kernel
theorem dJ9_abs_0f7a4_10 : decode cJ9_abs_0f7a4 10 = .ok (.ireturn, 1) := by decide +kernel
theorem dJ9_max_7cf53_0 : decode cJ9_max_7cf53 0 = .ok (.iload_n 0, 1) := by decide +kernel
theorem dJ9_max_7cf53_1 : decode cJ9_max_7cf53 1 = .ok (.iload_n 1, 1) := by decide +kernel
theorem dJ9_max_7cf53_2 : decode cJ9_max_7cf53 2 = .ok (.if_icmp .lt 7, 3) := by decide +kernel
theorem dJ9_max_7cf53_5 : decode cJ9_max_7cf53 5 = .ok (.iload_n 0, 1) := by decide +kernel
theorem dJ9_max_7cf53_6 : decode cJ9_max_7cf53 6 = .ok (.goto 4, 3) := by decide +kernel
theorem dJ9_max_7cf53_9 : decode cJ9_max_7cf53 9 = .ok (.iload_n 1, 1) := by decide +kernel
theorem dJ9_max_7cf53_10 : decode cJ9_max_7cf53 10 = .ok (.ireturn, 1) := by decide +kernel
theorem dJ9_min_7cf53_0 : decode cJ9_min_7cf53 0 = .ok (.iload_n 0, 1) := by decide +kernel
theorem dJ9_min_7cf53_1 : decode cJ9_min_7cf53 1 = .ok (.iload_n 1, 1) := by decide +kernel
theorem dJ9_min_7cf53_2 : decode cJ9_min_7cf53 2 = .ok (.if_icmp .gt 7, 3) := by decide +kernel
theorem dJ9_min_7cf53_5 : decode cJ9_min_7cf53 5 = .ok (.iload_n 0, 1) := by decide +kernel
theorem dJ9_min_7cf53_6 : decode cJ9_min_7cf53 6 = .ok (.goto 4, 3) := by decide +kernel
theorem dJ9_min_7cf53_9 : decode cJ9_min_7cf53 9 = .ok (.iload_n 1, 1) := by decide +kernel
theorem dJ9_min_7cf53_10 : decode cJ9_min_7cf53 10 = .ok (.ireturn, 1) := by decide +kernel
theorem dJxa1e45_init_da8c8_0 : decode cJxa1e45_init_da8c8 0 = .ok (.aload_n 0, 1) := by decide +kernel
theorem dJxa1e45_init_da8c8_1 : decode cJxa1e45_init_da8c8 1 = .ok (.invokespecial 1, 3) := by decide +kernel
theorem dJxa1e45_init_da8c8_4 : decode cJxa1e45_init_da8c8 4 = .ok (.return_, 1) := by decide +kernel
theorem dJxc12de_init_da8c8_0 : decode cJxc12de_init_da8c8 0 = .ok (.aload_n 0, 1) := by decide +kernel
theorem dJxc12de_init_da8c8_1 : decode cJxc12de_init_da8c8 1 = .ok (.invokespecial 1, 3) := by decide +kernel
theorem dJxc12de_init_da8c8_4 : decode cJxc12de_init_da8c8 4 = .ok (.aload_n 0, 1) := by decide +kernel
theorem dJxc12de_init_da8c8_5 : decode cJxc12de_init_da8c8 5 = .ok (.iconst 0, 1) := by decide +kernel
theorem dJxc12de_init_da8c8_6 : decode cJxc12de_init_da8c8 6 = .ok (.putfield 7, 3) := by decide +kernel
theorem dJxc12de_init_da8c8_9 : decode cJxc12de_init_da8c8 9 = .ok (.return_, 1) := by decide +kernel
theorem dJx4a65c_init_da8c8_0 : decode cJx4a65c_init_da8c8 0 = .ok (.aload_n 0, 1) := by decide +kernel
theorem dJx4a65c_init_da8c8_1 : decode cJx4a65c_init_da8c8 1 = .ok (.invokespecial 1, 3) := by decide +kernel
theorem dJx4a65c_init_da8c8_4 : decode cJx4a65c_init_da8c8 4 = .ok (.aload_n 0, 1) := by decide +kernel
theorem dJx4a65c_init_da8c8_5 : decode cJx4a65c_init_da8c8 5 = .ok (.getstatic 39, 3) := by decide +kernel
theorem dJx4a65c_init_da8c8_8 : decode cJx4a65c_init_da8c8 8 = .ok (.putfield 9, 3) := by decide +kernel
theorem dJx4a65c_init_da8c8_11 : decode cJx4a65c_init_da8c8 11 = .ok (.return_, 1) := by decide +kernel
theorem dJx4a65c_grow_92f84_0 : decode cJx4a65c_grow_92f84 0 = .ok (.aload_n 0, 1) := by decide +kernel
theorem dJx4a65c_grow_92f84_1 : decode cJx4a65c_grow_92f84 1 = .ok (.getfield 9, 3) := by decide +kernel
theorem dJx4a65c_grow_92f84_4 : decode cJx4a65c_grow_92f84 4 = .ok (.arraylength, 1) := by decide +kernel
theorem dJx4a65c_grow_92f84_5 : decode cJx4a65c_grow_92f84 5 = .ok (.istore_n 2, 1) := by decide +kernel
theorem dJx4a65c_grow_92f84_6 : decode cJx4a65c_grow_92f84 6 = .ok (.iload_n 2, 1) := by decide +kernel
theorem dJx4a65c_grow_92f84_7 : decode cJx4a65c_grow_92f84 7 = .ok (.ifCond .gt 13, 3) := by decide +kernel
theorem dJx4a65c_grow_92f84_10 : decode cJx4a65c_grow_92f84 10 = .ok (.aload_n 0, 1) := by decide +kernel
theorem dJx4a65c_grow_92f84_11 : decode cJx4a65c_grow_92f84 11 = .ok (.getfield 9, 3) := by decide +kernel
theorem dJx4a65c_grow_92f84_14 : decode cJx4a65c_grow_92f84 14 = .ok (.getstatic 39, 3) := by decide +kernel
theorem dJx4a65c_grow_92f84_17 : decode cJx4a65c_grow_92f84 17 = .ok (.if_acmp .eq 28, 3) := by decide +kernel
theorem dJx4a65c_grow_92f84_20 : decode cJx4a65c_grow_92f84 20 = .ok (.iload_n 2, 1) := by decide +kernel
theorem dJx4a65c_grow_92f84_21 : decode cJx4a65c_grow_92f84 21 = .ok (.iload_n 1, 1) := by decide +kernel
theorem dJx4a65c_grow_92f84_22 : decode cJx4a65c_grow_92f84 22 = .ok (.iload_n 2, 1) := by decide +kernel
theorem dJx4a65c_grow_92f84_23 : decode cJx4a65c_grow_92f84 23 = .ok (.isub, 1) := by decide +kernel
theorem dJx4a65c_grow_92f84_24 : decode cJx4a65c_grow_92f84 24 = .ok (.iload_n 2, 1) := by decide +kernel
theorem dJx4a65c_grow_92f84_25 : decode cJx4a65c_grow_92f84 25 = .ok (.iconst 1, 1) := by decide +kernel
theorem dJx4a65c_grow_92f84_26 : decode cJx4a65c_grow_92f84 26 = .ok (.ishr, 1) := by decide +kernel
theorem dJx4a65c_grow_92f84_27 : decode cJx4a65c_grow_92f84 27 = .ok (.invokestatic 73, 3) := by decide +kernel
theorem dJx4a65c_grow_92f84_30 : decode cJx4a65c_grow_92f84 30 = .ok (.istore_n 3, 1) := by decide +kernel
theorem dJx4a65c_grow_92f84_31 : decode cJx4a65c_grow_92f84 31 = .ok (.aload_n 0, 1) := by decide +kernel
theorem dJx4a65c_grow_92f84_32 : decode cJx4a65c_grow_92f84 32 = .ok (.aload_n 0, 1) := by decide +kernel
theorem dJx4a65c_grow_92f84_33 : decode cJx4a65c_grow_92f84 33 = .ok (.getfield 9, 3) := by decide +kernel
theorem dJx4a65c_grow_92f84_36 : decode cJx4a65c_grow_92f84 36 = .ok (.iload_n 3, 1) := by decide +kernel
theorem dJx4a65c_grow_92f84_37 : decode cJx4a65c_grow_92f84 37 = .ok (.invokestatic 66, 3) := by decide +kernel
theorem dJx4a65c_grow_92f84_40 : decode cJx4a65c_grow_92f84 40 = .ok (.dup_x1, 1) := by decide +kernel
theorem dJx4a65c_grow_92f84_41 : decode cJx4a65c_grow_92f84 41 = .ok (.putfield 9, 3) := by decide +kernel
theorem dJx4a65c_grow_92f84_44 : decode cJx4a65c_grow_92f84 44 = .ok (.areturn, 1) := by decide +kernel
theorem dJx4a65c_grow_92f84_45 : decode cJx4a65c_grow_92f84 45 = .ok (.aload_n 0, 1) := by decide +kernel
theorem dJx4a65c_grow_92f84_46 : decode cJx4a65c_grow_92f84 46 = .ok (.bipush 10, 2) := by decide +kernel
theorem dJx4a65c_grow_92f84_48 : decode cJx4a65c_grow_92f84 48 = .ok (.iload_n 1, 1) := by decide +kernel
theorem dJx4a65c_grow_92f84_49 : decode cJx4a65c_grow_92f84 49 = .ok (.invokestatic 79, 3) := by decide +kernel
theorem dJx4a65c_grow_92f84_52 : decode cJx4a65c_grow_92f84 52 = .ok (.anewarray 7, 3) := by decide +kernel
theorem dJx4a65c_grow_92f84_55 : decode cJx4a65c_grow_92f84 55 = .ok (.dup_x1, 1) := by decide +kernel
theorem dJx4a65c_grow_92f84_56 : decode cJx4a65c_grow_92f84 56 = .ok (.putfield 9, 3) := by decide +kernel
theorem dJx4a65c_grow_92f84_59 : decode cJx4a65c_grow_92f84 59 = .ok (.areturn, 1) := by decide +kernel
theorem dJx4a65c_grow_d5877_0 : decode cJx4a65c_grow_d5877 0 = .ok (.aload_n 0, 1) := by decide +kernel
theorem dJx4a65c_grow_d5877_1 : decode cJx4a65c_grow_d5877 1 = .ok (.aload_n 0, 1) := by decide +kernel
theorem dJx4a65c_grow_d5877_2 : decode cJx4a65c_grow_d5877 2 = .ok (.getfield 48, 3) := by decide +kernel
theorem dJx4a65c_grow_d5877_5 : decode cJx4a65c_grow_d5877 5 = .ok (.iconst 1, 1) := by decide +kernel
theorem dJx4a65c_grow_d5877_6 : decode cJx4a65c_grow_d5877 6 = .ok (.iadd, 1) := by decide +kernel
theorem dJx4a65c_grow_d5877_7 : decode cJx4a65c_grow_d5877 7 = .ok (.invokevirtual 69, 3) := by decide +kernel
theorem dJx4a65c_grow_d5877_10 : decode cJx4a65c_grow_d5877 10 = .ok (.areturn, 1) := by decide +kernel
theorem dJx4a65c_size_8abf5_0 : decode cJx4a65c_size_8abf5 0 = .ok (.aload_n 0, 1) := by decide +kernel
theorem dJx4a65c_size_8abf5_1 : decode cJx4a65c_size_8abf5 1 = .ok (.getfield 48, 3) := by decide +kernel
theorem dJx4a65c_size_8abf5_4 : decode cJx4a65c_size_8abf5 4 = .ok (.ireturn, 1) := by decide +kernel
theorem dJx4a65c_elementData_915e3_0 : decode cJx4a65c_elementData_915e3 0 = .ok (.aload_n 0, 1) := by decide +kernel
theorem dJx4a65c_elementData_915e3_1 : decode cJx4a65c_elementData_915e3 1 = .ok (.getfield 9, 3) := by decide +kernel
theorem dJx4a65c_elementData_915e3_4 : decode cJx4a65c_elementData_915e3 4 = .ok (.iload_n 1, 1) := by decide +kernel
theorem dJx4a65c_elementData_915e3_5 : decode cJx4a65c_elementData_915e3 5 = .ok (.aaload, 1) := by decide +kernel
theorem dJx4a65c_elementData_915e3_6 : decode cJx4a65c_elementData_915e3 6 = .ok (.areturn, 1) := by decide +kernel
theorem dJx4a65c_get_915e3_0 : decode cJx4a65c_get_915e3 0 = .ok (.iload_n 1, 1) := by decide +kernel
theorem dJx4a65c_get_915e3_1 : decode cJx4a65c_get_915e3 1 = .ok (.aload_n 0, 1) := by decide +kernel
theorem dJx4a65c_get_915e3_2 : decode cJx4a65c_get_915e3 2 = .ok (.getfield 48, 3) := by decide +kernel
theorem dJx4a65c_get_915e3_5 : decode cJx4a65c_get_915e3 5 = .ok (.invokestatic 118, 3) := by decide +kernel
theorem dJx4a65c_get_915e3_8 : decode cJx4a65c_get_915e3 8 = .ok (.pop, 1) := by decide +kernel
theorem dJx4a65c_get_915e3_9 : decode cJx4a65c_get_915e3 9 = .ok (.aload_n 0, 1) := by decide +kernel
theorem dJx4a65c_get_915e3_10 : decode cJx4a65c_get_915e3 10 = .ok (.iload_n 1, 1) := by decide +kernel
theorem dJx4a65c_get_915e3_11 : decode cJx4a65c_get_915e3 11 = .ok (.invokevirtual 123, 3) := by decide +kernel
theorem dJx4a65c_get_915e3_14 : decode cJx4a65c_get_915e3 14 = .ok (.areturn, 1) := by decide +kernel
theorem dJx4a65c_add_72be8_0 : decode cJx4a65c_add_72be8 0 = .ok (.iload_n 3, 1) := by decide +kernel
theorem dJx4a65c_add_72be8_1 : decode cJx4a65c_add_72be8 1 = .ok (.aload_n 2, 1) := by decide +kernel
theorem dJx4a65c_add_72be8_2 : decode cJx4a65c_add_72be8 2 = .ok (.arraylength, 1) := by decide +kernel
theorem dJx4a65c_add_72be8_3 : decode cJx4a65c_add_72be8 3 = .ok (.if_icmp .ne 8, 3) := by decide +kernel
theorem dJx4a65c_add_72be8_6 : decode cJx4a65c_add_72be8 6 = .ok (.aload_n 0, 1) := by decide +kernel
theorem dJx4a65c_add_72be8_7 : decode cJx4a65c_add_72be8 7 = .ok (.invokevirtual 129, 3) := by decide +kernel
theorem dJx4a65c_add_72be8_10 : decode cJx4a65c_add_72be8 10 = .ok (.astore_n 2, 1) := by decide +kernel
theorem dJx4a65c_add_72be8_11 : decode cJx4a65c_add_72be8 11 = .ok (.aload_n 2, 1) := by decide +kernel
theorem dJx4a65c_add_72be8_12 : decode cJx4a65c_add_72be8 12 = .ok (.iload_n 3, 1) := by decide +kernel
theorem dJx4a65c_add_72be8_13 : decode cJx4a65c_add_72be8 13 = .ok (.aload_n 1, 1) := by decide +kernel
theorem dJx4a65c_add_72be8_14 : decode cJx4a65c_add_72be8 14 = .ok (.aastore, 1) := by decide +kernel
theorem dJx4a65c_add_72be8_15 : decode cJx4a65c_add_72be8 15 = .ok (.aload_n 0, 1) := by decide +kernel
theorem dJx4a65c_add_72be8_16 : decode cJx4a65c_add_72be8 16 = .ok (.iload_n 3, 1) := by decide +kernel
theorem dJx4a65c_add_72be8_17 : decode cJx4a65c_add_72be8 17 = .ok (.iconst 1, 1) := by decide +kernel
theorem dJx4a65c_add_72be8_18 : decode cJx4a65c_add_72be8 18 = .ok (.iadd, 1) := by decide +kernel
theorem dJx4a65c_add_72be8_19 : decode cJx4a65c_add_72be8 19 = .ok (.putfield 48, 3) := by decide +kernel
theorem dJx4a65c_add_72be8_22 : decode cJx4a65c_add_72be8 22 = .ok (.return_, 1) := by decide +kernel
theorem dJx4a65c_add_9ea2d_0 : decode cJx4a65c_add_9ea2d 0 = .ok (.aload_n 0, 1) := by decide +kernel
theorem dJx4a65c_add_9ea2d_1 : decode cJx4a65c_add_9ea2d 1 = .ok (.dup, 1) := by decide +kernel
theorem dJx4a65c_add_9ea2d_2 : decode cJx4a65c_add_9ea2d 2 = .ok (.getfield 63, 3) := by decide +kernel
theorem dJx4a65c_add_9ea2d_5 : decode cJx4a65c_add_9ea2d 5 = .ok (.iconst 1, 1) := by decide +kernel
theorem dJx4a65c_add_9ea2d_6 : decode cJx4a65c_add_9ea2d 6 = .ok (.iadd, 1) := by decide +kernel
theorem dJx4a65c_add_9ea2d_7 : decode cJx4a65c_add_9ea2d 7 = .ok (.putfield 63, 3) := by decide +kernel
theorem dJx4a65c_add_9ea2d_10 : decode cJx4a65c_add_9ea2d 10 = .ok (.aload_n 0, 1) := by decide +kernel
theorem dJx4a65c_add_9ea2d_11 : decode cJx4a65c_add_9ea2d 11 = .ok (.aload_n 1, 1) := by decide +kernel
theorem dJx4a65c_add_9ea2d_12 : decode cJx4a65c_add_9ea2d 12 = .ok (.aload_n 0, 1) := by decide +kernel
theorem dJx4a65c_add_9ea2d_13 : decode cJx4a65c_add_9ea2d 13 = .ok (.getfield 9, 3) := by decide +kernel
theorem dJx4a65c_add_9ea2d_16 : decode cJx4a65c_add_9ea2d 16 = .ok (.aload_n 0, 1) := by decide +kernel
theorem dJx4a65c_add_9ea2d_17 : decode cJx4a65c_add_9ea2d 17 = .ok (.getfield 48, 3) := by decide +kernel
theorem dJx4a65c_add_9ea2d_20 : decode cJx4a65c_add_9ea2d 20 = .ok (.invokevirtual 131, 3) := by decide +kernel
theorem dJx4a65c_add_9ea2d_23 : decode cJx4a65c_add_9ea2d 23 = .ok (.iconst 1, 1) := by decide +kernel
theorem dJx4a65c_add_9ea2d_24 : decode cJx4a65c_add_9ea2d 24 = .ok (.ireturn, 1) := by decide +kernel
theorem dJ7_fill_53178_0 : decode cJ7_fill_53178 0 = .ok (.iconst 0, 1) := by decide +kernel
theorem dJ7_fill_53178_1 : decode cJ7_fill_53178 1 = .ok (.istore_n 2, 1) := by decide +kernel
theorem dJ7_fill_53178_2 : decode cJ7_fill_53178 2 = .ok (.aload_n 0, 1) := by decide +kernel
theorem dJ7_fill_53178_3 : decode cJ7_fill_53178 3 = .ok (.arraylength, 1) := by decide +kernel
theorem dJ7_fill_53178_4 : decode cJ7_fill_53178 4 = .ok (.istore_n 3, 1) := by decide +kernel
theorem dJ7_fill_53178_5 : decode cJ7_fill_53178 5 = .ok (.iload_n 2, 1) := by decide +kernel
theorem dJ7_fill_53178_6 : decode cJ7_fill_53178 6 = .ok (.iload_n 3, 1) := by decide +kernel
theorem dJ7_fill_53178_7 : decode cJ7_fill_53178 7 = .ok (.if_icmp .ge 13, 3) := by decide +kernel
theorem dJ7_fill_53178_10 : decode cJ7_fill_53178 10 = .ok (.aload_n 0, 1) := by decide +kernel
theorem dJ7_fill_53178_11 : decode cJ7_fill_53178 11 = .ok (.iload_n 2, 1) := by decide +kernel
theorem dJ7_fill_53178_12 : decode cJ7_fill_53178 12 = .ok (.iload_n 1, 1) := by decide +kernel
theorem dJ7_fill_53178_13 : decode cJ7_fill_53178 13 = .ok (.iastore, 1) := by decide +kernel
theorem dJ7_fill_53178_14 : decode cJ7_fill_53178 14 = .ok (.iinc 2 1, 3) := by decide +kernel
theorem dJ7_fill_53178_17 : decode cJ7_fill_53178 17 = .ok (.goto (-12), 3) := by decide +kernel
theorem dJ7_fill_53178_20 : decode cJ7_fill_53178 20 = .ok (.return_, 1) := by decide +kernel
theorem dJ7_copyOf_1904c_0 : decode cJ7_copyOf_1904c 0 = .ok (.aload_n 0, 1) := by decide +kernel
theorem dJ7_copyOf_1904c_1 : decode cJ7_copyOf_1904c 1 = .ok (.iload_n 1, 1) := by decide +kernel
theorem dJ7_copyOf_1904c_2 : decode cJ7_copyOf_1904c 2 = .ok (.aload_n 0, 1) := by decide +kernel
theorem dJ7_copyOf_1904c_3 : decode cJ7_copyOf_1904c 3 = .ok (.invokevirtual 86, 3) := by decide +kernel
theorem dJ7_copyOf_1904c_6 : decode cJ7_copyOf_1904c 6 = .ok (.invokestatic 300, 3) := by decide +kernel
theorem dJ7_copyOf_1904c_9 : decode cJ7_copyOf_1904c 9 = .ok (.areturn, 1) := by decide +kernel
theorem dJ7_copyOf_6403c_0 : decode cJ7_copyOf_6403c 0 = .ok (.aload_n 2, 1) := by decide +kernel
theorem dJ7_copyOf_6403c_1 : decode cJ7_copyOf_6403c 1 = .ok (.ldc 110, 2) := by decide +kernel
theorem dJ7_copyOf_6403c_3 : decode cJ7_copyOf_6403c 3 = .ok (.if_acmp .ne 10, 3) := by decide +kernel
theorem dJ7_copyOf_6403c_6 : decode cJ7_copyOf_6403c 6 = .ok (.iload_n 1, 1) := by decide +kernel
theorem dJ7_copyOf_6403c_7 : decode cJ7_copyOf_6403c 7 = .ok (.anewarray 2, 3) := by decide +kernel
theorem dJ7_copyOf_6403c_10 : decode cJ7_copyOf_6403c 10 = .ok (.goto 14, 3) := by decide +kernel
theorem dJ7_copyOf_6403c_13 : decode cJ7_copyOf_6403c 13 = .ok (.aload_n 2, 1) := by decide +kernel
theorem dJ7_copyOf_6403c_14 : decode cJ7_copyOf_6403c 14 = .ok (.invokevirtual 90, 3) := by decide +kernel
theorem dJ7_copyOf_6403c_17 : decode cJ7_copyOf_6403c 17 = .ok (.iload_n 1, 1) := by decide +kernel
theorem dJ7_copyOf_6403c_18 : decode cJ7_copyOf_6403c 18 = .ok (.invokestatic 95, 3) := by decide +kernel
theorem dJ7_copyOf_6403c_21 : decode cJ7_copyOf_6403c 21 = .ok (.checkcast 110, 3) := by decide +kernel
theorem dJ7_copyOf_6403c_24 : decode cJ7_copyOf_6403c 24 = .ok (.astore_n 3, 1) := by decide +kernel
theorem dJ7_copyOf_6403c_25 : decode cJ7_copyOf_6403c 25 = .ok (.aload_n 0, 1) := by decide +kernel
theorem dJ7_copyOf_6403c_26 : decode cJ7_copyOf_6403c 26 = .ok (.iconst 0, 1) := by decide +kernel
theorem dJ7_copyOf_6403c_27 : decode cJ7_copyOf_6403c 27 = .ok (.aload_n 3, 1) := by decide +kernel
theorem dJ7_copyOf_6403c_28 : decode cJ7_copyOf_6403c 28 = .ok (.iconst 0, 1) := by decide +kernel
theorem dJ7_copyOf_6403c_29 : decode cJ7_copyOf_6403c 29 = .ok (.aload_n 0, 1) := by decide +kernel
theorem dJ7_copyOf_6403c_30 : decode cJ7_copyOf_6403c 30 = .ok (.arraylength, 1) := by decide +kernel
theorem dJ7_copyOf_6403c_31 : decode cJ7_copyOf_6403c 31 = .ok (.iload_n 1, 1) := by decide +kernel
theorem dJ7_copyOf_6403c_32 : decode cJ7_copyOf_6403c 32 = .ok (.invokestatic 304, 3) := by decide +kernel
theorem dJ7_copyOf_6403c_35 : decode cJ7_copyOf_6403c 35 = .ok (.invokestatic 150, 3) := by decide +kernel
theorem dJ7_copyOf_6403c_38 : decode cJ7_copyOf_6403c 38 = .ok (.aload_n 3, 1) := by decide +kernel
theorem dJ7_copyOf_6403c_39 : decode cJ7_copyOf_6403c 39 = .ok (.areturn, 1) := by decide +kernel
theorem dJ15_checkIndex_7cf53_0 : decode cJ15_checkIndex_7cf53 0 = .ok (.iload_n 0, 1) := by decide +kernel
theorem dJ15_checkIndex_7cf53_1 : decode cJ15_checkIndex_7cf53 1 = .ok (.iload_n 1, 1) := by decide +kernel
theorem dJ15_checkIndex_7cf53_2 : decode cJ15_checkIndex_7cf53 2 = .ok (.aconst_null, 1) := by decide +kernel
theorem dJ15_checkIndex_7cf53_3 : decode cJ15_checkIndex_7cf53 3 = .ok (.invokestatic 105, 3) := by decide +kernel
theorem dJ15_checkIndex_7cf53_6 : decode cJ15_checkIndex_7cf53 6 = .ok (.ireturn, 1) := by decide +kernel
theorem dJ8_newLength_cabcc_0 : decode cJ8_newLength_cabcc 0 = .ok (.iload_n 0, 1) := by decide +kernel
theorem dJ8_newLength_cabcc_1 : decode cJ8_newLength_cabcc 1 = .ok (.iload_n 1, 1) := by decide +kernel
theorem dJ8_newLength_cabcc_2 : decode cJ8_newLength_cabcc 2 = .ok (.iload_n 2, 1) := by decide +kernel
theorem dJ8_newLength_cabcc_3 : decode cJ8_newLength_cabcc 3 = .ok (.invokestatic 194, 3) := by decide +kernel
theorem dJ8_newLength_cabcc_6 : decode cJ8_newLength_cabcc 6 = .ok (.iadd, 1) := by decide +kernel
theorem dJ8_newLength_cabcc_7 : decode cJ8_newLength_cabcc 7 = .ok (.istore_n 3, 1) := by decide +kernel
theorem dJ8_newLength_cabcc_8 : decode cJ8_newLength_cabcc 8 = .ok (.iconst 0, 1) := by decide +kernel
theorem dJ8_newLength_cabcc_9 : decode cJ8_newLength_cabcc 9 = .ok (.iload_n 3, 1) := by decide +kernel
theorem dJ8_newLength_cabcc_10 : decode cJ8_newLength_cabcc 10 = .ok (.if_icmp .ge 11, 3) := by decide +kernel
theorem dJ8_newLength_cabcc_13 : decode cJ8_newLength_cabcc 13 = .ok (.iload_n 3, 1) := by decide +kernel
theorem dJ8_newLength_cabcc_14 : decode cJ8_newLength_cabcc 14 = .ok (.ldc 200, 2) := by decide +kernel
theorem dJ8_newLength_cabcc_16 : decode cJ8_newLength_cabcc 16 = .ok (.if_icmp .gt 5, 3) := by decide +kernel
theorem dJ8_newLength_cabcc_19 : decode cJ8_newLength_cabcc 19 = .ok (.iload_n 3, 1) := by decide +kernel
theorem dJ8_newLength_cabcc_20 : decode cJ8_newLength_cabcc 20 = .ok (.ireturn, 1) := by decide +kernel
theorem dJ8_newLength_cabcc_21 : decode cJ8_newLength_cabcc 21 = .ok (.iload_n 0, 1) := by decide +kernel
theorem dJ8_newLength_cabcc_22 : decode cJ8_newLength_cabcc 22 = .ok (.iload_n 1, 1) := by decide +kernel
theorem dJ8_newLength_cabcc_23 : decode cJ8_newLength_cabcc 23 = .ok (.invokestatic 201, 3) := by decide +kernel
theorem dJ8_newLength_cabcc_26 : decode cJ8_newLength_cabcc 26 = .ok (.ireturn, 1) := by decide +kernel
theorem dJ8_hugeLength_7cf53_0 : decode cJ8_hugeLength_7cf53 0 = .ok (.iload_n 0, 1) := by decide +kernel
theorem dJ8_hugeLength_7cf53_1 : decode cJ8_hugeLength_7cf53 1 = .ok (.iload_n 1, 1) := by decide +kernel
theorem dJ8_hugeLength_7cf53_2 : decode cJ8_hugeLength_7cf53 2 = .ok (.iadd, 1) := by decide +kernel
theorem dJ8_hugeLength_7cf53_3 : decode cJ8_hugeLength_7cf53 3 = .ok (.istore_n 2, 1) := by decide +kernel
theorem dJ8_hugeLength_7cf53_4 : decode cJ8_hugeLength_7cf53 4 = .ok (.iload_n 2, 1) := by decide +kernel
theorem dJ8_hugeLength_7cf53_5 : decode cJ8_hugeLength_7cf53 5 = .ok (.ifCond .ge 44, 3) := by decide +kernel
theorem dJ8_hugeLength_7cf53_8 : decode cJ8_hugeLength_7cf53 8 = .ok (.new 204, 3) := by decide +kernel
theorem dJ8_hugeLength_7cf53_11 : decode cJ8_hugeLength_7cf53 11 = .ok (.dup, 1) := by decide +kernel
theorem dJ8_hugeLength_7cf53_12 : decode cJ8_hugeLength_7cf53 12 = .ok (.new 89, 3) := by decide +kernel
theorem dJ8_hugeLength_7cf53_15 : decode cJ8_hugeLength_7cf53 15 = .ok (.dup, 1) := by decide +kernel
theorem dJ8_hugeLength_7cf53_16 : decode cJ8_hugeLength_7cf53 16 = .ok (.invokespecial 91, 3) := by decide +kernel
theorem dJ8_hugeLength_7cf53_19 : decode cJ8_hugeLength_7cf53 19 = .ok (.ldc 206, 2) := by decide +kernel
theorem dJ8_hugeLength_7cf53_21 : decode cJ8_hugeLength_7cf53 21 = .ok (.invokevirtual 94, 3) := by decide +kernel
theorem dJ8_hugeLength_7cf53_24 : decode cJ8_hugeLength_7cf53 24 = .ok (.iload_n 0, 1) := by decide +kernel
theorem dJ8_hugeLength_7cf53_25 : decode cJ8_hugeLength_7cf53 25 = .ok (.invokevirtual 98, 3) := by decide +kernel
theorem dJ8_hugeLength_7cf53_28 : decode cJ8_hugeLength_7cf53 28 = .ok (.ldc 208, 2) := by decide +kernel
theorem dJ8_hugeLength_7cf53_30 : decode cJ8_hugeLength_7cf53 30 = .ok (.invokevirtual 94, 3) := by decide +kernel
theorem dJ8_hugeLength_7cf53_33 : decode cJ8_hugeLength_7cf53 33 = .ok (.iload_n 1, 1) := by decide +kernel
theorem dJ8_hugeLength_7cf53_34 : decode cJ8_hugeLength_7cf53 34 = .ok (.invokevirtual 98, 3) := by decide +kernel
theorem dJ8_hugeLength_7cf53_37 : decode cJ8_hugeLength_7cf53 37 = .ok (.ldc 210, 2) := by decide +kernel
theorem dJ8_hugeLength_7cf53_39 : decode cJ8_hugeLength_7cf53 39 = .ok (.invokevirtual 94, 3) := by decide +kernel
theorem dJ8_hugeLength_7cf53_42 : decode cJ8_hugeLength_7cf53 42 = .ok (.invokevirtual 101, 3) := by decide +kernel
theorem dJ8_hugeLength_7cf53_45 : decode cJ8_hugeLength_7cf53 45 = .ok (.invokespecial 212, 3) := by decide +kernel
theorem dJ8_hugeLength_7cf53_48 : decode cJ8_hugeLength_7cf53 48 = .ok (.athrow, 1) := by decide +kernel
theorem dJ8_hugeLength_7cf53_49 : decode cJ8_hugeLength_7cf53 49 = .ok (.iload_n 2, 1) := by decide +kernel
theorem dJ8_hugeLength_7cf53_50 : decode cJ8_hugeLength_7cf53 50 = .ok (.ldc 200, 2) := by decide +kernel
theorem dJ8_hugeLength_7cf53_52 : decode cJ8_hugeLength_7cf53 52 = .ok (.if_icmp .gt 6, 3) := by decide +kernel
theorem dJ8_hugeLength_7cf53_55 : decode cJ8_hugeLength_7cf53 55 = .ok (.ldc 200, 2) := by decide +kernel
theorem dJ8_hugeLength_7cf53_57 : decode cJ8_hugeLength_7cf53 57 = .ok (.ireturn, 1) := by decide +kernel
theorem dJ8_hugeLength_7cf53_58 : decode cJ8_hugeLength_7cf53 58 = .ok (.iload_n 2, 1) := by decide +kernel
theorem dJ8_hugeLength_7cf53_59 : decode cJ8_hugeLength_7cf53 59 = .ok (.ireturn, 1) := by decide +kernel
theorem dJ3_checkIndex_8e157_0 : decode cJ3_checkIndex_8e157 0 = .ok (.iload_n 0, 1) := by decide +kernel
theorem dJ3_checkIndex_8e157_1 : decode cJ3_checkIndex_8e157 1 = .ok (.ifCond .lt 8, 3) := by decide +kernel
theorem dJ3_checkIndex_8e157_4 : decode cJ3_checkIndex_8e157 4 = .ok (.iload_n 0, 1) := by decide +kernel
theorem dJ3_checkIndex_8e157_5 : decode cJ3_checkIndex_8e157 5 = .ok (.iload_n 1, 1) := by decide +kernel
theorem dJ3_checkIndex_8e157_6 : decode cJ3_checkIndex_8e157 6 = .ok (.if_icmp .lt 10, 3) := by decide +kernel
theorem dJ3_checkIndex_8e157_9 : decode cJ3_checkIndex_8e157 9 = .ok (.aload_n 2, 1) := by decide +kernel
theorem dJ3_checkIndex_8e157_10 : decode cJ3_checkIndex_8e157 10 = .ok (.iload_n 0, 1) := by decide +kernel
theorem dJ3_checkIndex_8e157_11 : decode cJ3_checkIndex_8e157 11 = .ok (.iload_n 1, 1) := by decide +kernel
theorem dJ3_checkIndex_8e157_12 : decode cJ3_checkIndex_8e157 12 = .ok (.invokestatic 95, 3) := by decide +kernel
theorem dJ3_checkIndex_8e157_15 : decode cJ3_checkIndex_8e157 15 = .ok (.athrow, 1) := by decide +kernel
theorem dJ3_checkIndex_8e157_16 : decode cJ3_checkIndex_8e157 16 = .ok (.iload_n 0, 1) := by decide +kernel
theorem dJ3_checkIndex_8e157_17 : decode cJ3_checkIndex_8e157 17 = .ok (.ireturn, 1) := by decide +kernel
theorem dL_below_0 : decode cL_below 0 = .ok (.iload_n 0, 1) := by decide +kernel
theorem dL_below_1 : decode cL_below 1 = .ok (.ldc 7, 2) := by decide +kernel
theorem dL_below_3 : decode cL_below 3 = .ok (.iand, 1) := by decide +kernel
theorem dL_below_4 : decode cL_below 4 = .ok (.iload_n 1, 1) := by decide +kernel
theorem dL_below_5 : decode cL_below 5 = .ok (.irem, 1) := by decide +kernel
theorem dL_below_6 : decode cL_below 6 = .ok (.ireturn, 1) := by decide +kernel
theorem dL_cell_0 : decode cL_cell 0 = .ok (.iload_n 1, 1) := by decide +kernel
theorem dL_cell_1 : decode cL_cell 1 = .ok (.aload_n 0, 1) := by decide +kernel
theorem dL_cell_2 : decode cL_cell 2 = .ok (.arraylength, 1) := by decide +kernel
theorem dL_cell_3 : decode cL_cell 3 = .ok (.if_icmp .ge 9, 3) := by decide +kernel
theorem dL_cell_6 : decode cL_cell 6 = .ok (.aload_n 0, 1) := by decide +kernel
theorem dL_cell_7 : decode cL_cell 7 = .ok (.iload_n 1, 1) := by decide +kernel
theorem dL_cell_8 : decode cL_cell 8 = .ok (.iaload, 1) := by decide +kernel
theorem dL_cell_9 : decode cL_cell 9 = .ok (.goto 9, 3) := by decide +kernel
theorem dL_cell_12 : decode cL_cell 12 = .ok (.ldc 8, 2) := by decide +kernel
theorem dL_cell_14 : decode cL_cell 14 = .ok (.iload_n 1, 1) := by decide +kernel
theorem dL_cell_15 : decode cL_cell 15 = .ok (.iconst 3, 1) := by decide +kernel
theorem dL_cell_16 : decode cL_cell 16 = .ok (.iadd, 1) := by decide +kernel
theorem dL_cell_17 : decode cL_cell 17 = .ok (.imul, 1) := by decide +kernel
theorem dL_cell_18 : decode cL_cell 18 = .ok (.ireturn, 1) := by decide +kernel
theorem dL_targets_0 : decode cL_targets 0 = .ok (.iconst 0, 1) := by decide +kernel
theorem dL_targets_1 : decode cL_targets 1 = .ok (.istore 5, 2) := by decide +kernel
theorem dL_targets_3 : decode cL_targets 3 = .ok (.iload 5, 2) := by decide +kernel
theorem dL_targets_5 : decode cL_targets 5 = .ok (.iload_n 3, 1) := by decide +kernel
theorem dL_targets_6 : decode cL_targets 6 = .ok (.if_icmp .ge 164, 3) := by decide +kernel
theorem dL_targets_9 : decode cL_targets 9 = .ok (.aload_n 1, 1) := by decide +kernel
theorem dL_targets_10 : decode cL_targets 10 = .ok (.iload_n 2, 1) := by decide +kernel
theorem dL_targets_11 : decode cL_targets 11 = .ok (.iload 5, 2) := by decide +kernel
theorem dL_targets_13 : decode cL_targets 13 = .ok (.iconst 5, 1) := by decide +kernel
theorem dL_targets_14 : decode cL_targets 14 = .ok (.irem, 1) := by decide +kernel
theorem dL_targets_15 : decode cL_targets 15 = .ok (.iadd, 1) := by decide +kernel
theorem dL_targets_16 : decode cL_targets 16 = .ok (.invokestatic 9, 3) := by decide +kernel
theorem dL_targets_19 : decode cL_targets 19 = .ok (.iload 5, 2) := by decide +kernel
theorem dL_targets_21 : decode cL_targets 21 = .ok (.iconst 5, 1) := by decide +kernel
theorem dL_targets_22 : decode cL_targets 22 = .ok (.idiv, 1) := by decide +kernel
theorem dL_targets_23 : decode cL_targets 23 = .ok (.iconst 3, 1) := by decide +kernel
theorem dL_targets_24 : decode cL_targets 24 = .ok (.imul, 1) := by decide +kernel
theorem dL_targets_25 : decode cL_targets 25 = .ok (.ishr, 1) := by decide +kernel
theorem dL_targets_26 : decode cL_targets 26 = .ok (.iload 5, 2) := by decide +kernel
theorem dL_targets_28 : decode cL_targets 28 = .ok (.sipush 911, 3) := by decide +kernel
theorem dL_targets_31 : decode cL_targets 31 = .ok (.imul, 1) := by decide +kernel
theorem dL_targets_32 : decode cL_targets 32 = .ok (.ixor, 1) := by decide +kernel
theorem dL_targets_33 : decode cL_targets 33 = .ok (.istore 6, 2) := by decide +kernel
theorem dL_targets_35 : decode cL_targets 35 = .ok (.iconst 5, 1) := by decide +kernel
theorem dL_targets_36 : decode cL_targets 36 = .ok (.newarray .int, 2) := by decide +kernel
theorem dL_targets_38 : decode cL_targets 38 = .ok (.dup, 1) := by decide +kernel
theorem dL_targets_39 : decode cL_targets 39 = .ok (.iconst 0, 1) := by decide +kernel
theorem dL_targets_40 : decode cL_targets 40 = .ok (.iload 6, 2) := by decide +kernel
theorem dL_targets_42 : decode cL_targets 42 = .ok (.sipush 1440, 3) := by decide +kernel
theorem dL_targets_45 : decode cL_targets 45 = .ok (.invokestatic 15, 3) := by decide +kernel
theorem dL_targets_48 : decode cL_targets 48 = .ok (.iastore, 1) := by decide +kernel
theorem dL_targets_49 : decode cL_targets 49 = .ok (.dup, 1) := by decide +kernel
theorem dL_targets_50 : decode cL_targets 50 = .ok (.iconst 1, 1) := by decide +kernel
theorem dL_targets_51 : decode cL_targets 51 = .ok (.iload 6, 2) := by decide +kernel
theorem dL_targets_53 : decode cL_targets 53 = .ok (.iconst 5, 1) := by decide +kernel
theorem dL_targets_54 : decode cL_targets 54 = .ok (.ishr, 1) := by decide +kernel
theorem dL_targets_55 : decode cL_targets 55 = .ok (.sipush 181, 3) := by decide +kernel
theorem dL_targets_58 : decode cL_targets 58 = .ok (.invokestatic 15, 3) := by decide +kernel
theorem dL_targets_61 : decode cL_targets 61 = .ok (.bipush 90, 2) := by decide +kernel
theorem dL_targets_63 : decode cL_targets 63 = .ok (.isub, 1) := by decide +kernel
theorem dL_targets_64 : decode cL_targets 64 = .ok (.iastore, 1) := by decide +kernel
theorem dL_targets_65 : decode cL_targets 65 = .ok (.dup, 1) := by decide +kernel
theorem dL_targets_66 : decode cL_targets 66 = .ok (.iconst 2, 1) := by decide +kernel
theorem dL_targets_67 : decode cL_targets 67 = .ok (.iload 6, 2) := by decide +kernel
theorem dL_targets_69 : decode cL_targets 69 = .ok (.bipush 9, 2) := by decide +kernel
theorem dL_targets_71 : decode cL_targets 71 = .ok (.ishr, 1) := by decide +kernel
theorem dL_targets_72 : decode cL_targets 72 = .ok (.iconst 4, 1) := by decide +kernel
theorem dL_targets_73 : decode cL_targets 73 = .ok (.invokestatic 15, 3) := by decide +kernel
theorem dL_targets_76 : decode cL_targets 76 = .ok (.iastore, 1) := by decide +kernel
theorem dL_targets_77 : decode cL_targets 77 = .ok (.dup, 1) := by decide +kernel
theorem dL_targets_78 : decode cL_targets 78 = .ok (.iconst 3, 1) := by decide +kernel
theorem dL_targets_79 : decode cL_targets 79 = .ok (.iconst 1, 1) := by decide +kernel
theorem dL_targets_80 : decode cL_targets 80 = .ok (.iload 6, 2) := by decide +kernel
theorem dL_targets_82 : decode cL_targets 82 = .ok (.bipush 11, 2) := by decide +kernel
theorem dL_targets_84 : decode cL_targets 84 = .ok (.ishr, 1) := by decide +kernel
theorem dL_targets_85 : decode cL_targets 85 = .ok (.bipush 9, 2) := by decide +kernel
theorem dL_targets_87 : decode cL_targets 87 = .ok (.invokestatic 15, 3) := by decide +kernel
theorem dL_targets_90 : decode cL_targets 90 = .ok (.iadd, 1) := by decide +kernel
theorem dL_targets_91 : decode cL_targets 91 = .ok (.iastore, 1) := by decide +kernel
theorem dL_targets_92 : decode cL_targets 92 = .ok (.dup, 1) := by decide +kernel
theorem dL_targets_93 : decode cL_targets 93 = .ok (.iconst 4, 1) := by decide +kernel
theorem dL_targets_94 : decode cL_targets 94 = .ok (.iconst 5, 1) := by decide +kernel
theorem dL_targets_95 : decode cL_targets 95 = .ok (.iload 6, 2) := by decide +kernel
theorem dL_targets_97 : decode cL_targets 97 = .ok (.bipush 13, 2) := by decide +kernel
theorem dL_targets_99 : decode cL_targets 99 = .ok (.ishr, 1) := by decide +kernel
theorem dL_targets_100 : decode cL_targets 100 = .ok (.bipush 60, 2) := by decide +kernel
theorem dL_targets_102 : decode cL_targets 102 = .ok (.invokestatic 15, 3) := by decide +kernel
theorem dL_targets_105 : decode cL_targets 105 = .ok (.iadd, 1) := by decide +kernel
theorem dL_targets_106 : decode cL_targets 106 = .ok (.iastore, 1) := by decide +kernel
theorem dL_targets_107 : decode cL_targets 107 = .ok (.astore 7, 2) := by decide +kernel
theorem dL_targets_109 : decode cL_targets 109 = .ok (.iconst 0, 1) := by decide +kernel
theorem dL_targets_110 : decode cL_targets 110 = .ok (.istore 8, 2) := by decide +kernel
theorem dL_targets_112 : decode cL_targets 112 = .ok (.iload 8, 2) := by decide +kernel
theorem dL_targets_114 : decode cL_targets 114 = .ok (.iconst 5, 1) := by decide +kernel
theorem dL_targets_115 : decode cL_targets 115 = .ok (.if_icmp .ge 24, 3) := by decide +kernel
theorem dL_targets_118 : decode cL_targets 118 = .ok (.aload 4, 2) := by decide +kernel
theorem dL_targets_120 : decode cL_targets 120 = .ok (.iconst 5, 1) := by decide +kernel
theorem dL_targets_121 : decode cL_targets 121 = .ok (.iload 5, 2) := by decide +kernel
theorem dL_targets_123 : decode cL_targets 123 = .ok (.imul, 1) := by decide +kernel
theorem dL_targets_124 : decode cL_targets 124 = .ok (.iload 8, 2) := by decide +kernel
theorem dL_targets_126 : decode cL_targets 126 = .ok (.iadd, 1) := by decide +kernel
theorem dL_targets_127 : decode cL_targets 127 = .ok (.aload 7, 2) := by decide +kernel
theorem dL_targets_129 : decode cL_targets 129 = .ok (.iload 8, 2) := by decide +kernel
theorem dL_targets_131 : decode cL_targets 131 = .ok (.iaload, 1) := by decide +kernel
theorem dL_targets_132 : decode cL_targets 132 = .ok (.iastore, 1) := by decide +kernel
theorem dL_targets_133 : decode cL_targets 133 = .ok (.iinc 8 1, 3) := by decide +kernel
theorem dL_targets_136 : decode cL_targets 136 = .ok (.goto (-24), 3) := by decide +kernel
theorem dL_targets_139 : decode cL_targets 139 = .ok (.aload_n 0, 1) := by decide +kernel
theorem dL_targets_140 : decode cL_targets 140 = .ok (.aload 7, 2) := by decide +kernel
theorem dL_targets_142 : decode cL_targets 142 = .ok (.iconst 0, 1) := by decide +kernel
theorem dL_targets_143 : decode cL_targets 143 = .ok (.iaload, 1) := by decide +kernel
theorem dL_targets_144 : decode cL_targets 144 = .ok (.aload 7, 2) := by decide +kernel
theorem dL_targets_146 : decode cL_targets 146 = .ok (.iconst 1, 1) := by decide +kernel
theorem dL_targets_147 : decode cL_targets 147 = .ok (.iaload, 1) := by decide +kernel
theorem dL_targets_148 : decode cL_targets 148 = .ok (.aload 7, 2) := by decide +kernel
theorem dL_targets_150 : decode cL_targets 150 = .ok (.iconst 2, 1) := by decide +kernel
theorem dL_targets_151 : decode cL_targets 151 = .ok (.iaload, 1) := by decide +kernel
theorem dL_targets_152 : decode cL_targets 152 = .ok (.aload 7, 2) := by decide +kernel
theorem dL_targets_154 : decode cL_targets 154 = .ok (.iconst 3, 1) := by decide +kernel
theorem dL_targets_155 : decode cL_targets 155 = .ok (.iaload, 1) := by decide +kernel
theorem dL_targets_156 : decode cL_targets 156 = .ok (.aload 7, 2) := by decide +kernel
theorem dL_targets_158 : decode cL_targets 158 = .ok (.iconst 4, 1) := by decide +kernel
theorem dL_targets_159 : decode cL_targets 159 = .ok (.iaload, 1) := by decide +kernel
theorem dL_targets_160 : decode cL_targets 160 = .ok (.invokevirtual 19, 3) := by decide +kernel
theorem dL_targets_163 : decode cL_targets 163 = .ok (.pop, 1) := by decide +kernel
theorem dL_targets_164 : decode cL_targets 164 = .ok (.iinc 5 1, 3) := by decide +kernel
theorem dL_targets_167 : decode cL_targets 167 = .ok (.goto (-164), 3) := by decide +kernel
theorem dL_targets_170 : decode cL_targets 170 = .ok (.return_, 1) := by decide +kernel
