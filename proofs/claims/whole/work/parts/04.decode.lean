theorem dX0_init_0 : decode cX0_init 0 = .ok (.aload_n 0, 1) := by decide +kernel
theorem dX0_init_1 : decode cX0_init 1 = .ok (.invokespecial 3, 3) := by decide +kernel
theorem dX0_init_4 : decode cX0_init 4 = .ok (.aload_n 0, 1) := by decide +kernel
theorem dX0_init_5 : decode cX0_init 5 = .ok (.bipush 8, 2) := by decide +kernel
theorem dX0_init_7 : decode cX0_init 7 = .ok (.newarray .int, 2) := by decide +kernel
theorem dX0_init_9 : decode cX0_init 9 = .ok (.putfield 9, 3) := by decide +kernel
theorem dX0_init_12 : decode cX0_init 12 = .ok (.aload_n 0, 1) := by decide +kernel
theorem dX0_init_13 : decode cX0_init 13 = .ok (.bipush 8, 2) := by decide +kernel
theorem dX0_init_15 : decode cX0_init 15 = .ok (.newarray .int, 2) := by decide +kernel
theorem dX0_init_17 : decode cX0_init 17 = .ok (.putfield 15, 3) := by decide +kernel
theorem dX0_init_20 : decode cX0_init 20 = .ok (.return_, 1) := by decide +kernel
theorem dX0_tell_0 : decode cX0_tell 0 = .ok (.aload_n 0, 1) := by decide +kernel
theorem dX0_tell_1 : decode cX0_tell 1 = .ok (.getfield 18, 3) := by decide +kernel
theorem dX0_tell_4 : decode cX0_tell 4 = .ok (.ifCond .lt 42, 3) := by decide +kernel
theorem dX0_tell_7 : decode cX0_tell 7 = .ok (.aload_n 0, 1) := by decide +kernel
theorem dX0_tell_8 : decode cX0_tell 8 = .ok (.getfield 18, 3) := by decide +kernel
theorem dX0_tell_11 : decode cX0_tell 11 = .ok (.bipush 8, 2) := by decide +kernel
theorem dX0_tell_13 : decode cX0_tell 13 = .ok (.if_icmp .ge 33, 3) := by decide +kernel
theorem dX0_tell_16 : decode cX0_tell 16 = .ok (.aload_n 0, 1) := by decide +kernel
theorem dX0_tell_17 : decode cX0_tell 17 = .ok (.getfield 9, 3) := by decide +kernel
theorem dX0_tell_20 : decode cX0_tell 20 = .ok (.aload_n 0, 1) := by decide +kernel
theorem dX0_tell_21 : decode cX0_tell 21 = .ok (.getfield 18, 3) := by decide +kernel
theorem dX0_tell_24 : decode cX0_tell 24 = .ok (.iload_n 1, 1) := by decide +kernel
theorem dX0_tell_25 : decode cX0_tell 25 = .ok (.iastore, 1) := by decide +kernel
theorem dX0_tell_26 : decode cX0_tell 26 = .ok (.aload_n 0, 1) := by decide +kernel
theorem dX0_tell_27 : decode cX0_tell 27 = .ok (.getfield 15, 3) := by decide +kernel
theorem dX0_tell_30 : decode cX0_tell 30 = .ok (.aload_n 0, 1) := by decide +kernel
theorem dX0_tell_31 : decode cX0_tell 31 = .ok (.getfield 18, 3) := by decide +kernel
theorem dX0_tell_34 : decode cX0_tell 34 = .ok (.iload_n 2, 1) := by decide +kernel
theorem dX0_tell_35 : decode cX0_tell 35 = .ok (.iastore, 1) := by decide +kernel
theorem dX0_tell_36 : decode cX0_tell 36 = .ok (.aload_n 0, 1) := by decide +kernel
theorem dX0_tell_37 : decode cX0_tell 37 = .ok (.dup, 1) := by decide +kernel
theorem dX0_tell_38 : decode cX0_tell 38 = .ok (.getfield 18, 3) := by decide +kernel
theorem dX0_tell_41 : decode cX0_tell 41 = .ok (.iconst 1, 1) := by decide +kernel
theorem dX0_tell_42 : decode cX0_tell 42 = .ok (.iadd, 1) := by decide +kernel
theorem dX0_tell_43 : decode cX0_tell 43 = .ok (.putfield 18, 3) := by decide +kernel
theorem dX0_tell_46 : decode cX0_tell 46 = .ok (.return_, 1) := by decide +kernel
theorem dX0_cover_0 : decode cX0_cover 0 = .ok (.iconst 0, 1) := by decide +kernel
theorem dX0_cover_1 : decode cX0_cover 1 = .ok (.istore_n 2, 1) := by decide +kernel
theorem dX0_cover_2 : decode cX0_cover 2 = .ok (.iload_n 2, 1) := by decide +kernel
theorem dX0_cover_3 : decode cX0_cover 3 = .ok (.aload_n 0, 1) := by decide +kernel
theorem dX0_cover_4 : decode cX0_cover 4 = .ok (.getfield 18, 3) := by decide +kernel
theorem dX0_cover_7 : decode cX0_cover 7 = .ok (.if_icmp .ge 37, 3) := by decide +kernel
theorem dX0_cover_10 : decode cX0_cover 10 = .ok (.iload_n 2, 1) := by decide +kernel
theorem dX0_cover_11 : decode cX0_cover 11 = .ok (.bipush 8, 2) := by decide +kernel
theorem dX0_cover_13 : decode cX0_cover 13 = .ok (.if_icmp .ge 31, 3) := by decide +kernel
theorem dX0_cover_16 : decode cX0_cover 16 = .ok (.aload_n 0, 1) := by decide +kernel
theorem dX0_cover_17 : decode cX0_cover 17 = .ok (.getfield 9, 3) := by decide +kernel
theorem dX0_cover_20 : decode cX0_cover 20 = .ok (.iload_n 2, 1) := by decide +kernel
theorem dX0_cover_21 : decode cX0_cover 21 = .ok (.iaload, 1) := by decide +kernel
theorem dX0_cover_22 : decode cX0_cover 22 = .ok (.iload_n 1, 1) := by decide +kernel
theorem dX0_cover_23 : decode cX0_cover 23 = .ok (.if_icmp .gt 15, 3) := by decide +kernel
theorem dX0_cover_26 : decode cX0_cover 26 = .ok (.iload_n 1, 1) := by decide +kernel
theorem dX0_cover_27 : decode cX0_cover 27 = .ok (.aload_n 0, 1) := by decide +kernel
theorem dX0_cover_28 : decode cX0_cover 28 = .ok (.getfield 15, 3) := by decide +kernel
theorem dX0_cover_31 : decode cX0_cover 31 = .ok (.iload_n 2, 1) := by decide +kernel
theorem dX0_cover_32 : decode cX0_cover 32 = .ok (.iaload, 1) := by decide +kernel
theorem dX0_cover_33 : decode cX0_cover 33 = .ok (.if_icmp .gt 5, 3) := by decide +kernel
theorem dX0_cover_36 : decode cX0_cover 36 = .ok (.iconst 1, 1) := by decide +kernel
theorem dX0_cover_37 : decode cX0_cover 37 = .ok (.ireturn, 1) := by decide +kernel
theorem dX0_cover_38 : decode cX0_cover 38 = .ok (.iinc 2 1, 3) := by decide +kernel
theorem dX0_cover_41 : decode cX0_cover 41 = .ok (.goto (-39), 3) := by decide +kernel
theorem dX0_cover_44 : decode cX0_cover 44 = .ok (.iconst 0, 1) := by decide +kernel
theorem dX0_cover_45 : decode cX0_cover 45 = .ok (.ireturn, 1) := by decide +kernel
theorem dX1_init_0 : decode cX1_init 0 = .ok (.aload_n 0, 1) := by decide +kernel
theorem dX1_init_1 : decode cX1_init 1 = .ok (.invokespecial 3, 3) := by decide +kernel
theorem dX1_init_4 : decode cX1_init 4 = .ok (.aload_n 0, 1) := by decide +kernel
theorem dX1_init_5 : decode cX1_init 5 = .ok (.sipush 900, 3) := by decide +kernel
theorem dX1_init_8 : decode cX1_init 8 = .ok (.newarray .int, 2) := by decide +kernel
theorem dX1_init_10 : decode cX1_init 10 = .ok (.putfield 9, 3) := by decide +kernel
theorem dX1_init_13 : decode cX1_init 13 = .ok (.return_, 1) := by decide +kernel
theorem dX1_clear_0 : decode cX1_clear 0 = .ok (.aload_n 0, 1) := by decide +kernel
theorem dX1_clear_1 : decode cX1_clear 1 = .ok (.getfield 9, 3) := by decide +kernel
theorem dX1_clear_4 : decode cX1_clear 4 = .ok (.iconst 0, 1) := by decide +kernel
theorem dX1_clear_5 : decode cX1_clear 5 = .ok (.invokestatic 15, 3) := by decide +kernel
theorem dX1_clear_8 : decode cX1_clear 8 = .ok (.aload_n 0, 1) := by decide +kernel
theorem dX1_clear_9 : decode cX1_clear 9 = .ok (.iconst (-1), 1) := by decide +kernel
theorem dX1_clear_10 : decode cX1_clear 10 = .ok (.putfield 21, 3) := by decide +kernel
theorem dX1_clear_13 : decode cX1_clear 13 = .ok (.aload_n 0, 1) := by decide +kernel
theorem dX1_clear_14 : decode cX1_clear 14 = .ok (.iconst (-1), 1) := by decide +kernel
theorem dX1_clear_15 : decode cX1_clear 15 = .ok (.putfield 25, 3) := by decide +kernel
theorem dX1_clear_18 : decode cX1_clear 18 = .ok (.aload_n 0, 1) := by decide +kernel
theorem dX1_clear_19 : decode cX1_clear 19 = .ok (.iconst 0, 1) := by decide +kernel
theorem dX1_clear_20 : decode cX1_clear 20 = .ok (.putfield 28, 3) := by decide +kernel
theorem dX1_clear_23 : decode cX1_clear 23 = .ok (.aload_n 0, 1) := by decide +kernel
theorem dX1_clear_24 : decode cX1_clear 24 = .ok (.iconst (-1), 1) := by decide +kernel
theorem dX1_clear_25 : decode cX1_clear 25 = .ok (.putfield 31, 3) := by decide +kernel
theorem dX1_clear_28 : decode cX1_clear 28 = .ok (.aload_n 0, 1) := by decide +kernel
theorem dX1_clear_29 : decode cX1_clear 29 = .ok (.iconst 0, 1) := by decide +kernel
theorem dX1_clear_30 : decode cX1_clear 30 = .ok (.putfield 34, 3) := by decide +kernel
theorem dX1_clear_33 : decode cX1_clear 33 = .ok (.aload_n 0, 1) := by decide +kernel
theorem dX1_clear_34 : decode cX1_clear 34 = .ok (.iconst (-1), 1) := by decide +kernel
theorem dX1_clear_35 : decode cX1_clear 35 = .ok (.putfield 37, 3) := by decide +kernel
theorem dX1_clear_38 : decode cX1_clear 38 = .ok (.return_, 1) := by decide +kernel
theorem dX1_noteHeight_0 : decode cX1_noteHeight 0 = .ok (.aload_n 0, 1) := by decide +kernel
theorem dX1_noteHeight_1 : decode cX1_noteHeight 1 = .ok (.getfield 31, 3) := by decide +kernel
theorem dX1_noteHeight_4 : decode cX1_noteHeight 4 = .ok (.ifCond .lt 11, 3) := by decide +kernel
theorem dX1_noteHeight_7 : decode cX1_noteHeight 7 = .ok (.iload_n 2, 1) := by decide +kernel
theorem dX1_noteHeight_8 : decode cX1_noteHeight 8 = .ok (.aload_n 0, 1) := by decide +kernel
theorem dX1_noteHeight_9 : decode cX1_noteHeight 9 = .ok (.getfield 34, 3) := by decide +kernel
theorem dX1_noteHeight_12 : decode cX1_noteHeight 12 = .ok (.if_icmp .lt 13, 3) := by decide +kernel
theorem dX1_noteHeight_15 : decode cX1_noteHeight 15 = .ok (.aload_n 0, 1) := by decide +kernel
theorem dX1_noteHeight_16 : decode cX1_noteHeight 16 = .ok (.iload_n 1, 1) := by decide +kernel
theorem dX1_noteHeight_17 : decode cX1_noteHeight 17 = .ok (.putfield 31, 3) := by decide +kernel
theorem dX1_noteHeight_20 : decode cX1_noteHeight 20 = .ok (.aload_n 0, 1) := by decide +kernel
theorem dX1_noteHeight_21 : decode cX1_noteHeight 21 = .ok (.iload_n 2, 1) := by decide +kernel
theorem dX1_noteHeight_22 : decode cX1_noteHeight 22 = .ok (.putfield 34, 3) := by decide +kernel
theorem dX1_noteHeight_25 : decode cX1_noteHeight 25 = .ok (.return_, 1) := by decide +kernel
theorem dX1_noteRun_0 : decode cX1_noteRun 0 = .ok (.iload_n 2, 1) := by decide +kernel
theorem dX1_noteRun_1 : decode cX1_noteRun 1 = .ok (.ifCond .le 74, 3) := by decide +kernel
theorem dX1_noteRun_4 : decode cX1_noteRun 4 = .ok (.iload_n 1, 1) := by decide +kernel
theorem dX1_noteRun_5 : decode cX1_noteRun 5 = .ok (.ifCond .lt 70, 3) := by decide +kernel
theorem dX1_noteRun_8 : decode cX1_noteRun 8 = .ok (.iload_n 1, 1) := by decide +kernel
theorem dX1_noteRun_9 : decode cX1_noteRun 9 = .ok (.aload_n 0, 1) := by decide +kernel
theorem dX1_noteRun_10 : decode cX1_noteRun 10 = .ok (.getfield 9, 3) := by decide +kernel
theorem dX1_noteRun_13 : decode cX1_noteRun 13 = .ok (.arraylength, 1) := by decide +kernel
theorem dX1_noteRun_14 : decode cX1_noteRun 14 = .ok (.if_icmp .ge 61, 3) := by decide +kernel
theorem dX1_noteRun_17 : decode cX1_noteRun 17 = .ok (.aload_n 0, 1) := by decide +kernel
theorem dX1_noteRun_18 : decode cX1_noteRun 18 = .ok (.getfield 9, 3) := by decide +kernel
theorem dX1_noteRun_21 : decode cX1_noteRun 21 = .ok (.iload_n 1, 1) := by decide +kernel
theorem dX1_noteRun_22 : decode cX1_noteRun 22 = .ok (.iload_n 2, 1) := by decide +kernel
theorem dX1_noteRun_23 : decode cX1_noteRun 23 = .ok (.iastore, 1) := by decide +kernel
theorem dX1_noteRun_24 : decode cX1_noteRun 24 = .ok (.aload_n 0, 1) := by decide +kernel
theorem dX1_noteRun_25 : decode cX1_noteRun 25 = .ok (.iload_n 1, 1) := by decide +kernel
theorem dX1_noteRun_26 : decode cX1_noteRun 26 = .ok (.putfield 21, 3) := by decide +kernel
theorem dX1_noteRun_29 : decode cX1_noteRun 29 = .ok (.aload_n 0, 1) := by decide +kernel
theorem dX1_noteRun_30 : decode cX1_noteRun 30 = .ok (.aload_n 0, 1) := by decide +kernel
theorem dX1_noteRun_31 : decode cX1_noteRun 31 = .ok (.getfield 25, 3) := by decide +kernel
theorem dX1_noteRun_34 : decode cX1_noteRun 34 = .ok (.ifCond .ge 7, 3) := by decide +kernel
theorem dX1_noteRun_37 : decode cX1_noteRun 37 = .ok (.iload_n 1, 1) := by decide +kernel
theorem dX1_noteRun_38 : decode cX1_noteRun 38 = .ok (.goto 7, 3) := by decide +kernel
theorem dX1_noteRun_41 : decode cX1_noteRun 41 = .ok (.aload_n 0, 1) := by decide +kernel
theorem dX1_noteRun_42 : decode cX1_noteRun 42 = .ok (.getfield 25, 3) := by decide +kernel
theorem dX1_noteRun_45 : decode cX1_noteRun 45 = .ok (.putfield 25, 3) := by decide +kernel
theorem dX1_noteRun_48 : decode cX1_noteRun 48 = .ok (.aload_n 0, 1) := by decide +kernel
theorem dX1_noteRun_49 : decode cX1_noteRun 49 = .ok (.dup, 1) := by decide +kernel
theorem dX1_noteRun_50 : decode cX1_noteRun 50 = .ok (.getfield 28, 3) := by decide +kernel
theorem dX1_noteRun_53 : decode cX1_noteRun 53 = .ok (.iconst 1, 1) := by decide +kernel
theorem dX1_noteRun_54 : decode cX1_noteRun 54 = .ok (.iadd, 1) := by decide +kernel
theorem dX1_noteRun_55 : decode cX1_noteRun 55 = .ok (.putfield 28, 3) := by decide +kernel
theorem dX1_noteRun_58 : decode cX1_noteRun 58 = .ok (.aload_n 0, 1) := by decide +kernel
theorem dX1_noteRun_59 : decode cX1_noteRun 59 = .ok (.iload_n 2, 1) := by decide +kernel
theorem dX1_noteRun_60 : decode cX1_noteRun 60 = .ok (.iload_n 3, 1) := by decide +kernel
theorem dX1_noteRun_61 : decode cX1_noteRun 61 = .ok (.if_icmp .lt 7, 3) := by decide +kernel
theorem dX1_noteRun_64 : decode cX1_noteRun 64 = .ok (.iload_n 1, 1) := by decide +kernel
theorem dX1_noteRun_65 : decode cX1_noteRun 65 = .ok (.goto 7, 3) := by decide +kernel
theorem dX1_noteRun_68 : decode cX1_noteRun 68 = .ok (.aload_n 0, 1) := by decide +kernel
theorem dX1_noteRun_69 : decode cX1_noteRun 69 = .ok (.getfield 37, 3) := by decide +kernel
theorem dX1_noteRun_72 : decode cX1_noteRun 72 = .ok (.putfield 37, 3) := by decide +kernel
theorem dX1_noteRun_75 : decode cX1_noteRun 75 = .ok (.return_, 1) := by decide +kernel
theorem dX1_lasts_0 : decode cX1_lasts 0 = .ok (.iload_n 1, 1) := by decide +kernel
theorem dX1_lasts_1 : decode cX1_lasts 1 = .ok (.ifCond .lt 26, 3) := by decide +kernel
theorem dX1_lasts_4 : decode cX1_lasts 4 = .ok (.iload_n 1, 1) := by decide +kernel
theorem dX1_lasts_5 : decode cX1_lasts 5 = .ok (.aload_n 0, 1) := by decide +kernel
theorem dX1_lasts_6 : decode cX1_lasts 6 = .ok (.getfield 9, 3) := by decide +kernel
theorem dX1_lasts_9 : decode cX1_lasts 9 = .ok (.arraylength, 1) := by decide +kernel
theorem dX1_lasts_10 : decode cX1_lasts 10 = .ok (.if_icmp .ge 17, 3) := by decide +kernel
theorem dX1_lasts_13 : decode cX1_lasts 13 = .ok (.aload_n 0, 1) := by decide +kernel
theorem dX1_lasts_14 : decode cX1_lasts 14 = .ok (.getfield 9, 3) := by decide +kernel
theorem dX1_lasts_17 : decode cX1_lasts 17 = .ok (.iload_n 1, 1) := by decide +kernel
theorem dX1_lasts_18 : decode cX1_lasts 18 = .ok (.iaload, 1) := by decide +kernel
theorem dX1_lasts_19 : decode cX1_lasts 19 = .ok (.iload_n 2, 1) := by decide +kernel
theorem dX1_lasts_20 : decode cX1_lasts 20 = .ok (.if_icmp .lt 7, 3) := by decide +kernel
theorem dX1_lasts_23 : decode cX1_lasts 23 = .ok (.iconst 1, 1) := by decide +kernel
theorem dX1_lasts_24 : decode cX1_lasts 24 = .ok (.goto 4, 3) := by decide +kernel
theorem dX1_lasts_27 : decode cX1_lasts 27 = .ok (.iconst 0, 1) := by decide +kernel
theorem dX1_lasts_28 : decode cX1_lasts 28 = .ok (.ireturn, 1) := by decide +kernel
theorem dX1_fact_0 : decode cX1_fact 0 = .ok (.iload_n 1, 1) := by decide +kernel
theorem dX1_fact_1 : decode cX1_fact 1 = .ok (.tableswitch 51 0 3 #[31, 36, 41, 46], 31) := by decide +kernel
theorem dX1_fact_32 : decode cX1_fact 32 = .ok (.aload_n 0, 1) := by decide +kernel
theorem dX1_fact_33 : decode cX1_fact 33 = .ok (.getfield 21, 3) := by decide +kernel
theorem dX1_fact_36 : decode cX1_fact 36 = .ok (.ireturn, 1) := by decide +kernel
theorem dX1_fact_37 : decode cX1_fact 37 = .ok (.aload_n 0, 1) := by decide +kernel
theorem dX1_fact_38 : decode cX1_fact 38 = .ok (.getfield 25, 3) := by decide +kernel
theorem dX1_fact_41 : decode cX1_fact 41 = .ok (.ireturn, 1) := by decide +kernel
theorem dX1_fact_42 : decode cX1_fact 42 = .ok (.aload_n 0, 1) := by decide +kernel
theorem dX1_fact_43 : decode cX1_fact 43 = .ok (.getfield 28, 3) := by decide +kernel
theorem dX1_fact_46 : decode cX1_fact 46 = .ok (.ireturn, 1) := by decide +kernel
theorem dX1_fact_47 : decode cX1_fact 47 = .ok (.aload_n 0, 1) := by decide +kernel
theorem dX1_fact_48 : decode cX1_fact 48 = .ok (.getfield 31, 3) := by decide +kernel
theorem dX1_fact_51 : decode cX1_fact 51 = .ok (.ireturn, 1) := by decide +kernel
theorem dX1_fact_52 : decode cX1_fact 52 = .ok (.aload_n 0, 1) := by decide +kernel
theorem dX1_fact_53 : decode cX1_fact 53 = .ok (.getfield 37, 3) := by decide +kernel
theorem dX1_fact_56 : decode cX1_fact 56 = .ok (.ireturn, 1) := by decide +kernel
theorem dX2_init_0 : decode cX2_init 0 = .ok (.aload_n 0, 1) := by decide +kernel
theorem dX2_init_1 : decode cX2_init 1 = .ok (.invokespecial 3, 3) := by decide +kernel
theorem dX2_init_4 : decode cX2_init 4 = .ok (.aload_n 0, 1) := by decide +kernel
theorem dX2_init_5 : decode cX2_init 5 = .ok (.bipush 20, 2) := by decide +kernel
theorem dX2_init_7 : decode cX2_init 7 = .ok (.iconst 4, 1) := by decide +kernel
theorem dX2_init_8 : decode cX2_init 8 = .ok (.multianewarray 9 2, 4) := by decide +kernel
theorem dX2_init_12 : decode cX2_init 12 = .ok (.putfield 11, 3) := by decide +kernel
theorem dX2_init_15 : decode cX2_init 15 = .ok (.return_, 1) := by decide +kernel
theorem dX2_clear_0 : decode cX2_clear 0 = .ok (.aload_n 0, 1) := by decide +kernel
theorem dX2_clear_1 : decode cX2_clear 1 = .ok (.iconst 0, 1) := by decide +kernel
theorem dX2_clear_2 : decode cX2_clear 2 = .ok (.putfield 16, 3) := by decide +kernel
theorem dX2_clear_5 : decode cX2_clear 5 = .ok (.aload_n 0, 1) := by decide +kernel
theorem dX2_clear_6 : decode cX2_clear 6 = .ok (.iconst 0, 1) := by decide +kernel
theorem dX2_clear_7 : decode cX2_clear 7 = .ok (.putfield 20, 3) := by decide +kernel
theorem dX2_clear_10 : decode cX2_clear 10 = .ok (.aload_n 0, 1) := by decide +kernel
theorem dX2_clear_11 : decode cX2_clear 11 = .ok (.aconst_null, 1) := by decide +kernel
theorem dX2_clear_12 : decode cX2_clear 12 = .ok (.putfield 23, 3) := by decide +kernel
theorem dX2_clear_15 : decode cX2_clear 15 = .ok (.return_, 1) := by decide +kernel
theorem dX2_minutesUntilReady_0 : decode cX2_minutesUntilReady 0 = .ok (.aload_n 0, 1) := by decide +kernel
theorem dX2_minutesUntilReady_1 : decode cX2_minutesUntilReady 1 = .ok (.getfield 23, 3) := by decide +kernel
theorem dX2_minutesUntilReady_4 : decode cX2_minutesUntilReady 4 = .ok (.ifnonnull 7, 3) := by decide +kernel
theorem dX2_minutesUntilReady_7 : decode cX2_minutesUntilReady 7 = .ok (.iconst 0, 1) := by decide +kernel
theorem dX2_minutesUntilReady_8 : decode cX2_minutesUntilReady 8 = .ok (.goto 10, 3) := by decide +kernel
theorem dX2_minutesUntilReady_11 : decode cX2_minutesUntilReady 11 = .ok (.aload_n 0, 1) := by decide +kernel
theorem dX2_minutesUntilReady_12 : decode cX2_minutesUntilReady 12 = .ok (.getfield 23, 3) := by decide +kernel
theorem dX2_minutesUntilReady_15 : decode cX2_minutesUntilReady 15 = .ok (.getfield 27, 3) := by decide +kernel
theorem dX2_minutesUntilReady_18 : decode cX2_minutesUntilReady 18 = .ok (.istore_n 2, 1) := by decide +kernel
theorem dX2_minutesUntilReady_19 : decode cX2_minutesUntilReady 19 = .ok (.aload_n 0, 1) := by decide +kernel
theorem dX2_minutesUntilReady_20 : decode cX2_minutesUntilReady 20 = .ok (.getfield 23, 3) := by decide +kernel
theorem dX2_minutesUntilReady_23 : decode cX2_minutesUntilReady 23 = .ok (.ifnonnull 7, 3) := by decide +kernel
theorem dX2_minutesUntilReady_26 : decode cX2_minutesUntilReady 26 = .ok (.iconst 2, 1) := by decide +kernel
theorem dX2_minutesUntilReady_27 : decode cX2_minutesUntilReady 27 = .ok (.goto 27, 3) := by decide +kernel
theorem dX2_minutesUntilReady_30 : decode cX2_minutesUntilReady 30 = .ok (.iconst 1, 1) := by decide +kernel
theorem dX2_minutesUntilReady_31 : decode cX2_minutesUntilReady 31 = .ok (.sipush 1000, 3) := by decide +kernel
theorem dX2_minutesUntilReady_34 : decode cX2_minutesUntilReady 34 = .ok (.aload_n 0, 1) := by decide +kernel
theorem dX2_minutesUntilReady_35 : decode cX2_minutesUntilReady 35 = .ok (.getfield 23, 3) := by decide +kernel
theorem dX2_minutesUntilReady_38 : decode cX2_minutesUntilReady 38 = .ok (.getfield 32, 3) := by decide +kernel
theorem dX2_minutesUntilReady_41 : decode cX2_minutesUntilReady 41 = .ok (.aload_n 1, 1) := by decide +kernel
theorem dX2_minutesUntilReady_42 : decode cX2_minutesUntilReady 42 = .ok (.getfield 32, 3) := by decide +kernel
theorem dX2_minutesUntilReady_45 : decode cX2_minutesUntilReady 45 = .ok (.invokestatic 36, 3) := by decide +kernel
theorem dX2_minutesUntilReady_48 : decode cX2_minutesUntilReady 48 = .ok (.isub, 1) := by decide +kernel
theorem dX2_minutesUntilReady_49 : decode cX2_minutesUntilReady 49 = .ok (.sipush 250, 3) := by decide +kernel
theorem dX2_minutesUntilReady_52 : decode cX2_minutesUntilReady 52 = .ok (.idiv, 1) := by decide +kernel
theorem dX2_minutesUntilReady_53 : decode cX2_minutesUntilReady 53 = .ok (.iadd, 1) := by decide +kernel
theorem dX2_minutesUntilReady_54 : decode cX2_minutesUntilReady 54 = .ok (.istore_n 3, 1) := by decide +kernel
theorem dX2_minutesUntilReady_55 : decode cX2_minutesUntilReady 55 = .ok (.aload_n 1, 1) := by decide +kernel
theorem dX2_minutesUntilReady_56 : decode cX2_minutesUntilReady 56 = .ok (.getfield 27, 3) := by decide +kernel
theorem dX2_minutesUntilReady_59 : decode cX2_minutesUntilReady 59 = .ok (.iload_n 2, 1) := by decide +kernel
theorem dX2_minutesUntilReady_60 : decode cX2_minutesUntilReady 60 = .ok (.if_icmp .ne 7, 3) := by decide +kernel
theorem dX2_minutesUntilReady_63 : decode cX2_minutesUntilReady 63 = .ok (.iload_n 3, 1) := by decide +kernel
theorem dX2_minutesUntilReady_64 : decode cX2_minutesUntilReady 64 = .ok (.goto 6, 3) := by decide +kernel
theorem dX2_minutesUntilReady_67 : decode cX2_minutesUntilReady 67 = .ok (.iload_n 3, 1) := by decide +kernel
theorem dX2_minutesUntilReady_68 : decode cX2_minutesUntilReady 68 = .ok (.iconst 3, 1) := by decide +kernel
theorem dX2_minutesUntilReady_69 : decode cX2_minutesUntilReady 69 = .ok (.iadd, 1) := by decide +kernel
theorem dX2_minutesUntilReady_70 : decode cX2_minutesUntilReady 70 = .ok (.ireturn, 1) := by decide +kernel
theorem dX2_take_0 : decode cX2_take 0 = .ok (.aload_n 0, 1) := by decide +kernel
theorem dX2_take_1 : decode cX2_take 1 = .ok (.aload_n 1, 1) := by decide +kernel
theorem dX2_take_2 : decode cX2_take 2 = .ok (.invokevirtual 40, 3) := by decide +kernel
theorem dX2_take_5 : decode cX2_take 5 = .ok (.istore 4, 2) := by decide +kernel
theorem dX2_take_7 : decode cX2_take 7 = .ok (.aload_n 0, 1) := by decide +kernel
theorem dX2_take_8 : decode cX2_take 8 = .ok (.getfield 16, 3) := by decide +kernel
theorem dX2_take_11 : decode cX2_take 11 = .ok (.ifCond .lt 103, 3) := by decide +kernel
theorem dX2_take_14 : decode cX2_take 14 = .ok (.aload_n 0, 1) := by decide +kernel
theorem dX2_take_15 : decode cX2_take 15 = .ok (.getfield 16, 3) := by decide +kernel
theorem dX2_take_18 : decode cX2_take 18 = .ok (.aload_n 0, 1) := by decide +kernel
theorem dX2_take_19 : decode cX2_take 19 = .ok (.getfield 11, 3) := by decide +kernel
theorem dX2_take_22 : decode cX2_take 22 = .ok (.arraylength, 1) := by decide +kernel
theorem dX2_take_23 : decode cX2_take 23 = .ok (.if_icmp .ge 91, 3) := by decide +kernel
theorem dX2_take_26 : decode cX2_take 26 = .ok (.aload_n 0, 1) := by decide +kernel
theorem dX2_take_27 : decode cX2_take 27 = .ok (.getfield 11, 3) := by decide +kernel
theorem dX2_take_30 : decode cX2_take 30 = .ok (.aload_n 0, 1) := by decide +kernel
theorem dX2_take_31 : decode cX2_take 31 = .ok (.getfield 16, 3) := by decide +kernel
theorem dX2_take_34 : decode cX2_take 34 = .ok (.aaload, 1) := by decide +kernel
theorem dX2_take_35 : decode cX2_take 35 = .ok (.iconst 0, 1) := by decide +kernel
theorem dX2_take_36 : decode cX2_take 36 = .ok (.aload_n 1, 1) := by decide +kernel
theorem dX2_take_37 : decode cX2_take 37 = .ok (.getfield 44, 3) := by decide +kernel
theorem dX2_take_40 : decode cX2_take 40 = .ok (.iastore, 1) := by decide +kernel
theorem dX2_take_41 : decode cX2_take 41 = .ok (.aload_n 0, 1) := by decide +kernel
theorem dX2_take_42 : decode cX2_take 42 = .ok (.getfield 11, 3) := by decide +kernel
theorem dX2_take_45 : decode cX2_take 45 = .ok (.aload_n 0, 1) := by decide +kernel
theorem dX2_take_46 : decode cX2_take 46 = .ok (.getfield 16, 3) := by decide +kernel
theorem dX2_take_49 : decode cX2_take 49 = .ok (.aaload, 1) := by decide +kernel
theorem dX2_take_50 : decode cX2_take 50 = .ok (.iconst 1, 1) := by decide +kernel
theorem dX2_take_51 : decode cX2_take 51 = .ok (.iload_n 2, 1) := by decide +kernel
theorem dX2_take_52 : decode cX2_take 52 = .ok (.iload 4, 2) := by decide +kernel
theorem dX2_take_54 : decode cX2_take 54 = .ok (.iadd, 1) := by decide +kernel
theorem dX2_take_55 : decode cX2_take 55 = .ok (.iastore, 1) := by decide +kernel
theorem dX2_take_56 : decode cX2_take 56 = .ok (.aload_n 0, 1) := by decide +kernel
theorem dX2_take_57 : decode cX2_take 57 = .ok (.getfield 11, 3) := by decide +kernel
theorem dX2_take_60 : decode cX2_take 60 = .ok (.aload_n 0, 1) := by decide +kernel
theorem dX2_take_61 : decode cX2_take 61 = .ok (.getfield 16, 3) := by decide +kernel
theorem dX2_take_64 : decode cX2_take 64 = .ok (.aaload, 1) := by decide +kernel
theorem dX2_take_65 : decode cX2_take 65 = .ok (.iconst 2, 1) := by decide +kernel
theorem dX2_take_66 : decode cX2_take 66 = .ok (.iload 4, 2) := by decide +kernel
theorem dX2_take_68 : decode cX2_take 68 = .ok (.iastore, 1) := by decide +kernel
theorem dX2_take_69 : decode cX2_take 69 = .ok (.aload_n 0, 1) := by decide +kernel
theorem dX2_take_70 : decode cX2_take 70 = .ok (.getfield 11, 3) := by decide +kernel
theorem dX2_take_73 : decode cX2_take 73 = .ok (.aload_n 0, 1) := by decide +kernel
theorem dX2_take_74 : decode cX2_take 74 = .ok (.getfield 16, 3) := by decide +kernel
theorem dX2_take_77 : decode cX2_take 77 = .ok (.aaload, 1) := by decide +kernel
theorem dX2_take_78 : decode cX2_take 78 = .ok (.iconst 3, 1) := by decide +kernel
theorem dX2_take_79 : decode cX2_take 79 = .ok (.iload_n 3, 1) := by decide +kernel
theorem dX2_take_80 : decode cX2_take 80 = .ok (.iastore, 1) := by decide +kernel
theorem dX2_take_81 : decode cX2_take 81 = .ok (.aload_n 0, 1) := by decide +kernel
theorem dX2_take_82 : decode cX2_take 82 = .ok (.dup, 1) := by decide +kernel
theorem dX2_take_83 : decode cX2_take 83 = .ok (.getfield 16, 3) := by decide +kernel
theorem dX2_take_86 : decode cX2_take 86 = .ok (.iconst 1, 1) := by decide +kernel
theorem dX2_take_87 : decode cX2_take 87 = .ok (.iadd, 1) := by decide +kernel
theorem dX2_take_88 : decode cX2_take 88 = .ok (.putfield 16, 3) := by decide +kernel
theorem dX2_take_91 : decode cX2_take 91 = .ok (.aload_n 0, 1) := by decide +kernel
theorem dX2_take_92 : decode cX2_take 92 = .ok (.dup, 1) := by decide +kernel
theorem dX2_take_93 : decode cX2_take 93 = .ok (.getfield 20, 3) := by decide +kernel
theorem dX2_take_96 : decode cX2_take 96 = .ok (.aload_n 1, 1) := by decide +kernel
theorem dX2_take_97 : decode cX2_take 97 = .ok (.getfield 47, 3) := by decide +kernel
theorem dX2_take_100 : decode cX2_take 100 = .ok (.iadd, 1) := by decide +kernel
theorem dX2_take_101 : decode cX2_take 101 = .ok (.putfield 20, 3) := by decide +kernel
theorem dX2_take_104 : decode cX2_take 104 = .ok (.aload_n 1, 1) := by decide +kernel
theorem dX2_take_105 : decode cX2_take 105 = .ok (.iconst 1, 1) := by decide +kernel
theorem dX2_take_106 : decode cX2_take 106 = .ok (.putfield 48, 3) := by decide +kernel
theorem dX2_take_109 : decode cX2_take 109 = .ok (.aload_n 0, 1) := by decide +kernel
theorem dX2_take_110 : decode cX2_take 110 = .ok (.aload_n 1, 1) := by decide +kernel
theorem dX2_take_111 : decode cX2_take 111 = .ok (.putfield 23, 3) := by decide +kernel
theorem dX2_take_114 : decode cX2_take 114 = .ok (.iload_n 2, 1) := by decide +kernel
theorem dX2_take_115 : decode cX2_take 115 = .ok (.iload 4, 2) := by decide +kernel
theorem dX2_take_117 : decode cX2_take 117 = .ok (.iadd, 1) := by decide +kernel
theorem dX2_take_118 : decode cX2_take 118 = .ok (.aload_n 1, 1) := by decide +kernel
theorem dX2_take_119 : decode cX2_take 119 = .ok (.getfield 47, 3) := by decide +kernel
theorem dX2_take_122 : decode cX2_take 122 = .ok (.iadd, 1) := by decide +kernel
theorem dX2_take_123 : decode cX2_take 123 = .ok (.ireturn, 1) := by decide +kernel
theorem dX3_init_0 : decode cX3_init 0 = .ok (.aload_n 0, 1) := by decide +kernel
theorem dX3_init_1 : decode cX3_init 1 = .ok (.invokespecial 1, 3) := by decide +kernel
theorem dX3_init_4 : decode cX3_init 4 = .ok (.aload_n 0, 1) := by decide +kernel
theorem dX3_init_5 : decode cX3_init 5 = .ok (.iload_n 1, 1) := by decide +kernel
theorem dX3_init_6 : decode cX3_init 6 = .ok (.putfield 7, 3) := by decide +kernel
theorem dX3_init_9 : decode cX3_init 9 = .ok (.aload_n 0, 1) := by decide +kernel
theorem dX3_init_10 : decode cX3_init 10 = .ok (.iload_n 2, 1) := by decide +kernel
theorem dX3_init_11 : decode cX3_init 11 = .ok (.putfield 13, 3) := by decide +kernel
theorem dX3_init_14 : decode cX3_init 14 = .ok (.aload_n 0, 1) := by decide +kernel
theorem dX3_init_15 : decode cX3_init 15 = .ok (.iload_n 2, 1) := by decide +kernel
theorem dX3_init_16 : decode cX3_init 16 = .ok (.invokestatic 16, 3) := by decide +kernel
theorem dX3_init_19 : decode cX3_init 19 = .ok (.putfield 22, 3) := by decide +kernel
theorem dX3_init_22 : decode cX3_init 22 = .ok (.aload_n 0, 1) := by decide +kernel
theorem dX3_init_23 : decode cX3_init 23 = .ok (.iload_n 2, 1) := by decide +kernel
theorem dX3_init_24 : decode cX3_init 24 = .ok (.bipush 90, 2) := by decide +kernel
theorem dX3_init_26 : decode cX3_init 26 = .ok (.iadd, 1) := by decide +kernel
theorem dX3_init_27 : decode cX3_init 27 = .ok (.invokestatic 16, 3) := by decide +kernel
theorem dX3_init_30 : decode cX3_init 30 = .ok (.putfield 25, 3) := by decide +kernel
theorem dX3_init_33 : decode cX3_init 33 = .ok (.return_, 1) := by decide +kernel
theorem dX4_init_0 : decode cX4_init 0 = .ok (.aload_n 0, 1) := by decide +kernel
theorem dX4_init_1 : decode cX4_init 1 = .ok (.invokespecial 1, 3) := by decide +kernel
theorem dX4_init_4 : decode cX4_init 4 = .ok (.aload_n 0, 1) := by decide +kernel
theorem dX4_init_5 : decode cX4_init 5 = .ok (.new 7, 3) := by decide +kernel
theorem dX4_init_8 : decode cX4_init 8 = .ok (.dup, 1) := by decide +kernel
theorem dX4_init_9 : decode cX4_init 9 = .ok (.invokespecial 9, 3) := by decide +kernel
theorem dX4_init_12 : decode cX4_init 12 = .ok (.putfield 10, 3) := by decide +kernel
theorem dX4_init_15 : decode cX4_init 15 = .ok (.aload_n 0, 1) := by decide +kernel
theorem dX4_init_16 : decode cX4_init 16 = .ok (.sipush 300, 3) := by decide +kernel
theorem dX4_init_19 : decode cX4_init 19 = .ok (.putfield 16, 3) := by decide +kernel
theorem dX4_init_22 : decode cX4_init 22 = .ok (.aload_n 0, 1) := by decide +kernel
theorem dX4_init_23 : decode cX4_init 23 = .ok (.iconst 1, 1) := by decide +kernel
theorem dX4_init_24 : decode cX4_init 24 = .ok (.putfield 20, 3) := by decide +kernel
theorem dX4_init_27 : decode cX4_init 27 = .ok (.aload_n 0, 1) := by decide +kernel
theorem dX4_init_28 : decode cX4_init 28 = .ok (.iconst 1, 1) := by decide +kernel
theorem dX4_init_29 : decode cX4_init 29 = .ok (.putfield 23, 3) := by decide +kernel
theorem dX4_init_32 : decode cX4_init 32 = .ok (.aload_n 0, 1) := by decide +kernel
theorem dX4_init_33 : decode cX4_init 33 = .ok (.iconst (-1), 1) := by decide +kernel
theorem dX4_init_34 : decode cX4_init 34 = .ok (.putfield 26, 3) := by decide +kernel
theorem dX4_init_37 : decode cX4_init 37 = .ok (.aload_n 0, 1) := by decide +kernel
theorem dX4_init_38 : decode cX4_init 38 = .ok (.iload_n 1, 1) := by decide +kernel
theorem dX4_init_39 : decode cX4_init 39 = .ok (.putfield 29, 3) := by decide +kernel
theorem dX4_init_42 : decode cX4_init 42 = .ok (.aload_n 0, 1) := by decide +kernel
theorem dX4_init_43 : decode cX4_init 43 = .ok (.aload_n 2, 1) := by decide +kernel
theorem dX4_init_44 : decode cX4_init 44 = .ok (.putfield 32, 3) := by decide +kernel
theorem dX4_init_47 : decode cX4_init 47 = .ok (.aload_n 0, 1) := by decide +kernel
theorem dX4_init_48 : decode cX4_init 48 = .ok (.iload_n 3, 1) := by decide +kernel
theorem dX4_init_49 : decode cX4_init 49 = .ok (.putfield 36, 3) := by decide +kernel
theorem dX4_init_52 : decode cX4_init 52 = .ok (.aload_n 0, 1) := by decide +kernel
theorem dX4_init_53 : decode cX4_init 53 = .ok (.iload 4, 2) := by decide +kernel
theorem dX4_init_55 : decode cX4_init 55 = .ok (.putfield 39, 3) := by decide +kernel
theorem dX4_init_58 : decode cX4_init 58 = .ok (.aload_n 0, 1) := by decide +kernel
theorem dX4_init_59 : decode cX4_init 59 = .ok (.iload 5, 2) := by decide +kernel
theorem dX4_init_61 : decode cX4_init 61 = .ok (.putfield 42, 3) := by decide +kernel
theorem dX4_init_64 : decode cX4_init 64 = .ok (.return_, 1) := by decide +kernel
theorem dX4_isOpenOn_0 : decode cX4_isOpenOn 0 = .ok (.aload_n 0, 1) := by decide +kernel
theorem dX4_isOpenOn_1 : decode cX4_isOpenOn 1 = .ok (.getfield 45, 3) := by decide +kernel
theorem dX4_isOpenOn_4 : decode cX4_isOpenOn 4 = .ok (.aload_n 0, 1) := by decide +kernel
theorem dX4_isOpenOn_5 : decode cX4_isOpenOn 5 = .ok (.getfield 20, 3) := by decide +kernel
theorem dX4_isOpenOn_8 : decode cX4_isOpenOn 8 = .ok (.if_icmp .ge 27, 3) := by decide +kernel
theorem dX4_isOpenOn_11 : decode cX4_isOpenOn 11 = .ok (.aload_n 0, 1) := by decide +kernel
theorem dX4_isOpenOn_12 : decode cX4_isOpenOn 12 = .ok (.getfield 45, 3) := by decide +kernel
theorem dX4_isOpenOn_15 : decode cX4_isOpenOn 15 = .ok (.ifCond .eq 16, 3) := by decide +kernel
theorem dX4_isOpenOn_18 : decode cX4_isOpenOn 18 = .ok (.iload_n 1, 1) := by decide +kernel
theorem dX4_isOpenOn_19 : decode cX4_isOpenOn 19 = .ok (.aload_n 0, 1) := by decide +kernel
theorem dX4_isOpenOn_20 : decode cX4_isOpenOn 20 = .ok (.getfield 26, 3) := by decide +kernel
theorem dX4_isOpenOn_23 : decode cX4_isOpenOn 23 = .ok (.isub, 1) := by decide +kernel
theorem dX4_isOpenOn_24 : decode cX4_isOpenOn 24 = .ok (.aload_n 0, 1) := by decide +kernel
theorem dX4_isOpenOn_25 : decode cX4_isOpenOn 25 = .ok (.getfield 23, 3) := by decide +kernel
theorem dX4_isOpenOn_28 : decode cX4_isOpenOn 28 = .ok (.if_icmp .lt 7, 3) := by decide +kernel
theorem dX4_isOpenOn_31 : decode cX4_isOpenOn 31 = .ok (.iconst 1, 1) := by decide +kernel
theorem dX4_isOpenOn_32 : decode cX4_isOpenOn 32 = .ok (.goto 4, 3) := by decide +kernel
theorem dX4_isOpenOn_35 : decode cX4_isOpenOn 35 = .ok (.iconst 0, 1) := by decide +kernel
theorem dX4_isOpenOn_36 : decode cX4_isOpenOn 36 = .ok (.ireturn, 1) := by decide +kernel
theorem dX4_takeVisit_0 : decode cX4_takeVisit 0 = .ok (.aload_n 0, 1) := by decide +kernel
theorem dX4_takeVisit_1 : decode cX4_takeVisit 1 = .ok (.getfield 48, 3) := by decide +kernel
theorem dX4_takeVisit_4 : decode cX4_takeVisit 4 = .ok (.ifCond .eq 18, 3) := by decide +kernel
theorem dX4_takeVisit_7 : decode cX4_takeVisit 7 = .ok (.aload_n 0, 1) := by decide +kernel
theorem dX4_takeVisit_8 : decode cX4_takeVisit 8 = .ok (.dup, 1) := by decide +kernel
theorem dX4_takeVisit_9 : decode cX4_takeVisit 9 = .ok (.getfield 45, 3) := by decide +kernel
theorem dX4_takeVisit_12 : decode cX4_takeVisit 12 = .ok (.iconst 1, 1) := by decide +kernel
theorem dX4_takeVisit_13 : decode cX4_takeVisit 13 = .ok (.iadd, 1) := by decide +kernel
theorem dX4_takeVisit_14 : decode cX4_takeVisit 14 = .ok (.putfield 45, 3) := by decide +kernel
theorem dX4_takeVisit_17 : decode cX4_takeVisit 17 = .ok (.aload_n 0, 1) := by decide +kernel
theorem dX4_takeVisit_18 : decode cX4_takeVisit 18 = .ok (.iload_n 1, 1) := by decide +kernel
theorem dX4_takeVisit_19 : decode cX4_takeVisit 19 = .ok (.putfield 26, 3) := by decide +kernel
theorem dX4_takeVisit_22 : decode cX4_takeVisit 22 = .ok (.return_, 1) := by decide +kernel
theorem dX4_fact_0 : decode cX4_fact 0 = .ok (.iload_n 1, 1) := by decide +kernel
theorem dX4_fact_1 : decode cX4_fact 1 = .ok (.tableswitch 102 0 8 #[51, 59, 67, 72, 77, 82, 87, 92, 97], 51) := by decide +kernel
theorem dX4_fact_52 : decode cX4_fact 52 = .ok (.aload_n 0, 1) := by decide +kernel
theorem dX4_fact_53 : decode cX4_fact 53 = .ok (.getfield 32, 3) := by decide +kernel
theorem dX4_fact_56 : decode cX4_fact 56 = .ok (.getfield 52, 3) := by decide +kernel
theorem dX4_fact_59 : decode cX4_fact 59 = .ok (.ireturn, 1) := by decide +kernel
theorem dX4_fact_60 : decode cX4_fact 60 = .ok (.aload_n 0, 1) := by decide +kernel
theorem dX4_fact_61 : decode cX4_fact 61 = .ok (.getfield 32, 3) := by decide +kernel
theorem dX4_fact_64 : decode cX4_fact 64 = .ok (.getfield 57, 3) := by decide +kernel
theorem dX4_fact_67 : decode cX4_fact 67 = .ok (.ireturn, 1) := by decide +kernel
theorem dX4_fact_68 : decode cX4_fact 68 = .ok (.aload_n 0, 1) := by decide +kernel
theorem dX4_fact_69 : decode cX4_fact 69 = .ok (.getfield 36, 3) := by decide +kernel
theorem dX4_fact_72 : decode cX4_fact 72 = .ok (.ireturn, 1) := by decide +kernel
theorem dX4_fact_73 : decode cX4_fact 73 = .ok (.aload_n 0, 1) := by decide +kernel
theorem dX4_fact_74 : decode cX4_fact 74 = .ok (.getfield 39, 3) := by decide +kernel
theorem dX4_fact_77 : decode cX4_fact 77 = .ok (.ireturn, 1) := by decide +kernel
theorem dX4_fact_78 : decode cX4_fact 78 = .ok (.aload_n 0, 1) := by decide +kernel
theorem dX4_fact_79 : decode cX4_fact 79 = .ok (.getfield 16, 3) := by decide +kernel
theorem dX4_fact_82 : decode cX4_fact 82 = .ok (.ireturn, 1) := by decide +kernel
theorem dX4_fact_83 : decode cX4_fact 83 = .ok (.aload_n 0, 1) := by decide +kernel
theorem dX4_fact_84 : decode cX4_fact 84 = .ok (.getfield 42, 3) := by decide +kernel
theorem dX4_fact_87 : decode cX4_fact 87 = .ok (.ireturn, 1) := by decide +kernel
theorem dX4_fact_88 : decode cX4_fact 88 = .ok (.aload_n 0, 1) := by decide +kernel
theorem dX4_fact_89 : decode cX4_fact 89 = .ok (.getfield 20, 3) := by decide +kernel
theorem dX4_fact_92 : decode cX4_fact 92 = .ok (.ireturn, 1) := by decide +kernel
theorem dX4_fact_93 : decode cX4_fact 93 = .ok (.aload_n 0, 1) := by decide +kernel
theorem dX4_fact_94 : decode cX4_fact 94 = .ok (.getfield 23, 3) := by decide +kernel
theorem dX4_fact_97 : decode cX4_fact 97 = .ok (.ireturn, 1) := by decide +kernel
theorem dX4_fact_98 : decode cX4_fact 98 = .ok (.aload_n 0, 1) := by decide +kernel
theorem dX4_fact_99 : decode cX4_fact 99 = .ok (.getfield 45, 3) := by decide +kernel
theorem dX4_fact_102 : decode cX4_fact 102 = .ok (.ireturn, 1) := by decide +kernel
theorem dX4_fact_103 : decode cX4_fact 103 = .ok (.aload_n 0, 1) := by decide +kernel
theorem dX4_fact_104 : decode cX4_fact 104 = .ok (.getfield 26, 3) := by decide +kernel
theorem dX4_fact_107 : decode cX4_fact 107 = .ok (.ireturn, 1) := by decide +kernel
theorem dX5_init_0 : decode cX5_init 0 = .ok (.aload_n 0, 1) := by decide +kernel
theorem dX5_init_1 : decode cX5_init 1 = .ok (.invokespecial 1, 3) := by decide +kernel
theorem dX5_init_4 : decode cX5_init 4 = .ok (.aload_n 0, 1) := by decide +kernel
theorem dX5_init_5 : decode cX5_init 5 = .ok (.new 7, 3) := by decide +kernel
theorem dX5_init_8 : decode cX5_init 8 = .ok (.dup, 1) := by decide +kernel
theorem dX5_init_9 : decode cX5_init 9 = .ok (.iconst 0, 1) := by decide +kernel
theorem dX5_init_10 : decode cX5_init 10 = .ok (.bipush 50, 2) := by decide +kernel
theorem dX5_init_12 : decode cX5_init 12 = .ok (.invokespecial 9, 3) := by decide +kernel
theorem dX5_init_15 : decode cX5_init 15 = .ok (.putfield 12, 3) := by decide +kernel
theorem dX5_init_18 : decode cX5_init 18 = .ok (.aload_n 0, 1) := by decide +kernel
theorem dX5_init_19 : decode cX5_init 19 = .ok (.new 7, 3) := by decide +kernel
theorem dX5_init_22 : decode cX5_init 22 = .ok (.dup, 1) := by decide +kernel
theorem dX5_init_23 : decode cX5_init 23 = .ok (.iconst 0, 1) := by decide +kernel
theorem dX5_init_24 : decode cX5_init 24 = .ok (.iconst 0, 1) := by decide +kernel
theorem dX5_init_25 : decode cX5_init 25 = .ok (.invokespecial 9, 3) := by decide +kernel
theorem dX5_init_28 : decode cX5_init 28 = .ok (.putfield 18, 3) := by decide +kernel
theorem dX5_init_31 : decode cX5_init 31 = .ok (.aload_n 0, 1) := by decide +kernel
theorem dX5_init_32 : decode cX5_init 32 = .ok (.sipush 600, 3) := by decide +kernel
theorem dX5_init_35 : decode cX5_init 35 = .ok (.putfield 21, 3) := by decide +kernel
theorem dX5_init_38 : decode cX5_init 38 = .ok (.aload_n 0, 1) := by decide +kernel
theorem dX5_init_39 : decode cX5_init 39 = .ok (.new 25, 3) := by decide +kernel
theorem dX5_init_42 : decode cX5_init 42 = .ok (.dup, 1) := by decide +kernel
theorem dX5_init_43 : decode cX5_init 43 = .ok (.invokespecial 27, 3) := by decide +kernel
theorem dX5_init_46 : decode cX5_init 46 = .ok (.putfield 28, 3) := by decide +kernel
theorem dX5_init_49 : decode cX5_init 49 = .ok (.aload_n 0, 1) := by decide +kernel
theorem dX5_init_50 : decode cX5_init 50 = .ok (.new 32, 3) := by decide +kernel
theorem dX5_init_53 : decode cX5_init 53 = .ok (.dup, 1) := by decide +kernel
theorem dX5_init_54 : decode cX5_init 54 = .ok (.invokespecial 34, 3) := by decide +kernel
theorem dX5_init_57 : decode cX5_init 57 = .ok (.putfield 35, 3) := by decide +kernel
theorem dX5_init_60 : decode cX5_init 60 = .ok (.aload_n 0, 1) := by decide +kernel
theorem dX5_init_61 : decode cX5_init 61 = .ok (.new 39, 3) := by decide +kernel
theorem dX5_init_64 : decode cX5_init 64 = .ok (.dup, 1) := by decide +kernel
theorem dX5_init_65 : decode cX5_init 65 = .ok (.invokespecial 41, 3) := by decide +kernel
theorem dX5_init_68 : decode cX5_init 68 = .ok (.putfield 42, 3) := by decide +kernel
theorem dX5_init_71 : decode cX5_init 71 = .ok (.return_, 1) := by decide +kernel
theorem dX5_setSite_0 : decode cX5_setSite 0 = .ok (.iload_n 1, 1) := by decide +kernel
theorem dX5_setSite_1 : decode cX5_setSite 1 = .ok (.bipush (-90), 2) := by decide +kernel
theorem dX5_setSite_3 : decode cX5_setSite 3 = .ok (.bipush 90, 2) := by decide +kernel
theorem dX5_setSite_5 : decode cX5_setSite 5 = .ok (.invokestatic 46, 3) := by decide +kernel
theorem dX5_setSite_8 : decode cX5_setSite 8 = .ok (.ifCond .eq 14, 3) := by decide +kernel
theorem dX5_setSite_11 : decode cX5_setSite 11 = .ok (.iload_n 2, 1) := by decide +kernel
theorem dX5_setSite_12 : decode cX5_setSite 12 = .ok (.iconst 0, 1) := by decide +kernel
theorem dX5_setSite_13 : decode cX5_setSite 13 = .ok (.sipush 1439, 3) := by decide +kernel
theorem dX5_setSite_16 : decode cX5_setSite 16 = .ok (.invokestatic 46, 3) := by decide +kernel
theorem dX5_setSite_19 : decode cX5_setSite 19 = .ok (.ifCond .ne 13, 3) := by decide +kernel
theorem dX5_setSite_22 : decode cX5_setSite 22 = .ok (.new 50, 3) := by decide +kernel
theorem dX5_setSite_25 : decode cX5_setSite 25 = .ok (.dup, 1) := by decide +kernel
theorem dX5_setSite_26 : decode cX5_setSite 26 = .ok (.ldc 52, 2) := by decide +kernel
theorem dX5_setSite_28 : decode cX5_setSite 28 = .ok (.invokespecial 54, 3) := by decide +kernel
theorem dX5_setSite_31 : decode cX5_setSite 31 = .ok (.athrow, 1) := by decide +kernel
theorem dX5_setSite_32 : decode cX5_setSite 32 = .ok (.aload_n 0, 1) := by decide +kernel
theorem dX5_setSite_33 : decode cX5_setSite 33 = .ok (.getfield 12, 3) := by decide +kernel
theorem dX5_setSite_36 : decode cX5_setSite 36 = .ok (.getfield 57, 3) := by decide +kernel
theorem dX5_setSite_39 : decode cX5_setSite 39 = .ok (.istore_n 3, 1) := by decide +kernel
theorem dX5_setSite_40 : decode cX5_setSite 40 = .ok (.aload_n 0, 1) := by decide +kernel
theorem dX5_setSite_41 : decode cX5_setSite 41 = .ok (.new 7, 3) := by decide +kernel
theorem dX5_setSite_44 : decode cX5_setSite 44 = .ok (.dup, 1) := by decide +kernel
theorem dX5_setSite_45 : decode cX5_setSite 45 = .ok (.iload_n 2, 1) := by decide +kernel
theorem dX5_setSite_46 : decode cX5_setSite 46 = .ok (.iload_n 1, 1) := by decide +kernel
theorem dX5_setSite_47 : decode cX5_setSite 47 = .ok (.invokespecial 9, 3) := by decide +kernel
theorem dX5_setSite_50 : decode cX5_setSite 50 = .ok (.putfield 12, 3) := by decide +kernel
theorem dX5_setSite_53 : decode cX5_setSite 53 = .ok (.aload_n 0, 1) := by decide +kernel
theorem dX5_setSite_54 : decode cX5_setSite 54 = .ok (.invokevirtual 60, 3) := by decide +kernel
theorem dX5_setSite_57 : decode cX5_setSite 57 = .ok (.iload_n 3, 1) := by decide +kernel
theorem dX5_setSite_58 : decode cX5_setSite 58 = .ok (.ireturn, 1) := by decide +kernel
theorem dX5_setLength_0 : decode cX5_setLength 0 = .ok (.iload_n 1, 1) := by decide +kernel
theorem dX5_setLength_1 : decode cX5_setLength 1 = .ok (.bipush 60, 2) := by decide +kernel
theorem dX5_setLength_3 : decode cX5_setLength 3 = .ok (.sipush 900, 3) := by decide +kernel
theorem dX5_setLength_6 : decode cX5_setLength 6 = .ok (.invokestatic 46, 3) := by decide +kernel
theorem dX5_setLength_9 : decode cX5_setLength 9 = .ok (.ifCond .ne 13, 3) := by decide +kernel
theorem dX5_setLength_12 : decode cX5_setLength 12 = .ok (.new 50, 3) := by decide +kernel
theorem dX5_setLength_15 : decode cX5_setLength 15 = .ok (.dup, 1) := by decide +kernel
theorem dX5_setLength_16 : decode cX5_setLength 16 = .ok (.ldc 63, 2) := by decide +kernel
theorem dX5_setLength_18 : decode cX5_setLength 18 = .ok (.invokespecial 54, 3) := by decide +kernel
theorem dX5_setLength_21 : decode cX5_setLength 21 = .ok (.athrow, 1) := by decide +kernel
theorem dX5_setLength_22 : decode cX5_setLength 22 = .ok (.aload_n 0, 1) := by decide +kernel
theorem dX5_setLength_23 : decode cX5_setLength 23 = .ok (.getfield 21, 3) := by decide +kernel
theorem dX5_setLength_26 : decode cX5_setLength 26 = .ok (.istore_n 2, 1) := by decide +kernel
theorem dX5_setLength_27 : decode cX5_setLength 27 = .ok (.aload_n 0, 1) := by decide +kernel
theorem dX5_setLength_28 : decode cX5_setLength 28 = .ok (.iload_n 1, 1) := by decide +kernel
theorem dX5_setLength_29 : decode cX5_setLength 29 = .ok (.putfield 21, 3) := by decide +kernel
theorem dX5_setLength_32 : decode cX5_setLength 32 = .ok (.aload_n 0, 1) := by decide +kernel
theorem dX5_setLength_33 : decode cX5_setLength 33 = .ok (.invokevirtual 60, 3) := by decide +kernel
theorem dX5_setLength_36 : decode cX5_setLength 36 = .ok (.iload_n 2, 1) := by decide +kernel
theorem dX5_setLength_37 : decode cX5_setLength 37 = .ok (.ireturn, 1) := by decide +kernel
theorem dX5_setMoon_0 : decode cX5_setMoon 0 = .ok (.iload_n 1, 1) := by decide +kernel
theorem dX5_setMoon_1 : decode cX5_setMoon 1 = .ok (.iload_n 2, 1) := by decide +kernel
theorem dX5_setMoon_2 : decode cX5_setMoon 2 = .ok (.invokestatic 65, 3) := by decide +kernel
theorem dX5_setMoon_5 : decode cX5_setMoon 5 = .ok (.ifCond .eq 13, 3) := by decide +kernel
theorem dX5_setMoon_8 : decode cX5_setMoon 8 = .ok (.iload_n 3, 1) := by decide +kernel
theorem dX5_setMoon_9 : decode cX5_setMoon 9 = .ok (.iconst 0, 1) := by decide +kernel
theorem dX5_setMoon_10 : decode cX5_setMoon 10 = .ok (.bipush 29, 2) := by decide +kernel
theorem dX5_setMoon_12 : decode cX5_setMoon 12 = .ok (.invokestatic 46, 3) := by decide +kernel
theorem dX5_setMoon_15 : decode cX5_setMoon 15 = .ok (.ifCond .ne 13, 3) := by decide +kernel
theorem dX5_setMoon_18 : decode cX5_setMoon 18 = .ok (.new 50, 3) := by decide +kernel
theorem dX5_setMoon_21 : decode cX5_setMoon 21 = .ok (.dup, 1) := by decide +kernel
theorem dX5_setMoon_22 : decode cX5_setMoon 22 = .ok (.ldc 69, 2) := by decide +kernel
theorem dX5_setMoon_24 : decode cX5_setMoon 24 = .ok (.invokespecial 54, 3) := by decide +kernel
theorem dX5_setMoon_27 : decode cX5_setMoon 27 = .ok (.athrow, 1) := by decide +kernel
theorem dX5_setMoon_28 : decode cX5_setMoon 28 = .ok (.aload_n 0, 1) := by decide +kernel
theorem dX5_setMoon_29 : decode cX5_setMoon 29 = .ok (.new 7, 3) := by decide +kernel
theorem dX5_setMoon_32 : decode cX5_setMoon 32 = .ok (.dup, 1) := by decide +kernel
theorem dX5_setMoon_33 : decode cX5_setMoon 33 = .ok (.iload_n 1, 1) := by decide +kernel
theorem dX5_setMoon_34 : decode cX5_setMoon 34 = .ok (.iload_n 2, 1) := by decide +kernel
theorem dX5_setMoon_35 : decode cX5_setMoon 35 = .ok (.invokespecial 9, 3) := by decide +kernel
theorem dX5_setMoon_38 : decode cX5_setMoon 38 = .ok (.putfield 18, 3) := by decide +kernel
theorem dX5_setMoon_41 : decode cX5_setMoon 41 = .ok (.aload_n 0, 1) := by decide +kernel
theorem dX5_setMoon_42 : decode cX5_setMoon 42 = .ok (.iload_n 3, 1) := by decide +kernel
theorem dX5_setMoon_43 : decode cX5_setMoon 43 = .ok (.putfield 71, 3) := by decide +kernel
theorem dX5_setMoon_46 : decode cX5_setMoon 46 = .ok (.aload_n 0, 1) := by decide +kernel
theorem dX5_setMoon_47 : decode cX5_setMoon 47 = .ok (.invokevirtual 60, 3) := by decide +kernel
theorem dX5_setMoon_50 : decode cX5_setMoon 50 = .ok (.aload_n 0, 1) := by decide +kernel
theorem dX5_setMoon_51 : decode cX5_setMoon 51 = .ok (.invokevirtual 74, 3) := by decide +kernel
theorem dX5_setMoon_54 : decode cX5_setMoon 54 = .ok (.ireturn, 1) := by decide +kernel
theorem dX5_addClouds_0 : decode cX5_addClouds 0 = .ok (.iload_n 1, 1) := by decide +kernel
theorem dX5_addClouds_1 : decode cX5_addClouds 1 = .ok (.ifCond .lt 16, 3) := by decide +kernel
theorem dX5_addClouds_4 : decode cX5_addClouds 4 = .ok (.iload_n 1, 1) := by decide +kernel
theorem dX5_addClouds_5 : decode cX5_addClouds 5 = .ok (.iload_n 2, 1) := by decide +kernel
theorem dX5_addClouds_6 : decode cX5_addClouds 6 = .ok (.if_icmp .gt 11, 3) := by decide +kernel
theorem dX5_addClouds_9 : decode cX5_addClouds 9 = .ok (.iload_n 2, 1) := by decide +kernel
theorem dX5_addClouds_10 : decode cX5_addClouds 10 = .ok (.aload_n 0, 1) := by decide +kernel
theorem dX5_addClouds_11 : decode cX5_addClouds 11 = .ok (.getfield 21, 3) := by decide +kernel
theorem dX5_addClouds_14 : decode cX5_addClouds 14 = .ok (.if_icmp .lt 13, 3) := by decide +kernel
theorem dX5_addClouds_17 : decode cX5_addClouds 17 = .ok (.new 50, 3) := by decide +kernel
theorem dX5_addClouds_20 : decode cX5_addClouds 20 = .ok (.dup, 1) := by decide +kernel
theorem dX5_addClouds_21 : decode cX5_addClouds 21 = .ok (.ldc 78, 2) := by decide +kernel
theorem dX5_addClouds_23 : decode cX5_addClouds 23 = .ok (.invokespecial 54, 3) := by decide +kernel
theorem dX5_addClouds_26 : decode cX5_addClouds 26 = .ok (.athrow, 1) := by decide +kernel
theorem dX5_addClouds_27 : decode cX5_addClouds 27 = .ok (.aload_n 0, 1) := by decide +kernel
theorem dX5_addClouds_28 : decode cX5_addClouds 28 = .ok (.getfield 28, 3) := by decide +kernel
theorem dX5_addClouds_31 : decode cX5_addClouds 31 = .ok (.getfield 80, 3) := by decide +kernel
theorem dX5_addClouds_34 : decode cX5_addClouds 34 = .ok (.bipush 8, 2) := by decide +kernel
theorem dX5_addClouds_36 : decode cX5_addClouds 36 = .ok (.if_icmp .lt 13, 3) := by decide +kernel
theorem dX5_addClouds_39 : decode cX5_addClouds 39 = .ok (.new 83, 3) := by decide +kernel
theorem dX5_addClouds_42 : decode cX5_addClouds 42 = .ok (.dup, 1) := by decide +kernel
theorem dX5_addClouds_43 : decode cX5_addClouds 43 = .ok (.ldc 85, 2) := by decide +kernel
theorem dX5_addClouds_45 : decode cX5_addClouds 45 = .ok (.invokespecial 87, 3) := by decide +kernel
theorem dX5_addClouds_48 : decode cX5_addClouds 48 = .ok (.athrow, 1) := by decide +kernel
theorem dX5_addClouds_49 : decode cX5_addClouds 49 = .ok (.aload_n 0, 1) := by decide +kernel
theorem dX5_addClouds_50 : decode cX5_addClouds 50 = .ok (.getfield 28, 3) := by decide +kernel
theorem dX5_addClouds_53 : decode cX5_addClouds 53 = .ok (.iload_n 1, 1) := by decide +kernel
theorem dX5_addClouds_54 : decode cX5_addClouds 54 = .ok (.iload_n 2, 1) := by decide +kernel
theorem dX5_addClouds_55 : decode cX5_addClouds 55 = .ok (.invokevirtual 88, 3) := by decide +kernel
theorem dX5_addClouds_58 : decode cX5_addClouds 58 = .ok (.aload_n 0, 1) := by decide +kernel
theorem dX5_addClouds_59 : decode cX5_addClouds 59 = .ok (.invokevirtual 60, 3) := by decide +kernel
theorem dX5_addClouds_62 : decode cX5_addClouds 62 = .ok (.aload_n 0, 1) := by decide +kernel
theorem dX5_addClouds_63 : decode cX5_addClouds 63 = .ok (.invokevirtual 91, 3) := by decide +kernel
theorem dX5_addClouds_66 : decode cX5_addClouds 66 = .ok (.ireturn, 1) := by decide +kernel
theorem dX5_sine_0 : decode cX5_sine 0 = .ok (.iload_n 1, 1) := by decide +kernel
theorem dX5_sine_1 : decode cX5_sine 1 = .ok (.sipush (-10000), 3) := by decide +kernel
theorem dX5_sine_4 : decode cX5_sine 4 = .ok (.sipush 10000, 3) := by decide +kernel
theorem dX5_sine_7 : decode cX5_sine 7 = .ok (.invokestatic 46, 3) := by decide +kernel
theorem dX5_sine_10 : decode cX5_sine 10 = .ok (.ifCond .ne 13, 3) := by decide +kernel
theorem dX5_sine_13 : decode cX5_sine 13 = .ok (.new 50, 3) := by decide +kernel
theorem dX5_sine_16 : decode cX5_sine 16 = .ok (.dup, 1) := by decide +kernel
theorem dX5_sine_17 : decode cX5_sine 17 = .ok (.ldc 94, 2) := by decide +kernel
theorem dX5_sine_19 : decode cX5_sine 19 = .ok (.invokespecial 54, 3) := by decide +kernel
theorem dX5_sine_22 : decode cX5_sine 22 = .ok (.athrow, 1) := by decide +kernel
theorem dX5_sine_23 : decode cX5_sine 23 = .ok (.iload_n 1, 1) := by decide +kernel
theorem dX5_sine_24 : decode cX5_sine 24 = .ok (.invokestatic 96, 3) := by decide +kernel
theorem dX5_sine_27 : decode cX5_sine 27 = .ok (.ireturn, 1) := by decide +kernel
theorem dX5_addTarget_0 : decode cX5_addTarget 0 = .ok (.iload_n 1, 1) := by decide +kernel
theorem dX5_addTarget_1 : decode cX5_addTarget 1 = .ok (.iload_n 2, 1) := by decide +kernel
theorem dX5_addTarget_2 : decode cX5_addTarget 2 = .ok (.invokestatic 65, 3) := by decide +kernel
theorem dX5_addTarget_5 : decode cX5_addTarget 5 = .ok (.ifCond .eq 34, 3) := by decide +kernel
theorem dX5_addTarget_8 : decode cX5_addTarget 8 = .ok (.iload_n 3, 1) := by decide +kernel
theorem dX5_addTarget_9 : decode cX5_addTarget 9 = .ok (.iconst 0, 1) := by decide +kernel
theorem dX5_addTarget_10 : decode cX5_addTarget 10 = .ok (.iconst 3, 1) := by decide +kernel
theorem dX5_addTarget_11 : decode cX5_addTarget 11 = .ok (.invokestatic 46, 3) := by decide +kernel
theorem dX5_addTarget_14 : decode cX5_addTarget 14 = .ok (.ifCond .eq 25, 3) := by decide +kernel
theorem dX5_addTarget_17 : decode cX5_addTarget 17 = .ok (.iload 4, 2) := by decide +kernel
theorem dX5_addTarget_19 : decode cX5_addTarget 19 = .ok (.iconst 1, 1) := by decide +kernel
theorem dX5_addTarget_20 : decode cX5_addTarget 20 = .ok (.bipush 9, 2) := by decide +kernel
theorem dX5_addTarget_22 : decode cX5_addTarget 22 = .ok (.invokestatic 46, 3) := by decide +kernel
theorem dX5_addTarget_25 : decode cX5_addTarget 25 = .ok (.ifCond .eq 14, 3) := by decide +kernel
theorem dX5_addTarget_28 : decode cX5_addTarget 28 = .ok (.iload 5, 2) := by decide +kernel
theorem dX5_addTarget_30 : decode cX5_addTarget 30 = .ok (.iconst 5, 1) := by decide +kernel
theorem dX5_addTarget_31 : decode cX5_addTarget 31 = .ok (.bipush 120, 2) := by decide +kernel
theorem dX5_addTarget_33 : decode cX5_addTarget 33 = .ok (.invokestatic 46, 3) := by decide +kernel
theorem dX5_addTarget_36 : decode cX5_addTarget 36 = .ok (.ifCond .ne 13, 3) := by decide +kernel
theorem dX5_addTarget_39 : decode cX5_addTarget 39 = .ok (.new 50, 3) := by decide +kernel
theorem dX5_addTarget_42 : decode cX5_addTarget 42 = .ok (.dup, 1) := by decide +kernel
theorem dX5_addTarget_43 : decode cX5_addTarget 43 = .ok (.ldc 100, 2) := by decide +kernel
theorem dX5_addTarget_45 : decode cX5_addTarget 45 = .ok (.invokespecial 54, 3) := by decide +kernel
theorem dX5_addTarget_48 : decode cX5_addTarget 48 = .ok (.athrow, 1) := by decide +kernel
theorem dX5_addTarget_49 : decode cX5_addTarget 49 = .ok (.aload_n 0, 1) := by decide +kernel
theorem dX5_addTarget_50 : decode cX5_addTarget 50 = .ok (.getfield 35, 3) := by decide +kernel
theorem dX5_addTarget_53 : decode cX5_addTarget 53 = .ok (.invokevirtual 102, 3) := by decide +kernel
theorem dX5_addTarget_56 : decode cX5_addTarget 56 = .ok (.bipush 20, 2) := by decide +kernel
theorem dX5_addTarget_58 : decode cX5_addTarget 58 = .ok (.if_icmp .lt 13, 3) := by decide +kernel
theorem dX5_addTarget_61 : decode cX5_addTarget 61 = .ok (.new 83, 3) := by decide +kernel
theorem dX5_addTarget_64 : decode cX5_addTarget 64 = .ok (.dup, 1) := by decide +kernel
theorem dX5_addTarget_65 : decode cX5_addTarget 65 = .ok (.ldc 105, 2) := by decide +kernel
theorem dX5_addTarget_67 : decode cX5_addTarget 67 = .ok (.invokespecial 87, 3) := by decide +kernel
theorem dX5_addTarget_70 : decode cX5_addTarget 70 = .ok (.athrow, 1) := by decide +kernel
theorem dX5_addTarget_71 : decode cX5_addTarget 71 = .ok (.aload_n 0, 1) := by decide +kernel
theorem dX5_addTarget_72 : decode cX5_addTarget 72 = .ok (.getfield 35, 3) := by decide +kernel
theorem dX5_addTarget_75 : decode cX5_addTarget 75 = .ok (.invokevirtual 102, 3) := by decide +kernel
theorem dX5_addTarget_78 : decode cX5_addTarget 78 = .ok (.istore 6, 2) := by decide +kernel
theorem dX5_addTarget_80 : decode cX5_addTarget 80 = .ok (.aload_n 0, 1) := by decide +kernel
theorem dX5_addTarget_81 : decode cX5_addTarget 81 = .ok (.getfield 35, 3) := by decide +kernel
theorem dX5_addTarget_84 : decode cX5_addTarget 84 = .ok (.new 107, 3) := by decide +kernel
theorem dX5_addTarget_87 : decode cX5_addTarget 87 = .ok (.dup, 1) := by decide +kernel
theorem dX5_addTarget_88 : decode cX5_addTarget 88 = .ok (.iload 6, 2) := by decide +kernel
theorem dX5_addTarget_90 : decode cX5_addTarget 90 = .ok (.new 7, 3) := by decide +kernel
theorem dX5_addTarget_93 : decode cX5_addTarget 93 = .ok (.dup, 1) := by decide +kernel
theorem dX5_addTarget_94 : decode cX5_addTarget 94 = .ok (.iload_n 1, 1) := by decide +kernel
theorem dX5_addTarget_95 : decode cX5_addTarget 95 = .ok (.iload_n 2, 1) := by decide +kernel
theorem dX5_addTarget_96 : decode cX5_addTarget 96 = .ok (.invokespecial 9, 3) := by decide +kernel
theorem dX5_addTarget_99 : decode cX5_addTarget 99 = .ok (.iload_n 3, 1) := by decide +kernel
theorem dX5_addTarget_100 : decode cX5_addTarget 100 = .ok (.iload 4, 2) := by decide +kernel
theorem dX5_addTarget_102 : decode cX5_addTarget 102 = .ok (.iload 5, 2) := by decide +kernel
theorem dX5_addTarget_104 : decode cX5_addTarget 104 = .ok (.invokespecial 109, 3) := by decide +kernel
theorem dX5_addTarget_107 : decode cX5_addTarget 107 = .ok (.invokevirtual 112, 3) := by decide +kernel
theorem dX5_addTarget_110 : decode cX5_addTarget 110 = .ok (.pop, 1) := by decide +kernel
theorem dX5_addTarget_111 : decode cX5_addTarget 111 = .ok (.aload_n 0, 1) := by decide +kernel
theorem dX5_addTarget_112 : decode cX5_addTarget 112 = .ok (.getfield 42, 3) := by decide +kernel
theorem dX5_addTarget_115 : decode cX5_addTarget 115 = .ok (.iconst 0, 1) := by decide +kernel
theorem dX5_addTarget_116 : decode cX5_addTarget 116 = .ok (.putfield 116, 3) := by decide +kernel
theorem dX5_addTarget_119 : decode cX5_addTarget 119 = .ok (.iload 6, 2) := by decide +kernel
theorem dX5_addTarget_121 : decode cX5_addTarget 121 = .ok (.ireturn, 1) := by decide +kernel
theorem dX5_want_0 : decode cX5_want 0 = .ok (.aload_n 0, 1) := by decide +kernel
theorem dX5_want_1 : decode cX5_want 1 = .ok (.iload_n 1, 1) := by decide +kernel
theorem dX5_want_2 : decode cX5_want 2 = .ok (.invokevirtual 120, 3) := by decide +kernel
theorem dX5_want_5 : decode cX5_want 5 = .ok (.astore 5, 2) := by decide +kernel
theorem dX5_want_7 : decode cX5_want 7 = .ok (.iload_n 2, 1) := by decide +kernel
theorem dX5_want_8 : decode cX5_want 8 = .ok (.sipush (-1000), 3) := by decide +kernel
theorem dX5_want_11 : decode cX5_want 11 = .ok (.sipush 1000, 3) := by decide +kernel
theorem dX5_want_14 : decode cX5_want 14 = .ok (.invokestatic 46, 3) := by decide +kernel
theorem dX5_want_17 : decode cX5_want 17 = .ok (.ifCond .eq 24, 3) := by decide +kernel
theorem dX5_want_20 : decode cX5_want 20 = .ok (.iload_n 3, 1) := by decide +kernel
theorem dX5_want_21 : decode cX5_want 21 = .ok (.iconst 1, 1) := by decide +kernel
theorem dX5_want_22 : decode cX5_want 22 = .ok (.bipush 10, 2) := by decide +kernel
theorem dX5_want_24 : decode cX5_want 24 = .ok (.invokestatic 46, 3) := by decide +kernel
theorem dX5_want_27 : decode cX5_want 27 = .ok (.ifCond .eq 14, 3) := by decide +kernel
theorem dX5_want_30 : decode cX5_want 30 = .ok (.iload 4, 2) := by decide +kernel
theorem dX5_want_32 : decode cX5_want 32 = .ok (.iconst 1, 1) := by decide +kernel
theorem dX5_want_33 : decode cX5_want 33 = .ok (.bipush 20, 2) := by decide +kernel
theorem dX5_want_35 : decode cX5_want 35 = .ok (.invokestatic 46, 3) := by decide +kernel
theorem dX5_want_38 : decode cX5_want 38 = .ok (.ifCond .ne 13, 3) := by decide +kernel
theorem dX5_want_41 : decode cX5_want 41 = .ok (.new 50, 3) := by decide +kernel
theorem dX5_want_44 : decode cX5_want 44 = .ok (.dup, 1) := by decide +kernel
theorem dX5_want_45 : decode cX5_want 45 = .ok (.ldc 124, 2) := by decide +kernel
theorem dX5_want_47 : decode cX5_want 47 = .ok (.invokespecial 54, 3) := by decide +kernel
theorem dX5_want_50 : decode cX5_want 50 = .ok (.athrow, 1) := by decide +kernel
theorem dX5_want_51 : decode cX5_want 51 = .ok (.aload 5, 2) := by decide +kernel
theorem dX5_want_53 : decode cX5_want 53 = .ok (.getfield 126, 3) := by decide +kernel
theorem dX5_want_56 : decode cX5_want 56 = .ok (.istore 6, 2) := by decide +kernel
theorem dX5_want_58 : decode cX5_want 58 = .ok (.aload 5, 2) := by decide +kernel
theorem dX5_want_60 : decode cX5_want 60 = .ok (.iload_n 2, 1) := by decide +kernel
theorem dX5_want_61 : decode cX5_want 61 = .ok (.putfield 129, 3) := by decide +kernel
theorem dX5_want_64 : decode cX5_want 64 = .ok (.aload 5, 2) := by decide +kernel
theorem dX5_want_66 : decode cX5_want 66 = .ok (.iload_n 3, 1) := by decide +kernel
theorem dX5_want_67 : decode cX5_want 67 = .ok (.putfield 126, 3) := by decide +kernel
theorem dX5_want_70 : decode cX5_want 70 = .ok (.aload 5, 2) := by decide +kernel
theorem dX5_want_72 : decode cX5_want 72 = .ok (.iload 4, 2) := by decide +kernel
theorem dX5_want_74 : decode cX5_want 74 = .ok (.putfield 132, 3) := by decide +kernel
theorem dX5_want_77 : decode cX5_want 77 = .ok (.aload 5, 2) := by decide +kernel
theorem dX5_want_79 : decode cX5_want 79 = .ok (.getfield 135, 3) := by decide +kernel
theorem dX5_want_82 : decode cX5_want 82 = .ok (.iconst 0, 1) := by decide +kernel
theorem dX5_want_83 : decode cX5_want 83 = .ok (.putfield 139, 3) := by decide +kernel
theorem dX5_want_86 : decode cX5_want 86 = .ok (.aload_n 0, 1) := by decide +kernel
theorem dX5_want_87 : decode cX5_want 87 = .ok (.getfield 42, 3) := by decide +kernel
theorem dX5_want_90 : decode cX5_want 90 = .ok (.iconst 0, 1) := by decide +kernel
theorem dX5_want_91 : decode cX5_want 91 = .ok (.putfield 116, 3) := by decide +kernel
theorem dX5_want_94 : decode cX5_want 94 = .ok (.iload 6, 2) := by decide +kernel
theorem dX5_want_96 : decode cX5_want 96 = .ok (.ireturn, 1) := by decide +kernel
theorem dX5_target_0 : decode cX5_target 0 = .ok (.aload_n 0, 1) := by decide +kernel
theorem dX5_target_1 : decode cX5_target 1 = .ok (.iload_n 1, 1) := by decide +kernel
theorem dX5_target_2 : decode cX5_target 2 = .ok (.invokevirtual 120, 3) := by decide +kernel
theorem dX5_target_5 : decode cX5_target 5 = .ok (.astore_n 3, 1) := by decide +kernel
theorem dX5_target_6 : decode cX5_target 6 = .ok (.iload_n 2, 1) := by decide +kernel
theorem dX5_target_7 : decode cX5_target 7 = .ok (.bipush 10, 2) := by decide +kernel
theorem dX5_target_9 : decode cX5_target 9 = .ok (.invokestatic 142, 3) := by decide +kernel
theorem dX5_target_12 : decode cX5_target 12 = .ok (.aload_n 3, 1) := by decide +kernel
theorem dX5_target_13 : decode cX5_target 13 = .ok (.iload_n 2, 1) := by decide +kernel
theorem dX5_target_14 : decode cX5_target 14 = .ok (.invokevirtual 145, 3) := by decide +kernel
theorem dX5_target_17 : decode cX5_target 17 = .ok (.ireturn, 1) := by decide +kernel
theorem dX5_height_0 : decode cX5_height 0 = .ok (.aload_n 0, 1) := by decide +kernel
theorem dX5_height_1 : decode cX5_height 1 = .ok (.iload_n 1, 1) := by decide +kernel
theorem dX5_height_2 : decode cX5_height 2 = .ok (.invokevirtual 120, 3) := by decide +kernel
theorem dX5_height_5 : decode cX5_height 5 = .ok (.astore_n 3, 1) := by decide +kernel
theorem dX5_height_6 : decode cX5_height 6 = .ok (.aload_n 0, 1) := by decide +kernel
theorem dX5_height_7 : decode cX5_height 7 = .ok (.iload_n 2, 1) := by decide +kernel
theorem dX5_height_8 : decode cX5_height 8 = .ok (.invokevirtual 148, 3) := by decide +kernel
theorem dX5_height_11 : decode cX5_height 11 = .ok (.aload_n 0, 1) := by decide +kernel
theorem dX5_height_12 : decode cX5_height 12 = .ok (.aload_n 3, 1) := by decide +kernel
theorem dX5_height_13 : decode cX5_height 13 = .ok (.getfield 152, 3) := by decide +kernel
theorem dX5_height_16 : decode cX5_height 16 = .ok (.iload_n 2, 1) := by decide +kernel
theorem dX5_height_17 : decode cX5_height 17 = .ok (.invokevirtual 155, 3) := by decide +kernel
theorem dX5_height_20 : decode cX5_height 20 = .ok (.ireturn, 1) := by decide +kernel
theorem dX5_nearness_0 : decode cX5_nearness 0 = .ok (.aload_n 0, 1) := by decide +kernel
theorem dX5_nearness_1 : decode cX5_nearness 1 = .ok (.iload_n 1, 1) := by decide +kernel
theorem dX5_nearness_2 : decode cX5_nearness 2 = .ok (.invokevirtual 120, 3) := by decide +kernel
theorem dX5_nearness_5 : decode cX5_nearness 5 = .ok (.getfield 152, 3) := by decide +kernel
theorem dX5_nearness_8 : decode cX5_nearness 8 = .ok (.aload_n 0, 1) := by decide +kernel
theorem dX5_nearness_9 : decode cX5_nearness 9 = .ok (.iload_n 2, 1) := by decide +kernel
theorem dX5_nearness_10 : decode cX5_nearness 10 = .ok (.invokevirtual 120, 3) := by decide +kernel
theorem dX5_nearness_13 : decode cX5_nearness 13 = .ok (.getfield 152, 3) := by decide +kernel
theorem dX5_nearness_16 : decode cX5_nearness 16 = .ok (.invokestatic 159, 3) := by decide +kernel
theorem dX5_nearness_19 : decode cX5_nearness 19 = .ok (.ireturn, 1) := by decide +kernel
theorem dX5_moonNearness_0 : decode cX5_moonNearness 0 = .ok (.aload_n 0, 1) := by decide +kernel
theorem dX5_moonNearness_1 : decode cX5_moonNearness 1 = .ok (.iload_n 1, 1) := by decide +kernel
theorem dX5_moonNearness_2 : decode cX5_moonNearness 2 = .ok (.invokevirtual 120, 3) := by decide +kernel
theorem dX5_moonNearness_5 : decode cX5_moonNearness 5 = .ok (.getfield 152, 3) := by decide +kernel
theorem dX5_moonNearness_8 : decode cX5_moonNearness 8 = .ok (.aload_n 0, 1) := by decide +kernel
theorem dX5_moonNearness_9 : decode cX5_moonNearness 9 = .ok (.getfield 18, 3) := by decide +kernel
theorem dX5_moonNearness_12 : decode cX5_moonNearness 12 = .ok (.invokestatic 159, 3) := by decide +kernel
theorem dX5_moonNearness_15 : decode cX5_moonNearness 15 = .ok (.ireturn, 1) := by decide +kernel
theorem dX5_moonHeight_0 : decode cX5_moonHeight 0 = .ok (.aload_n 0, 1) := by decide +kernel
theorem dX5_moonHeight_1 : decode cX5_moonHeight 1 = .ok (.iload_n 1, 1) := by decide +kernel
theorem dX5_moonHeight_2 : decode cX5_moonHeight 2 = .ok (.invokevirtual 148, 3) := by decide +kernel
theorem dX5_moonHeight_5 : decode cX5_moonHeight 5 = .ok (.aload_n 0, 1) := by decide +kernel
theorem dX5_moonHeight_6 : decode cX5_moonHeight 6 = .ok (.aload_n 0, 1) := by decide +kernel
theorem dX5_moonHeight_7 : decode cX5_moonHeight 7 = .ok (.getfield 18, 3) := by decide +kernel
theorem dX5_moonHeight_10 : decode cX5_moonHeight 10 = .ok (.iload_n 1, 1) := by decide +kernel
theorem dX5_moonHeight_11 : decode cX5_moonHeight 11 = .ok (.invokevirtual 155, 3) := by decide +kernel
theorem dX5_moonHeight_14 : decode cX5_moonHeight 14 = .ok (.ireturn, 1) := by decide +kernel
theorem dX5_reason_0 : decode cX5_reason 0 = .ok (.aload_n 0, 1) := by decide +kernel
theorem dX5_reason_1 : decode cX5_reason 1 = .ok (.iload_n 1, 1) := by decide +kernel
theorem dX5_reason_2 : decode cX5_reason 2 = .ok (.invokevirtual 120, 3) := by decide +kernel
theorem dX5_reason_5 : decode cX5_reason 5 = .ok (.astore_n 3, 1) := by decide +kernel
theorem dX5_reason_6 : decode cX5_reason 6 = .ok (.aload_n 0, 1) := by decide +kernel
theorem dX5_reason_7 : decode cX5_reason 7 = .ok (.iload_n 2, 1) := by decide +kernel
theorem dX5_reason_8 : decode cX5_reason 8 = .ok (.invokevirtual 148, 3) := by decide +kernel
theorem dX5_reason_11 : decode cX5_reason 11 = .ok (.aload_n 0, 1) := by decide +kernel
theorem dX5_reason_12 : decode cX5_reason 12 = .ok (.aload_n 3, 1) := by decide +kernel
theorem dX5_reason_13 : decode cX5_reason 13 = .ok (.iload_n 2, 1) := by decide +kernel
theorem dX5_reason_14 : decode cX5_reason 14 = .ok (.aload_n 0, 1) := by decide +kernel
theorem dX5_reason_15 : decode cX5_reason 15 = .ok (.aload_n 3, 1) := by decide +kernel
theorem dX5_reason_16 : decode cX5_reason 16 = .ok (.getfield 152, 3) := by decide +kernel
theorem dX5_reason_19 : decode cX5_reason 19 = .ok (.iload_n 2, 1) := by decide +kernel
theorem dX5_reason_20 : decode cX5_reason 20 = .ok (.invokevirtual 155, 3) := by decide +kernel
theorem dX5_reason_23 : decode cX5_reason 23 = .ok (.invokevirtual 163, 3) := by decide +kernel
theorem dX5_reason_26 : decode cX5_reason 26 = .ok (.ireturn, 1) := by decide +kernel
theorem dX5_window_0 : decode cX5_window 0 = .ok (.aload_n 0, 1) := by decide +kernel
theorem dX5_window_1 : decode cX5_window 1 = .ok (.iload_n 1, 1) := by decide +kernel
theorem dX5_window_2 : decode cX5_window 2 = .ok (.invokevirtual 120, 3) := by decide +kernel
theorem dX5_window_5 : decode cX5_window 5 = .ok (.astore_n 3, 1) := by decide +kernel
theorem dX5_window_6 : decode cX5_window 6 = .ok (.iload_n 2, 1) := by decide +kernel
theorem dX5_window_7 : decode cX5_window 7 = .ok (.iconst 5, 1) := by decide +kernel
theorem dX5_window_8 : decode cX5_window 8 = .ok (.invokestatic 142, 3) := by decide +kernel
theorem dX5_window_11 : decode cX5_window 11 = .ok (.aload_n 0, 1) := by decide +kernel
theorem dX5_window_12 : decode cX5_window 12 = .ok (.aload_n 3, 1) := by decide +kernel
theorem dX5_window_13 : decode cX5_window 13 = .ok (.invokevirtual 167, 3) := by decide +kernel
theorem dX5_window_16 : decode cX5_window 16 = .ok (.aload_n 3, 1) := by decide +kernel
theorem dX5_window_17 : decode cX5_window 17 = .ok (.getfield 135, 3) := by decide +kernel
theorem dX5_window_20 : decode cX5_window 20 = .ok (.iload_n 2, 1) := by decide +kernel
theorem dX5_window_21 : decode cX5_window 21 = .ok (.invokevirtual 171, 3) := by decide +kernel
theorem dX5_window_24 : decode cX5_window 24 = .ok (.ireturn, 1) := by decide +kernel
theorem dX5_isOpen_0 : decode cX5_isOpen 0 = .ok (.aload_n 0, 1) := by decide +kernel
theorem dX5_isOpen_1 : decode cX5_isOpen 1 = .ok (.iload_n 1, 1) := by decide +kernel
theorem dX5_isOpen_2 : decode cX5_isOpen 2 = .ok (.invokevirtual 120, 3) := by decide +kernel
theorem dX5_isOpen_5 : decode cX5_isOpen 5 = .ok (.aload_n 0, 1) := by decide +kernel
theorem dX5_isOpen_6 : decode cX5_isOpen 6 = .ok (.getfield 172, 3) := by decide +kernel
theorem dX5_isOpen_9 : decode cX5_isOpen 9 = .ok (.invokevirtual 175, 3) := by decide +kernel
theorem dX5_isOpen_12 : decode cX5_isOpen 12 = .ok (.ireturn, 1) := by decide +kernel
theorem dX5_count_0 : decode cX5_count 0 = .ok (.iload_n 1, 1) := by decide +kernel
theorem dX5_count_1 : decode cX5_count 1 = .ok (.iconst 4, 1) := by decide +kernel
theorem dX5_count_2 : decode cX5_count 2 = .ok (.invokestatic 142, 3) := by decide +kernel
theorem dX5_count_5 : decode cX5_count 5 = .ok (.iconst 0, 1) := by decide +kernel
theorem dX5_count_6 : decode cX5_count 6 = .ok (.istore_n 2, 1) := by decide +kernel
theorem dX5_count_7 : decode cX5_count 7 = .ok (.iconst 0, 1) := by decide +kernel
theorem dX5_count_8 : decode cX5_count 8 = .ok (.istore_n 3, 1) := by decide +kernel
theorem dX5_count_9 : decode cX5_count 9 = .ok (.iload_n 3, 1) := by decide +kernel
theorem dX5_count_10 : decode cX5_count 10 = .ok (.aload_n 0, 1) := by decide +kernel
theorem dX5_count_11 : decode cX5_count 11 = .ok (.getfield 35, 3) := by decide +kernel
theorem dX5_count_14 : decode cX5_count 14 = .ok (.invokevirtual 102, 3) := by decide +kernel
theorem dX5_count_17 : decode cX5_count 17 = .ok (.if_icmp .ge 28, 3) := by decide +kernel
theorem dX5_count_20 : decode cX5_count 20 = .ok (.iload_n 2, 1) := by decide +kernel
theorem dX5_count_21 : decode cX5_count 21 = .ok (.aload_n 0, 1) := by decide +kernel
theorem dX5_count_22 : decode cX5_count 22 = .ok (.aload_n 0, 1) := by decide +kernel
theorem dX5_count_23 : decode cX5_count 23 = .ok (.getfield 35, 3) := by decide +kernel
theorem dX5_count_26 : decode cX5_count 26 = .ok (.iload_n 3, 1) := by decide +kernel
theorem dX5_count_27 : decode cX5_count 27 = .ok (.invokevirtual 179, 3) := by decide +kernel
theorem dX5_count_30 : decode cX5_count 30 = .ok (.checkcast 107, 3) := by decide +kernel
theorem dX5_count_33 : decode cX5_count 33 = .ok (.iload_n 1, 1) := by decide +kernel
theorem dX5_count_34 : decode cX5_count 34 = .ok (.invokevirtual 183, 3) := by decide +kernel
theorem dX5_count_37 : decode cX5_count 37 = .ok (.iadd, 1) := by decide +kernel
theorem dX5_count_38 : decode cX5_count 38 = .ok (.istore_n 2, 1) := by decide +kernel
theorem dX5_count_39 : decode cX5_count 39 = .ok (.iinc 3 1, 3) := by decide +kernel
theorem dX5_count_42 : decode cX5_count 42 = .ok (.goto (-33), 3) := by decide +kernel
theorem dX5_count_45 : decode cX5_count 45 = .ok (.iload_n 2, 1) := by decide +kernel
theorem dX5_count_46 : decode cX5_count 46 = .ok (.ireturn, 1) := by decide +kernel
theorem dX5_visits_0 : decode cX5_visits 0 = .ok (.aload_n 0, 1) := by decide +kernel
theorem dX5_visits_1 : decode cX5_visits 1 = .ok (.invokevirtual 187, 3) := by decide +kernel
theorem dX5_visits_4 : decode cX5_visits 4 = .ok (.aload_n 0, 1) := by decide +kernel
theorem dX5_visits_5 : decode cX5_visits 5 = .ok (.getfield 42, 3) := by decide +kernel
theorem dX5_visits_8 : decode cX5_visits 8 = .ok (.getfield 190, 3) := by decide +kernel
theorem dX5_visits_11 : decode cX5_visits 11 = .ok (.ireturn, 1) := by decide +kernel
theorem dX5_visit_0 : decode cX5_visit 0 = .ok (.aload_n 0, 1) := by decide +kernel
theorem dX5_visit_1 : decode cX5_visit 1 = .ok (.invokevirtual 187, 3) := by decide +kernel
theorem dX5_visit_4 : decode cX5_visit 4 = .ok (.iload_n 1, 1) := by decide +kernel
theorem dX5_visit_5 : decode cX5_visit 5 = .ok (.ifCond .lt 14, 3) := by decide +kernel
theorem dX5_visit_8 : decode cX5_visit 8 = .ok (.iload_n 1, 1) := by decide +kernel
theorem dX5_visit_9 : decode cX5_visit 9 = .ok (.aload_n 0, 1) := by decide +kernel
theorem dX5_visit_10 : decode cX5_visit 10 = .ok (.getfield 42, 3) := by decide +kernel
theorem dX5_visit_13 : decode cX5_visit 13 = .ok (.getfield 190, 3) := by decide +kernel
theorem dX5_visit_16 : decode cX5_visit 16 = .ok (.if_icmp .lt 13, 3) := by decide +kernel
theorem dX5_visit_19 : decode cX5_visit 19 = .ok (.new 192, 3) := by decide +kernel
theorem dX5_visit_22 : decode cX5_visit 22 = .ok (.dup, 1) := by decide +kernel
theorem dX5_visit_23 : decode cX5_visit 23 = .ok (.ldc 194, 2) := by decide +kernel
theorem dX5_visit_25 : decode cX5_visit 25 = .ok (.invokespecial 196, 3) := by decide +kernel
theorem dX5_visit_28 : decode cX5_visit 28 = .ok (.athrow, 1) := by decide +kernel
theorem dX5_visit_29 : decode cX5_visit 29 = .ok (.iload_n 2, 1) := by decide +kernel
theorem dX5_visit_30 : decode cX5_visit 30 = .ok (.iconst 4, 1) := by decide +kernel
theorem dX5_visit_31 : decode cX5_visit 31 = .ok (.invokestatic 142, 3) := by decide +kernel
theorem dX5_visit_34 : decode cX5_visit 34 = .ok (.aload_n 0, 1) := by decide +kernel
theorem dX5_visit_35 : decode cX5_visit 35 = .ok (.getfield 42, 3) := by decide +kernel
theorem dX5_visit_38 : decode cX5_visit 38 = .ok (.getfield 197, 3) := by decide +kernel
theorem dX5_visit_41 : decode cX5_visit 41 = .ok (.iload_n 1, 1) := by decide +kernel
theorem dX5_visit_42 : decode cX5_visit 42 = .ok (.aaload, 1) := by decide +kernel
theorem dX5_visit_43 : decode cX5_visit 43 = .ok (.iload_n 2, 1) := by decide +kernel
theorem dX5_visit_44 : decode cX5_visit 44 = .ok (.iaload, 1) := by decide +kernel
theorem dX5_visit_45 : decode cX5_visit 45 = .ok (.ireturn, 1) := by decide +kernel
theorem dX5_use_0 : decode cX5_use 0 = .ok (.aload_n 0, 1) := by decide +kernel
theorem dX5_use_1 : decode cX5_use 1 = .ok (.invokevirtual 187, 3) := by decide +kernel
theorem dX5_use_4 : decode cX5_use 4 = .ok (.aload_n 0, 1) := by decide +kernel
theorem dX5_use_5 : decode cX5_use 5 = .ok (.getfield 42, 3) := by decide +kernel
theorem dX5_use_8 : decode cX5_use 8 = .ok (.getfield 201, 3) := by decide +kernel
theorem dX5_use_11 : decode cX5_use 11 = .ok (.i2d, 1) := by decide +kernel
theorem dX5_use_12 : decode cX5_use 12 = .ok (.aload_n 0, 1) := by decide +kernel
theorem dX5_use_13 : decode cX5_use 13 = .ok (.getfield 21, 3) := by decide +kernel
theorem dX5_use_16 : decode cX5_use 16 = .ok (.i2d, 1) := by decide +kernel
theorem dX5_use_17 : decode cX5_use 17 = .ok (.ddiv, 1) := by decide +kernel
theorem dX5_use_18 : decode cX5_use 18 = .ok (.dreturn, 1) := by decide +kernel
theorem dX5_observe_0 : decode cX5_observe 0 = .ok (.aload_n 0, 1) := by decide +kernel
theorem dX5_observe_1 : decode cX5_observe 1 = .ok (.getfield 172, 3) := by decide +kernel
theorem dX5_observe_4 : decode cX5_observe 4 = .ok (.bipush 60, 2) := by decide +kernel
theorem dX5_observe_6 : decode cX5_observe 6 = .ok (.if_icmp .lt 13, 3) := by decide +kernel
theorem dX5_observe_9 : decode cX5_observe 9 = .ok (.new 83, 3) := by decide +kernel
theorem dX5_observe_12 : decode cX5_observe 12 = .ok (.dup, 1) := by decide +kernel
theorem dX5_observe_13 : decode cX5_observe 13 = .ok (.ldc 204, 2) := by decide +kernel
theorem dX5_observe_15 : decode cX5_observe 15 = .ok (.invokespecial 87, 3) := by decide +kernel
theorem dX5_observe_18 : decode cX5_observe 18 = .ok (.athrow, 1) := by decide +kernel
theorem dX5_observe_19 : decode cX5_observe 19 = .ok (.aload_n 0, 1) := by decide +kernel
theorem dX5_observe_20 : decode cX5_observe 20 = .ok (.invokevirtual 187, 3) := by decide +kernel
theorem dX5_observe_23 : decode cX5_observe 23 = .ok (.aload_n 0, 1) := by decide +kernel
theorem dX5_observe_24 : decode cX5_observe 24 = .ok (.getfield 42, 3) := by decide +kernel
theorem dX5_observe_27 : decode cX5_observe 27 = .ok (.getfield 190, 3) := by decide +kernel
theorem dX5_observe_30 : decode cX5_observe 30 = .ok (.istore_n 1, 1) := by decide +kernel
theorem dX5_observe_31 : decode cX5_observe 31 = .ok (.iconst 0, 1) := by decide +kernel
theorem dX5_observe_32 : decode cX5_observe 32 = .ok (.istore_n 2, 1) := by decide +kernel
theorem dX5_observe_33 : decode cX5_observe 33 = .ok (.iload_n 2, 1) := by decide +kernel
theorem dX5_observe_34 : decode cX5_observe 34 = .ok (.aload_n 0, 1) := by decide +kernel
theorem dX5_observe_35 : decode cX5_observe 35 = .ok (.getfield 35, 3) := by decide +kernel
theorem dX5_observe_38 : decode cX5_observe 38 = .ok (.invokevirtual 102, 3) := by decide +kernel
theorem dX5_observe_41 : decode cX5_observe 41 = .ok (.if_icmp .ge 27, 3) := by decide +kernel
theorem dX5_observe_44 : decode cX5_observe 44 = .ok (.aload_n 0, 1) := by decide +kernel
theorem dX5_observe_45 : decode cX5_observe 45 = .ok (.getfield 35, 3) := by decide +kernel
theorem dX5_observe_48 : decode cX5_observe 48 = .ok (.iload_n 2, 1) := by decide +kernel
theorem dX5_observe_49 : decode cX5_observe 49 = .ok (.invokevirtual 179, 3) := by decide +kernel
theorem dX5_observe_52 : decode cX5_observe 52 = .ok (.checkcast 107, 3) := by decide +kernel
theorem dX5_observe_55 : decode cX5_observe 55 = .ok (.aload_n 0, 1) := by decide +kernel
theorem dX5_observe_56 : decode cX5_observe 56 = .ok (.getfield 172, 3) := by decide +kernel
theorem dX5_observe_59 : decode cX5_observe 59 = .ok (.invokevirtual 206, 3) := by decide +kernel
theorem dX5_observe_62 : decode cX5_observe 62 = .ok (.iinc 2 1, 3) := by decide +kernel
theorem dX5_observe_65 : decode cX5_observe 65 = .ok (.goto (-32), 3) := by decide +kernel
theorem dX5_observe_68 : decode cX5_observe 68 = .ok (.aload_n 0, 1) := by decide +kernel
theorem dX5_observe_69 : decode cX5_observe 69 = .ok (.invokevirtual 209, 3) := by decide +kernel
theorem dX5_observe_72 : decode cX5_observe 72 = .ok (.iload_n 1, 1) := by decide +kernel
theorem dX5_observe_73 : decode cX5_observe 73 = .ok (.ireturn, 1) := by decide +kernel
theorem dX5_pass_0 : decode cX5_pass 0 = .ok (.iload_n 1, 1) := by decide +kernel
theorem dX5_pass_1 : decode cX5_pass 1 = .ok (.iconst 1, 1) := by decide +kernel
theorem dX5_pass_2 : decode cX5_pass 2 = .ok (.bipush 60, 2) := by decide +kernel
theorem dX5_pass_4 : decode cX5_pass 4 = .ok (.aload_n 0, 1) := by decide +kernel
theorem dX5_pass_5 : decode cX5_pass 5 = .ok (.getfield 172, 3) := by decide +kernel
theorem dX5_pass_8 : decode cX5_pass 8 = .ok (.isub, 1) := by decide +kernel
theorem dX5_pass_9 : decode cX5_pass 9 = .ok (.invokestatic 46, 3) := by decide +kernel
theorem dX5_pass_12 : decode cX5_pass 12 = .ok (.ifCond .ne 13, 3) := by decide +kernel
theorem dX5_pass_15 : decode cX5_pass 15 = .ok (.new 50, 3) := by decide +kernel
theorem dX5_pass_18 : decode cX5_pass 18 = .ok (.dup, 1) := by decide +kernel
theorem dX5_pass_19 : decode cX5_pass 19 = .ok (.ldc 212, 2) := by decide +kernel
theorem dX5_pass_21 : decode cX5_pass 21 = .ok (.invokespecial 54, 3) := by decide +kernel
theorem dX5_pass_24 : decode cX5_pass 24 = .ok (.athrow, 1) := by decide +kernel
theorem dX5_pass_25 : decode cX5_pass 25 = .ok (.iconst 0, 1) := by decide +kernel
theorem dX5_pass_26 : decode cX5_pass 26 = .ok (.istore_n 2, 1) := by decide +kernel
theorem dX5_pass_27 : decode cX5_pass 27 = .ok (.iload_n 2, 1) := by decide +kernel
theorem dX5_pass_28 : decode cX5_pass 28 = .ok (.iload_n 1, 1) := by decide +kernel
theorem dX5_pass_29 : decode cX5_pass 29 = .ok (.if_icmp .ge 13, 3) := by decide +kernel
theorem dX5_pass_32 : decode cX5_pass 32 = .ok (.aload_n 0, 1) := by decide +kernel
theorem dX5_pass_33 : decode cX5_pass 33 = .ok (.invokevirtual 209, 3) := by decide +kernel
theorem dX5_pass_36 : decode cX5_pass 36 = .ok (.iinc 2 1, 3) := by decide +kernel
theorem dX5_pass_39 : decode cX5_pass 39 = .ok (.goto (-12), 3) := by decide +kernel
theorem dX5_pass_42 : decode cX5_pass 42 = .ok (.aload_n 0, 1) := by decide +kernel
theorem dX5_pass_43 : decode cX5_pass 43 = .ok (.getfield 172, 3) := by decide +kernel
theorem dX5_pass_46 : decode cX5_pass 46 = .ok (.ireturn, 1) := by decide +kernel
theorem dX5_night_0 : decode cX5_night 0 = .ok (.aload_n 0, 1) := by decide +kernel
theorem dX5_night_1 : decode cX5_night 1 = .ok (.getfield 172, 3) := by decide +kernel
theorem dX5_night_4 : decode cX5_night 4 = .ok (.ireturn, 1) := by decide +kernel
theorem dX5_light_0 : decode cX5_light 0 = .ok (.aload_n 0, 1) := by decide +kernel
theorem dX5_light_1 : decode cX5_light 1 = .ok (.invokevirtual 74, 3) := by decide +kernel
theorem dX5_light_4 : decode cX5_light 4 = .ok (.ireturn, 1) := by decide +kernel
theorem dX5_digest_0 : decode cX5_digest 0 = .ok (.aload_n 0, 1) := by decide +kernel
theorem dX5_digest_1 : decode cX5_digest 1 = .ok (.invokevirtual 187, 3) := by decide +kernel
theorem dX5_digest_4 : decode cX5_digest 4 = .ok (.ldc2_w 214, 3) := by decide +kernel
theorem dX5_digest_7 : decode cX5_digest 7 = .ok (.lstore_n 1, 1) := by decide +kernel
theorem dX5_digest_8 : decode cX5_digest 8 = .ok (.lload_n 1, 1) := by decide +kernel
theorem dX5_digest_9 : decode cX5_digest 9 = .ok (.aload_n 0, 1) := by decide +kernel
theorem dX5_digest_10 : decode cX5_digest 10 = .ok (.getfield 172, 3) := by decide +kernel
theorem dX5_digest_13 : decode cX5_digest 13 = .ok (.invokestatic 216, 3) := by decide +kernel
theorem dX5_digest_16 : decode cX5_digest 16 = .ok (.lstore_n 1, 1) := by decide +kernel
theorem dX5_digest_17 : decode cX5_digest 17 = .ok (.lload_n 1, 1) := by decide +kernel
theorem dX5_digest_18 : decode cX5_digest 18 = .ok (.aload_n 0, 1) := by decide +kernel
theorem dX5_digest_19 : decode cX5_digest 19 = .ok (.getfield 21, 3) := by decide +kernel
theorem dX5_digest_22 : decode cX5_digest 22 = .ok (.invokestatic 216, 3) := by decide +kernel
theorem dX5_digest_25 : decode cX5_digest 25 = .ok (.lstore_n 1, 1) := by decide +kernel
theorem dX5_digest_26 : decode cX5_digest 26 = .ok (.lload_n 1, 1) := by decide +kernel
theorem dX5_digest_27 : decode cX5_digest 27 = .ok (.aload_n 0, 1) := by decide +kernel
theorem dX5_digest_28 : decode cX5_digest 28 = .ok (.getfield 12, 3) := by decide +kernel
theorem dX5_digest_31 : decode cX5_digest 31 = .ok (.getfield 57, 3) := by decide +kernel
theorem dX5_digest_34 : decode cX5_digest 34 = .ok (.invokestatic 216, 3) := by decide +kernel
theorem dX5_digest_37 : decode cX5_digest 37 = .ok (.lstore_n 1, 1) := by decide +kernel
theorem dX5_digest_38 : decode cX5_digest 38 = .ok (.lload_n 1, 1) := by decide +kernel
theorem dX5_digest_39 : decode cX5_digest 39 = .ok (.aload_n 0, 1) := by decide +kernel
theorem dX5_digest_40 : decode cX5_digest 40 = .ok (.getfield 12, 3) := by decide +kernel
theorem dX5_digest_43 : decode cX5_digest 43 = .ok (.getfield 220, 3) := by decide +kernel
theorem dX5_digest_46 : decode cX5_digest 46 = .ok (.invokestatic 216, 3) := by decide +kernel
theorem dX5_digest_49 : decode cX5_digest 49 = .ok (.lstore_n 1, 1) := by decide +kernel
theorem dX5_digest_50 : decode cX5_digest 50 = .ok (.lload_n 1, 1) := by decide +kernel
theorem dX5_digest_51 : decode cX5_digest 51 = .ok (.aload_n 0, 1) := by decide +kernel
theorem dX5_digest_52 : decode cX5_digest 52 = .ok (.getfield 18, 3) := by decide +kernel
theorem dX5_digest_55 : decode cX5_digest 55 = .ok (.getfield 220, 3) := by decide +kernel
theorem dX5_digest_58 : decode cX5_digest 58 = .ok (.invokestatic 216, 3) := by decide +kernel
theorem dX5_digest_61 : decode cX5_digest 61 = .ok (.lstore_n 1, 1) := by decide +kernel
theorem dX5_digest_62 : decode cX5_digest 62 = .ok (.lload_n 1, 1) := by decide +kernel
theorem dX5_digest_63 : decode cX5_digest 63 = .ok (.aload_n 0, 1) := by decide +kernel
theorem dX5_digest_64 : decode cX5_digest 64 = .ok (.getfield 18, 3) := by decide +kernel
theorem dX5_digest_67 : decode cX5_digest 67 = .ok (.getfield 57, 3) := by decide +kernel
theorem dX5_digest_70 : decode cX5_digest 70 = .ok (.invokestatic 216, 3) := by decide +kernel
theorem dX5_digest_73 : decode cX5_digest 73 = .ok (.lstore_n 1, 1) := by decide +kernel
theorem dX5_digest_74 : decode cX5_digest 74 = .ok (.lload_n 1, 1) := by decide +kernel
theorem dX5_digest_75 : decode cX5_digest 75 = .ok (.aload_n 0, 1) := by decide +kernel
theorem dX5_digest_76 : decode cX5_digest 76 = .ok (.getfield 71, 3) := by decide +kernel
theorem dX5_digest_79 : decode cX5_digest 79 = .ok (.invokestatic 216, 3) := by decide +kernel
theorem dX5_digest_82 : decode cX5_digest 82 = .ok (.lstore_n 1, 1) := by decide +kernel
theorem dX5_digest_83 : decode cX5_digest 83 = .ok (.aload_n 0, 1) := by decide +kernel
theorem dX5_digest_84 : decode cX5_digest 84 = .ok (.aload_n 0, 1) := by decide +kernel
theorem dX5_digest_85 : decode cX5_digest 85 = .ok (.lload_n 1, 1) := by decide +kernel
theorem dX5_digest_86 : decode cX5_digest 86 = .ok (.invokevirtual 223, 3) := by decide +kernel
theorem dX5_digest_89 : decode cX5_digest 89 = .ok (.invokevirtual 227, 3) := by decide +kernel
theorem dX5_digest_92 : decode cX5_digest 92 = .ok (.lreturn, 1) := by decide +kernel
theorem dX5_isWithin_0 : decode cX5_isWithin 0 = .ok (.iload_n 0, 1) := by decide +kernel
theorem dX5_isWithin_1 : decode cX5_isWithin 1 = .ok (.iload_n 1, 1) := by decide +kernel
theorem dX5_isWithin_2 : decode cX5_isWithin 2 = .ok (.if_icmp .lt 12, 3) := by decide +kernel
theorem dX5_isWithin_5 : decode cX5_isWithin 5 = .ok (.iload_n 0, 1) := by decide +kernel
theorem dX5_isWithin_6 : decode cX5_isWithin 6 = .ok (.iload_n 2, 1) := by decide +kernel
theorem dX5_isWithin_7 : decode cX5_isWithin 7 = .ok (.if_icmp .gt 7, 3) := by decide +kernel
theorem dX5_isWithin_10 : decode cX5_isWithin 10 = .ok (.iconst 1, 1) := by decide +kernel
theorem dX5_isWithin_11 : decode cX5_isWithin 11 = .ok (.goto 4, 3) := by decide +kernel
theorem dX5_isWithin_14 : decode cX5_isWithin 14 = .ok (.iconst 0, 1) := by decide +kernel
theorem dX5_isWithin_15 : decode cX5_isWithin 15 = .ok (.ireturn, 1) := by decide +kernel
theorem dX5_isPoint_0 : decode cX5_isPoint 0 = .ok (.iload_n 0, 1) := by decide +kernel
theorem dX5_isPoint_1 : decode cX5_isPoint 1 = .ok (.iconst 0, 1) := by decide +kernel
theorem dX5_isPoint_2 : decode cX5_isPoint 2 = .ok (.sipush 1439, 3) := by decide +kernel
theorem dX5_isPoint_5 : decode cX5_isPoint 5 = .ok (.invokestatic 46, 3) := by decide +kernel
theorem dX5_isPoint_8 : decode cX5_isPoint 8 = .ok (.ifCond .eq 18, 3) := by decide +kernel
theorem dX5_isPoint_11 : decode cX5_isPoint 11 = .ok (.iload_n 1, 1) := by decide +kernel
theorem dX5_isPoint_12 : decode cX5_isPoint 12 = .ok (.bipush (-90), 2) := by decide +kernel
theorem dX5_isPoint_14 : decode cX5_isPoint 14 = .ok (.bipush 90, 2) := by decide +kernel
theorem dX5_isPoint_16 : decode cX5_isPoint 16 = .ok (.invokestatic 46, 3) := by decide +kernel
theorem dX5_isPoint_19 : decode cX5_isPoint 19 = .ok (.ifCond .eq 7, 3) := by decide +kernel
theorem dX5_isPoint_22 : decode cX5_isPoint 22 = .ok (.iconst 1, 1) := by decide +kernel
theorem dX5_isPoint_23 : decode cX5_isPoint 23 = .ok (.goto 4, 3) := by decide +kernel
theorem dX5_isPoint_26 : decode cX5_isPoint 26 = .ok (.iconst 0, 1) := by decide +kernel
theorem dX5_isPoint_27 : decode cX5_isPoint 27 = .ok (.ireturn, 1) := by decide +kernel
theorem dX5_findTarget_0 : decode cX5_findTarget 0 = .ok (.iload_n 1, 1) := by decide +kernel
theorem dX5_findTarget_1 : decode cX5_findTarget 1 = .ok (.ifCond .lt 14, 3) := by decide +kernel
theorem dX5_findTarget_4 : decode cX5_findTarget 4 = .ok (.iload_n 1, 1) := by decide +kernel
theorem dX5_findTarget_5 : decode cX5_findTarget 5 = .ok (.aload_n 0, 1) := by decide +kernel
theorem dX5_findTarget_6 : decode cX5_findTarget 6 = .ok (.getfield 35, 3) := by decide +kernel
theorem dX5_findTarget_9 : decode cX5_findTarget 9 = .ok (.invokevirtual 102, 3) := by decide +kernel
theorem dX5_findTarget_12 : decode cX5_findTarget 12 = .ok (.if_icmp .lt 13, 3) := by decide +kernel
theorem dX5_findTarget_15 : decode cX5_findTarget 15 = .ok (.new 192, 3) := by decide +kernel
theorem dX5_findTarget_18 : decode cX5_findTarget 18 = .ok (.dup, 1) := by decide +kernel
theorem dX5_findTarget_19 : decode cX5_findTarget 19 = .ok (.ldc 230, 2) := by decide +kernel
theorem dX5_findTarget_21 : decode cX5_findTarget 21 = .ok (.invokespecial 196, 3) := by decide +kernel
theorem dX5_findTarget_24 : decode cX5_findTarget 24 = .ok (.athrow, 1) := by decide +kernel
theorem dX5_findTarget_25 : decode cX5_findTarget 25 = .ok (.aload_n 0, 1) := by decide +kernel
theorem dX5_findTarget_26 : decode cX5_findTarget 26 = .ok (.getfield 35, 3) := by decide +kernel
theorem dX5_findTarget_29 : decode cX5_findTarget 29 = .ok (.iload_n 1, 1) := by decide +kernel
theorem dX5_findTarget_30 : decode cX5_findTarget 30 = .ok (.invokevirtual 179, 3) := by decide +kernel
theorem dX5_findTarget_33 : decode cX5_findTarget 33 = .ok (.checkcast 107, 3) := by decide +kernel
theorem dX5_findTarget_36 : decode cX5_findTarget 36 = .ok (.areturn, 1) := by decide +kernel
theorem dX5_checkMinute_0 : decode cX5_checkMinute 0 = .ok (.iload_n 1, 1) := by decide +kernel
theorem dX5_checkMinute_1 : decode cX5_checkMinute 1 = .ok (.iconst 0, 1) := by decide +kernel
theorem dX5_checkMinute_2 : decode cX5_checkMinute 2 = .ok (.aload_n 0, 1) := by decide +kernel
theorem dX5_checkMinute_3 : decode cX5_checkMinute 3 = .ok (.getfield 21, 3) := by decide +kernel
theorem dX5_checkMinute_6 : decode cX5_checkMinute 6 = .ok (.iconst 1, 1) := by decide +kernel
theorem dX5_checkMinute_7 : decode cX5_checkMinute 7 = .ok (.isub, 1) := by decide +kernel
theorem dX5_checkMinute_8 : decode cX5_checkMinute 8 = .ok (.invokestatic 46, 3) := by decide +kernel
theorem dX5_checkMinute_11 : decode cX5_checkMinute 11 = .ok (.ifCond .ne 13, 3) := by decide +kernel
theorem dX5_checkMinute_14 : decode cX5_checkMinute 14 = .ok (.new 50, 3) := by decide +kernel
theorem dX5_checkMinute_17 : decode cX5_checkMinute 17 = .ok (.dup, 1) := by decide +kernel
theorem dX5_checkMinute_18 : decode cX5_checkMinute 18 = .ok (.ldc 232, 2) := by decide +kernel
theorem dX5_checkMinute_20 : decode cX5_checkMinute 20 = .ok (.invokespecial 54, 3) := by decide +kernel
theorem dX5_checkMinute_23 : decode cX5_checkMinute 23 = .ok (.athrow, 1) := by decide +kernel
theorem dX5_checkMinute_24 : decode cX5_checkMinute 24 = .ok (.return_, 1) := by decide +kernel
theorem dX5_checkWhat_0 : decode cX5_checkWhat 0 = .ok (.iload_n 0, 1) := by decide +kernel
theorem dX5_checkWhat_1 : decode cX5_checkWhat 1 = .ok (.ifCond .lt 8, 3) := by decide +kernel
theorem dX5_checkWhat_4 : decode cX5_checkWhat 4 = .ok (.iload_n 0, 1) := by decide +kernel
theorem dX5_checkWhat_5 : decode cX5_checkWhat 5 = .ok (.iload_n 1, 1) := by decide +kernel
theorem dX5_checkWhat_6 : decode cX5_checkWhat 6 = .ok (.if_icmp .lt 13, 3) := by decide +kernel
theorem dX5_checkWhat_9 : decode cX5_checkWhat 9 = .ok (.new 192, 3) := by decide +kernel
theorem dX5_checkWhat_12 : decode cX5_checkWhat 12 = .ok (.dup, 1) := by decide +kernel
theorem dX5_checkWhat_13 : decode cX5_checkWhat 13 = .ok (.ldc 234, 2) := by decide +kernel
theorem dX5_checkWhat_15 : decode cX5_checkWhat 15 = .ok (.invokespecial 196, 3) := by decide +kernel
theorem dX5_checkWhat_18 : decode cX5_checkWhat 18 = .ok (.athrow, 1) := by decide +kernel
theorem dX5_checkWhat_19 : decode cX5_checkWhat 19 = .ok (.return_, 1) := by decide +kernel
theorem dX5_sineOf_0 : decode cX5_sineOf 0 = .ok (.iload_n 0, 1) := by decide +kernel
theorem dX5_sineOf_1 : decode cX5_sineOf 1 = .ok (.sipush 360, 3) := by decide +kernel
theorem dX5_sineOf_4 : decode cX5_sineOf 4 = .ok (.irem, 1) := by decide +kernel
theorem dX5_sineOf_5 : decode cX5_sineOf 5 = .ok (.sipush 360, 3) := by decide +kernel
theorem dX5_sineOf_8 : decode cX5_sineOf 8 = .ok (.iadd, 1) := by decide +kernel
theorem dX5_sineOf_9 : decode cX5_sineOf 9 = .ok (.sipush 360, 3) := by decide +kernel
theorem dX5_sineOf_12 : decode cX5_sineOf 12 = .ok (.irem, 1) := by decide +kernel
theorem dX5_sineOf_13 : decode cX5_sineOf 13 = .ok (.istore_n 1, 1) := by decide +kernel
theorem dX5_sineOf_14 : decode cX5_sineOf 14 = .ok (.iload_n 1, 1) := by decide +kernel
theorem dX5_sineOf_15 : decode cX5_sineOf 15 = .ok (.sipush 180, 3) := by decide +kernel
theorem dX5_sineOf_18 : decode cX5_sineOf 18 = .ok (.irem, 1) := by decide +kernel
theorem dX5_sineOf_19 : decode cX5_sineOf 19 = .ok (.istore_n 2, 1) := by decide +kernel
theorem dX5_sineOf_20 : decode cX5_sineOf 20 = .ok (.iload_n 2, 1) := by decide +kernel
theorem dX5_sineOf_21 : decode cX5_sineOf 21 = .ok (.sipush 180, 3) := by decide +kernel
theorem dX5_sineOf_24 : decode cX5_sineOf 24 = .ok (.iload_n 2, 1) := by decide +kernel
theorem dX5_sineOf_25 : decode cX5_sineOf 25 = .ok (.isub, 1) := by decide +kernel
theorem dX5_sineOf_26 : decode cX5_sineOf 26 = .ok (.imul, 1) := by decide +kernel
theorem dX5_sineOf_27 : decode cX5_sineOf 27 = .ok (.istore_n 3, 1) := by decide +kernel
theorem dX5_sineOf_28 : decode cX5_sineOf 28 = .ok (.ldc 236, 2) := by decide +kernel
theorem dX5_sineOf_30 : decode cX5_sineOf 30 = .ok (.iload_n 3, 1) := by decide +kernel
theorem dX5_sineOf_31 : decode cX5_sineOf 31 = .ok (.isub, 1) := by decide +kernel
theorem dX5_sineOf_32 : decode cX5_sineOf 32 = .ok (.istore 4, 2) := by decide +kernel
theorem dX5_sineOf_34 : decode cX5_sineOf 34 = .ok (.iload 4, 2) := by decide +kernel
theorem dX5_sineOf_36 : decode cX5_sineOf 36 = .ok (.ifCond .le 14, 3) := by decide +kernel
theorem dX5_sineOf_39 : decode cX5_sineOf 39 = .ok (.sipush 4000, 3) := by decide +kernel
theorem dX5_sineOf_42 : decode cX5_sineOf 42 = .ok (.iload_n 3, 1) := by decide +kernel
theorem dX5_sineOf_43 : decode cX5_sineOf 43 = .ok (.imul, 1) := by decide +kernel
theorem dX5_sineOf_44 : decode cX5_sineOf 44 = .ok (.iload 4, 2) := by decide +kernel
theorem dX5_sineOf_46 : decode cX5_sineOf 46 = .ok (.idiv, 1) := by decide +kernel
theorem dX5_sineOf_47 : decode cX5_sineOf 47 = .ok (.goto 4, 3) := by decide +kernel
theorem dX5_sineOf_50 : decode cX5_sineOf 50 = .ok (.iconst 0, 1) := by decide +kernel
theorem dX5_sineOf_51 : decode cX5_sineOf 51 = .ok (.istore 5, 2) := by decide +kernel
theorem dX5_sineOf_53 : decode cX5_sineOf 53 = .ok (.iload_n 1, 1) := by decide +kernel
theorem dX5_sineOf_54 : decode cX5_sineOf 54 = .ok (.sipush 180, 3) := by decide +kernel
theorem dX5_sineOf_57 : decode cX5_sineOf 57 = .ok (.if_icmp .ge 8, 3) := by decide +kernel
theorem dX5_sineOf_60 : decode cX5_sineOf 60 = .ok (.iload 5, 2) := by decide +kernel
theorem dX5_sineOf_62 : decode cX5_sineOf 62 = .ok (.goto 6, 3) := by decide +kernel
theorem dX5_sineOf_65 : decode cX5_sineOf 65 = .ok (.iload 5, 2) := by decide +kernel
theorem dX5_sineOf_67 : decode cX5_sineOf 67 = .ok (.ineg, 1) := by decide +kernel
theorem dX5_sineOf_68 : decode cX5_sineOf 68 = .ok (.ireturn, 1) := by decide +kernel
theorem dX5_closeness_0 : decode cX5_closeness 0 = .ok (.aload_n 0, 1) := by decide +kernel
theorem dX5_closeness_1 : decode cX5_closeness 1 = .ok (.getfield 237, 3) := by decide +kernel
theorem dX5_closeness_4 : decode cX5_closeness 4 = .ok (.aload_n 1, 1) := by decide +kernel
theorem dX5_closeness_5 : decode cX5_closeness 5 = .ok (.getfield 237, 3) := by decide +kernel
theorem dX5_closeness_8 : decode cX5_closeness 8 = .ok (.imul, 1) := by decide +kernel
theorem dX5_closeness_9 : decode cX5_closeness 9 = .ok (.aload_n 0, 1) := by decide +kernel
theorem dX5_closeness_10 : decode cX5_closeness 10 = .ok (.getfield 240, 3) := by decide +kernel
theorem dX5_closeness_13 : decode cX5_closeness 13 = .ok (.aload_n 1, 1) := by decide +kernel
theorem dX5_closeness_14 : decode cX5_closeness 14 = .ok (.getfield 240, 3) := by decide +kernel
theorem dX5_closeness_17 : decode cX5_closeness 17 = .ok (.imul, 1) := by decide +kernel
theorem dX5_closeness_18 : decode cX5_closeness 18 = .ok (.sipush 1000, 3) := by decide +kernel
theorem dX5_closeness_21 : decode cX5_closeness 21 = .ok (.idiv, 1) := by decide +kernel
theorem dX5_closeness_22 : decode cX5_closeness 22 = .ok (.iload_n 2, 1) := by decide +kernel
theorem dX5_closeness_23 : decode cX5_closeness 23 = .ok (.imul, 1) := by decide +kernel
theorem dX5_closeness_24 : decode cX5_closeness 24 = .ok (.iadd, 1) := by decide +kernel
theorem dX5_closeness_25 : decode cX5_closeness 25 = .ok (.sipush 1000, 3) := by decide +kernel
theorem dX5_closeness_28 : decode cX5_closeness 28 = .ok (.idiv, 1) := by decide +kernel
theorem dX5_closeness_29 : decode cX5_closeness 29 = .ok (.ireturn, 1) := by decide +kernel
theorem dX5_nearnessOf_0 : decode cX5_nearnessOf 0 = .ok (.aload_n 0, 1) := by decide +kernel
theorem dX5_nearnessOf_1 : decode cX5_nearnessOf 1 = .ok (.getfield 220, 3) := by decide +kernel
theorem dX5_nearnessOf_4 : decode cX5_nearnessOf 4 = .ok (.aload_n 1, 1) := by decide +kernel
theorem dX5_nearnessOf_5 : decode cX5_nearnessOf 5 = .ok (.getfield 220, 3) := by decide +kernel
theorem dX5_nearnessOf_8 : decode cX5_nearnessOf 8 = .ok (.isub, 1) := by decide +kernel
theorem dX5_nearnessOf_9 : decode cX5_nearnessOf 9 = .ok (.invokestatic 243, 3) := by decide +kernel
theorem dX5_nearnessOf_12 : decode cX5_nearnessOf 12 = .ok (.iconst 4, 1) := by decide +kernel
theorem dX5_nearnessOf_13 : decode cX5_nearnessOf 13 = .ok (.idiv, 1) := by decide +kernel
theorem dX5_nearnessOf_14 : decode cX5_nearnessOf 14 = .ok (.istore_n 2, 1) := by decide +kernel
theorem dX5_nearnessOf_15 : decode cX5_nearnessOf 15 = .ok (.aload_n 0, 1) := by decide +kernel
theorem dX5_nearnessOf_16 : decode cX5_nearnessOf 16 = .ok (.aload_n 1, 1) := by decide +kernel
theorem dX5_nearnessOf_17 : decode cX5_nearnessOf 17 = .ok (.iload_n 2, 1) := by decide +kernel
theorem dX5_nearnessOf_18 : decode cX5_nearnessOf 18 = .ok (.bipush 90, 2) := by decide +kernel
theorem dX5_nearnessOf_20 : decode cX5_nearnessOf 20 = .ok (.iadd, 1) := by decide +kernel
theorem dX5_nearnessOf_21 : decode cX5_nearnessOf 21 = .ok (.invokestatic 96, 3) := by decide +kernel
theorem dX5_nearnessOf_24 : decode cX5_nearnessOf 24 = .ok (.invokestatic 248, 3) := by decide +kernel
theorem dX5_nearnessOf_27 : decode cX5_nearnessOf 27 = .ok (.ireturn, 1) := by decide +kernel
theorem dX5_heightOf_0 : decode cX5_heightOf 0 = .ok (.aload_n 0, 1) := by decide +kernel
theorem dX5_heightOf_1 : decode cX5_heightOf 1 = .ok (.getfield 12, 3) := by decide +kernel
theorem dX5_heightOf_4 : decode cX5_heightOf 4 = .ok (.getfield 220, 3) := by decide +kernel
theorem dX5_heightOf_7 : decode cX5_heightOf 7 = .ok (.iconst 4, 1) := by decide +kernel
theorem dX5_heightOf_8 : decode cX5_heightOf 8 = .ok (.aload_n 0, 1) := by decide +kernel
theorem dX5_heightOf_9 : decode cX5_heightOf 9 = .ok (.getfield 172, 3) := by decide +kernel
theorem dX5_heightOf_12 : decode cX5_heightOf 12 = .ok (.imul, 1) := by decide +kernel
theorem dX5_heightOf_13 : decode cX5_heightOf 13 = .ok (.iadd, 1) := by decide +kernel
theorem dX5_heightOf_14 : decode cX5_heightOf 14 = .ok (.iload_n 2, 1) := by decide +kernel
theorem dX5_heightOf_15 : decode cX5_heightOf 15 = .ok (.iadd, 1) := by decide +kernel
theorem dX5_heightOf_16 : decode cX5_heightOf 16 = .ok (.sipush 1440, 3) := by decide +kernel
theorem dX5_heightOf_19 : decode cX5_heightOf 19 = .ok (.irem, 1) := by decide +kernel
theorem dX5_heightOf_20 : decode cX5_heightOf 20 = .ok (.istore_n 3, 1) := by decide +kernel
theorem dX5_heightOf_21 : decode cX5_heightOf 21 = .ok (.iload_n 3, 1) := by decide +kernel
theorem dX5_heightOf_22 : decode cX5_heightOf 22 = .ok (.aload_n 1, 1) := by decide +kernel
theorem dX5_heightOf_23 : decode cX5_heightOf 23 = .ok (.getfield 220, 3) := by decide +kernel
theorem dX5_heightOf_26 : decode cX5_heightOf 26 = .ok (.isub, 1) := by decide +kernel
theorem dX5_heightOf_27 : decode cX5_heightOf 27 = .ok (.sipush 1440, 3) := by decide +kernel
theorem dX5_heightOf_30 : decode cX5_heightOf 30 = .ok (.iadd, 1) := by decide +kernel
theorem dX5_heightOf_31 : decode cX5_heightOf 31 = .ok (.sipush 1440, 3) := by decide +kernel
theorem dX5_heightOf_34 : decode cX5_heightOf 34 = .ok (.irem, 1) := by decide +kernel
theorem dX5_heightOf_35 : decode cX5_heightOf 35 = .ok (.iconst 4, 1) := by decide +kernel
theorem dX5_heightOf_36 : decode cX5_heightOf 36 = .ok (.idiv, 1) := by decide +kernel
theorem dX5_heightOf_37 : decode cX5_heightOf 37 = .ok (.istore 4, 2) := by decide +kernel
theorem dX5_heightOf_39 : decode cX5_heightOf 39 = .ok (.aload_n 0, 1) := by decide +kernel
theorem dX5_heightOf_40 : decode cX5_heightOf 40 = .ok (.getfield 12, 3) := by decide +kernel
theorem dX5_heightOf_43 : decode cX5_heightOf 43 = .ok (.aload_n 1, 1) := by decide +kernel
theorem dX5_heightOf_44 : decode cX5_heightOf 44 = .ok (.iload 4, 2) := by decide +kernel
theorem dX5_heightOf_46 : decode cX5_heightOf 46 = .ok (.bipush 90, 2) := by decide +kernel
theorem dX5_heightOf_48 : decode cX5_heightOf 48 = .ok (.iadd, 1) := by decide +kernel
theorem dX5_heightOf_49 : decode cX5_heightOf 49 = .ok (.invokestatic 96, 3) := by decide +kernel
theorem dX5_heightOf_52 : decode cX5_heightOf 52 = .ok (.invokestatic 248, 3) := by decide +kernel
theorem dX5_heightOf_55 : decode cX5_heightOf 55 = .ok (.ireturn, 1) := by decide +kernel
theorem dX5_moonLight_0 : decode cX5_moonLight 0 = .ok (.bipush 100, 2) := by decide +kernel
theorem dX5_moonLight_2 : decode cX5_moonLight 2 = .ok (.bipush 100, 2) := by decide +kernel
theorem dX5_moonLight_4 : decode cX5_moonLight 4 = .ok (.aload_n 0, 1) := by decide +kernel
theorem dX5_moonLight_5 : decode cX5_moonLight 5 = .ok (.getfield 71, 3) := by decide +kernel
theorem dX5_moonLight_8 : decode cX5_moonLight 8 = .ok (.bipush 15, 2) := by decide +kernel
theorem dX5_moonLight_10 : decode cX5_moonLight 10 = .ok (.isub, 1) := by decide +kernel
theorem dX5_moonLight_11 : decode cX5_moonLight 11 = .ok (.invokestatic 243, 3) := by decide +kernel
theorem dX5_moonLight_14 : decode cX5_moonLight 14 = .ok (.imul, 1) := by decide +kernel
theorem dX5_moonLight_15 : decode cX5_moonLight 15 = .ok (.bipush 15, 2) := by decide +kernel
theorem dX5_moonLight_17 : decode cX5_moonLight 17 = .ok (.idiv, 1) := by decide +kernel
theorem dX5_moonLight_18 : decode cX5_moonLight 18 = .ok (.isub, 1) := by decide +kernel
theorem dX5_moonLight_19 : decode cX5_moonLight 19 = .ok (.ireturn, 1) := by decide +kernel
theorem dX5_clearMinutes_0 : decode cX5_clearMinutes 0 = .ok (.iconst 0, 1) := by decide +kernel
theorem dX5_clearMinutes_1 : decode cX5_clearMinutes 1 = .ok (.istore_n 1, 1) := by decide +kernel
theorem dX5_clearMinutes_2 : decode cX5_clearMinutes 2 = .ok (.iconst 0, 1) := by decide +kernel
theorem dX5_clearMinutes_3 : decode cX5_clearMinutes 3 = .ok (.istore_n 2, 1) := by decide +kernel
theorem dX5_clearMinutes_4 : decode cX5_clearMinutes 4 = .ok (.iload_n 2, 1) := by decide +kernel
theorem dX5_clearMinutes_5 : decode cX5_clearMinutes 5 = .ok (.aload_n 0, 1) := by decide +kernel
theorem dX5_clearMinutes_6 : decode cX5_clearMinutes 6 = .ok (.getfield 21, 3) := by decide +kernel
theorem dX5_clearMinutes_9 : decode cX5_clearMinutes 9 = .ok (.if_icmp .ge 28, 3) := by decide +kernel
theorem dX5_clearMinutes_12 : decode cX5_clearMinutes 12 = .ok (.iload_n 1, 1) := by decide +kernel
theorem dX5_clearMinutes_13 : decode cX5_clearMinutes 13 = .ok (.aload_n 0, 1) := by decide +kernel
theorem dX5_clearMinutes_14 : decode cX5_clearMinutes 14 = .ok (.getfield 28, 3) := by decide +kernel
theorem dX5_clearMinutes_17 : decode cX5_clearMinutes 17 = .ok (.iload_n 2, 1) := by decide +kernel
theorem dX5_clearMinutes_18 : decode cX5_clearMinutes 18 = .ok (.invokevirtual 252, 3) := by decide +kernel
theorem dX5_clearMinutes_21 : decode cX5_clearMinutes 21 = .ok (.ifCond .eq 7, 3) := by decide +kernel
theorem dX5_clearMinutes_24 : decode cX5_clearMinutes 24 = .ok (.iconst 0, 1) := by decide +kernel
theorem dX5_clearMinutes_25 : decode cX5_clearMinutes 25 = .ok (.goto 4, 3) := by decide +kernel
theorem dX5_clearMinutes_28 : decode cX5_clearMinutes 28 = .ok (.iconst 1, 1) := by decide +kernel
theorem dX5_clearMinutes_29 : decode cX5_clearMinutes 29 = .ok (.iadd, 1) := by decide +kernel
theorem dX5_clearMinutes_30 : decode cX5_clearMinutes 30 = .ok (.istore_n 1, 1) := by decide +kernel
theorem dX5_clearMinutes_31 : decode cX5_clearMinutes 31 = .ok (.iinc 2 1, 3) := by decide +kernel
theorem dX5_clearMinutes_34 : decode cX5_clearMinutes 34 = .ok (.goto (-30), 3) := by decide +kernel
theorem dX5_clearMinutes_37 : decode cX5_clearMinutes 37 = .ok (.iload_n 1, 1) := by decide +kernel
theorem dX5_clearMinutes_38 : decode cX5_clearMinutes 38 = .ok (.ireturn, 1) := by decide +kernel
theorem dX5_reasonAgainst_0 : decode cX5_reasonAgainst 0 = .ok (.aload_n 0, 1) := by decide +kernel
theorem dX5_reasonAgainst_1 : decode cX5_reasonAgainst 1 = .ok (.getfield 28, 3) := by decide +kernel
theorem dX5_reasonAgainst_4 : decode cX5_reasonAgainst 4 = .ok (.iload_n 2, 1) := by decide +kernel
theorem dX5_reasonAgainst_5 : decode cX5_reasonAgainst 5 = .ok (.invokevirtual 252, 3) := by decide +kernel
theorem dX5_reasonAgainst_8 : decode cX5_reasonAgainst 8 = .ok (.ifCond .eq 5, 3) := by decide +kernel
theorem dX5_reasonAgainst_11 : decode cX5_reasonAgainst 11 = .ok (.iconst 1, 1) := by decide +kernel
theorem dX5_reasonAgainst_12 : decode cX5_reasonAgainst 12 = .ok (.ireturn, 1) := by decide +kernel
theorem dX5_reasonAgainst_13 : decode cX5_reasonAgainst 13 = .ok (.iload_n 3, 1) := by decide +kernel
theorem dX5_reasonAgainst_14 : decode cX5_reasonAgainst 14 = .ok (.aload_n 1, 1) := by decide +kernel
theorem dX5_reasonAgainst_15 : decode cX5_reasonAgainst 15 = .ok (.getfield 129, 3) := by decide +kernel
theorem dX5_reasonAgainst_18 : decode cX5_reasonAgainst 18 = .ok (.if_icmp .ge 5, 3) := by decide +kernel
theorem dX5_reasonAgainst_21 : decode cX5_reasonAgainst 21 = .ok (.iconst 2, 1) := by decide +kernel
theorem dX5_reasonAgainst_22 : decode cX5_reasonAgainst 22 = .ok (.ireturn, 1) := by decide +kernel
theorem dX5_reasonAgainst_23 : decode cX5_reasonAgainst 23 = .ok (.aload_n 1, 1) := by decide +kernel
theorem dX5_reasonAgainst_24 : decode cX5_reasonAgainst 24 = .ok (.getfield 152, 3) := by decide +kernel
theorem dX5_reasonAgainst_27 : decode cX5_reasonAgainst 27 = .ok (.aload_n 0, 1) := by decide +kernel
theorem dX5_reasonAgainst_28 : decode cX5_reasonAgainst 28 = .ok (.getfield 18, 3) := by decide +kernel
theorem dX5_reasonAgainst_31 : decode cX5_reasonAgainst 31 = .ok (.invokestatic 159, 3) := by decide +kernel
theorem dX5_reasonAgainst_34 : decode cX5_reasonAgainst 34 = .ok (.sipush 1000, 3) := by decide +kernel
theorem dX5_reasonAgainst_37 : decode cX5_reasonAgainst 37 = .ok (.iconst 5, 1) := by decide +kernel
theorem dX5_reasonAgainst_38 : decode cX5_reasonAgainst 38 = .ok (.aload_n 0, 1) := by decide +kernel
theorem dX5_reasonAgainst_39 : decode cX5_reasonAgainst 39 = .ok (.invokevirtual 74, 3) := by decide +kernel
theorem dX5_reasonAgainst_42 : decode cX5_reasonAgainst 42 = .ok (.imul, 1) := by decide +kernel
theorem dX5_reasonAgainst_43 : decode cX5_reasonAgainst 43 = .ok (.isub, 1) := by decide +kernel
theorem dX5_reasonAgainst_44 : decode cX5_reasonAgainst 44 = .ok (.if_icmp .le 7, 3) := by decide +kernel
theorem dX5_reasonAgainst_47 : decode cX5_reasonAgainst 47 = .ok (.iconst 1, 1) := by decide +kernel
theorem dX5_reasonAgainst_48 : decode cX5_reasonAgainst 48 = .ok (.goto 4, 3) := by decide +kernel
theorem dX5_reasonAgainst_51 : decode cX5_reasonAgainst 51 = .ok (.iconst 0, 1) := by decide +kernel
theorem dX5_reasonAgainst_52 : decode cX5_reasonAgainst 52 = .ok (.istore 4, 2) := by decide +kernel
theorem dX5_reasonAgainst_54 : decode cX5_reasonAgainst 54 = .ok (.iload 4, 2) := by decide +kernel
theorem dX5_reasonAgainst_56 : decode cX5_reasonAgainst 56 = .ok (.ifCond .eq 19, 3) := by decide +kernel
theorem dX5_reasonAgainst_59 : decode cX5_reasonAgainst 59 = .ok (.aload_n 0, 1) := by decide +kernel
theorem dX5_reasonAgainst_60 : decode cX5_reasonAgainst 60 = .ok (.aload_n 0, 1) := by decide +kernel
theorem dX5_reasonAgainst_61 : decode cX5_reasonAgainst 61 = .ok (.getfield 18, 3) := by decide +kernel
theorem dX5_reasonAgainst_64 : decode cX5_reasonAgainst 64 = .ok (.iload_n 2, 1) := by decide +kernel
theorem dX5_reasonAgainst_65 : decode cX5_reasonAgainst 65 = .ok (.invokevirtual 155, 3) := by decide +kernel
theorem dX5_reasonAgainst_68 : decode cX5_reasonAgainst 68 = .ok (.ifCond .le 7, 3) := by decide +kernel
theorem dX5_reasonAgainst_71 : decode cX5_reasonAgainst 71 = .ok (.iconst 3, 1) := by decide +kernel
theorem dX5_reasonAgainst_72 : decode cX5_reasonAgainst 72 = .ok (.goto 4, 3) := by decide +kernel
theorem dX5_reasonAgainst_75 : decode cX5_reasonAgainst 75 = .ok (.iconst 0, 1) := by decide +kernel
theorem dX5_reasonAgainst_76 : decode cX5_reasonAgainst 76 = .ok (.ireturn, 1) := by decide +kernel
theorem dX5_survey_0 : decode cX5_survey 0 = .ok (.aload_n 1, 1) := by decide +kernel
theorem dX5_survey_1 : decode cX5_survey 1 = .ok (.getfield 135, 3) := by decide +kernel
theorem dX5_survey_4 : decode cX5_survey 4 = .ok (.getfield 139, 3) := by decide +kernel
theorem dX5_survey_7 : decode cX5_survey 7 = .ok (.ifCond .eq 4, 3) := by decide +kernel
theorem dX5_survey_10 : decode cX5_survey 10 = .ok (.return_, 1) := by decide +kernel
theorem dX5_survey_11 : decode cX5_survey 11 = .ok (.aload_n 1, 1) := by decide +kernel
theorem dX5_survey_12 : decode cX5_survey 12 = .ok (.getfield 135, 3) := by decide +kernel
theorem dX5_survey_15 : decode cX5_survey 15 = .ok (.invokevirtual 255, 3) := by decide +kernel
theorem dX5_survey_18 : decode cX5_survey 18 = .ok (.iconst 0, 1) := by decide +kernel
theorem dX5_survey_19 : decode cX5_survey 19 = .ok (.istore_n 2, 1) := by decide +kernel
theorem dX5_survey_20 : decode cX5_survey 20 = .ok (.aload_n 0, 1) := by decide +kernel
theorem dX5_survey_21 : decode cX5_survey 21 = .ok (.getfield 21, 3) := by decide +kernel
theorem dX5_survey_24 : decode cX5_survey 24 = .ok (.iconst 1, 1) := by decide +kernel
theorem dX5_survey_25 : decode cX5_survey 25 = .ok (.isub, 1) := by decide +kernel
theorem dX5_survey_26 : decode cX5_survey 26 = .ok (.istore_n 3, 1) := by decide +kernel
theorem dX5_survey_27 : decode cX5_survey 27 = .ok (.iload_n 3, 1) := by decide +kernel
theorem dX5_survey_28 : decode cX5_survey 28 = .ok (.ifCond .lt 62, 3) := by decide +kernel
theorem dX5_survey_31 : decode cX5_survey 31 = .ok (.aload_n 0, 1) := by decide +kernel
theorem dX5_survey_32 : decode cX5_survey 32 = .ok (.aload_n 1, 1) := by decide +kernel
theorem dX5_survey_33 : decode cX5_survey 33 = .ok (.getfield 152, 3) := by decide +kernel
theorem dX5_survey_36 : decode cX5_survey 36 = .ok (.iload_n 3, 1) := by decide +kernel
theorem dX5_survey_37 : decode cX5_survey 37 = .ok (.invokevirtual 155, 3) := by decide +kernel
theorem dX5_survey_40 : decode cX5_survey 40 = .ok (.istore 4, 2) := by decide +kernel
theorem dX5_survey_42 : decode cX5_survey 42 = .ok (.aload_n 0, 1) := by decide +kernel
theorem dX5_survey_43 : decode cX5_survey 43 = .ok (.aload_n 1, 1) := by decide +kernel
theorem dX5_survey_44 : decode cX5_survey 44 = .ok (.iload_n 3, 1) := by decide +kernel
theorem dX5_survey_45 : decode cX5_survey 45 = .ok (.iload 4, 2) := by decide +kernel
theorem dX5_survey_47 : decode cX5_survey 47 = .ok (.invokevirtual 163, 3) := by decide +kernel
theorem dX5_survey_50 : decode cX5_survey 50 = .ok (.ifCond .ne 9, 3) := by decide +kernel
theorem dX5_survey_53 : decode cX5_survey 53 = .ok (.iload_n 2, 1) := by decide +kernel
theorem dX5_survey_54 : decode cX5_survey 54 = .ok (.iconst 1, 1) := by decide +kernel
theorem dX5_survey_55 : decode cX5_survey 55 = .ok (.iadd, 1) := by decide +kernel
theorem dX5_survey_56 : decode cX5_survey 56 = .ok (.goto 4, 3) := by decide +kernel
theorem dX5_survey_59 : decode cX5_survey 59 = .ok (.iconst 0, 1) := by decide +kernel
theorem dX5_survey_60 : decode cX5_survey 60 = .ok (.istore_n 2, 1) := by decide +kernel
theorem dX5_survey_61 : decode cX5_survey 61 = .ok (.aload_n 1, 1) := by decide +kernel
theorem dX5_survey_62 : decode cX5_survey 62 = .ok (.getfield 135, 3) := by decide +kernel
theorem dX5_survey_65 : decode cX5_survey 65 = .ok (.iload_n 3, 1) := by decide +kernel
theorem dX5_survey_66 : decode cX5_survey 66 = .ok (.iload 4, 2) := by decide +kernel
theorem dX5_survey_68 : decode cX5_survey 68 = .ok (.invokevirtual 258, 3) := by decide +kernel
theorem dX5_survey_71 : decode cX5_survey 71 = .ok (.aload_n 1, 1) := by decide +kernel
theorem dX5_survey_72 : decode cX5_survey 72 = .ok (.getfield 135, 3) := by decide +kernel
theorem dX5_survey_75 : decode cX5_survey 75 = .ok (.iload_n 3, 1) := by decide +kernel
theorem dX5_survey_76 : decode cX5_survey 76 = .ok (.iload_n 2, 1) := by decide +kernel
theorem dX5_survey_77 : decode cX5_survey 77 = .ok (.aload_n 1, 1) := by decide +kernel
theorem dX5_survey_78 : decode cX5_survey 78 = .ok (.getfield 261, 3) := by decide +kernel
theorem dX5_survey_81 : decode cX5_survey 81 = .ok (.invokevirtual 262, 3) := by decide +kernel
theorem dX5_survey_84 : decode cX5_survey 84 = .ok (.iinc 3 (-1), 3) := by decide +kernel
theorem dX5_survey_87 : decode cX5_survey 87 = .ok (.goto (-60), 3) := by decide +kernel
theorem dX5_survey_90 : decode cX5_survey 90 = .ok (.aload_n 1, 1) := by decide +kernel
theorem dX5_survey_91 : decode cX5_survey 91 = .ok (.getfield 135, 3) := by decide +kernel
theorem dX5_survey_94 : decode cX5_survey 94 = .ok (.iconst 1, 1) := by decide +kernel
theorem dX5_survey_95 : decode cX5_survey 95 = .ok (.putfield 139, 3) := by decide +kernel
theorem dX5_survey_98 : decode cX5_survey 98 = .ok (.return_, 1) := by decide +kernel
theorem dX5_share_0 : decode cX5_share 0 = .ok (.iload_n 2, 1) := by decide +kernel
theorem dX5_share_1 : decode cX5_share 1 = .ok (.tableswitch 63 0 2 #[27, 29, 46], 27) := by decide +kernel
theorem dX5_share_28 : decode cX5_share 28 = .ok (.iconst 1, 1) := by decide +kernel
theorem dX5_share_29 : decode cX5_share 29 = .ok (.ireturn, 1) := by decide +kernel
theorem dX5_share_30 : decode cX5_share 30 = .ok (.aload_n 1, 1) := by decide +kernel
theorem dX5_share_31 : decode cX5_share 31 = .ok (.aload_n 0, 1) := by decide +kernel
theorem dX5_share_32 : decode cX5_share 32 = .ok (.getfield 172, 3) := by decide +kernel
theorem dX5_share_35 : decode cX5_share 35 = .ok (.invokevirtual 175, 3) := by decide +kernel
theorem dX5_share_38 : decode cX5_share 38 = .ok (.ifCond .eq 7, 3) := by decide +kernel
theorem dX5_share_41 : decode cX5_share 41 = .ok (.iconst 1, 1) := by decide +kernel
theorem dX5_share_42 : decode cX5_share 42 = .ok (.goto 4, 3) := by decide +kernel
theorem dX5_share_45 : decode cX5_share 45 = .ok (.iconst 0, 1) := by decide +kernel
theorem dX5_share_46 : decode cX5_share 46 = .ok (.ireturn, 1) := by decide +kernel
theorem dX5_share_47 : decode cX5_share 47 = .ok (.aload_n 1, 1) := by decide +kernel
theorem dX5_share_48 : decode cX5_share 48 = .ok (.getfield 266, 3) := by decide +kernel
theorem dX5_share_51 : decode cX5_share 51 = .ok (.aload_n 1, 1) := by decide +kernel
theorem dX5_share_52 : decode cX5_share 52 = .ok (.getfield 126, 3) := by decide +kernel
theorem dX5_share_55 : decode cX5_share 55 = .ok (.if_icmp .lt 7, 3) := by decide +kernel
theorem dX5_share_58 : decode cX5_share 58 = .ok (.iconst 1, 1) := by decide +kernel
theorem dX5_share_59 : decode cX5_share 59 = .ok (.goto 4, 3) := by decide +kernel
theorem dX5_share_62 : decode cX5_share 62 = .ok (.iconst 0, 1) := by decide +kernel
theorem dX5_share_63 : decode cX5_share 63 = .ok (.ireturn, 1) := by decide +kernel
theorem dX5_share_64 : decode cX5_share 64 = .ok (.aload_n 1, 1) := by decide +kernel
theorem dX5_share_65 : decode cX5_share 65 = .ok (.getfield 266, 3) := by decide +kernel
theorem dX5_share_68 : decode cX5_share 68 = .ok (.ireturn, 1) := by decide +kernel
theorem dX5_settlePlan_0 : decode cX5_settlePlan 0 = .ok (.aload_n 0, 1) := by decide +kernel
theorem dX5_settlePlan_1 : decode cX5_settlePlan 1 = .ok (.getfield 42, 3) := by decide +kernel
theorem dX5_settlePlan_4 : decode cX5_settlePlan 4 = .ok (.getfield 116, 3) := by decide +kernel
theorem dX5_settlePlan_7 : decode cX5_settlePlan 7 = .ok (.ifCond .eq 4, 3) := by decide +kernel
theorem dX5_settlePlan_10 : decode cX5_settlePlan 10 = .ok (.return_, 1) := by decide +kernel
theorem dX5_settlePlan_11 : decode cX5_settlePlan 11 = .ok (.aload_n 0, 1) := by decide +kernel
theorem dX5_settlePlan_12 : decode cX5_settlePlan 12 = .ok (.getfield 42, 3) := by decide +kernel
theorem dX5_settlePlan_15 : decode cX5_settlePlan 15 = .ok (.invokevirtual 269, 3) := by decide +kernel
theorem dX5_settlePlan_18 : decode cX5_settlePlan 18 = .ok (.iconst 0, 1) := by decide +kernel
theorem dX5_settlePlan_19 : decode cX5_settlePlan 19 = .ok (.istore_n 1, 1) := by decide +kernel
theorem dX5_settlePlan_20 : decode cX5_settlePlan 20 = .ok (.iload_n 1, 1) := by decide +kernel
theorem dX5_settlePlan_21 : decode cX5_settlePlan 21 = .ok (.aload_n 0, 1) := by decide +kernel
theorem dX5_settlePlan_22 : decode cX5_settlePlan 22 = .ok (.getfield 35, 3) := by decide +kernel
theorem dX5_settlePlan_25 : decode cX5_settlePlan 25 = .ok (.invokevirtual 102, 3) := by decide +kernel
theorem dX5_settlePlan_28 : decode cX5_settlePlan 28 = .ok (.if_icmp .ge 31, 3) := by decide +kernel
theorem dX5_settlePlan_31 : decode cX5_settlePlan 31 = .ok (.aload_n 0, 1) := by decide +kernel
theorem dX5_settlePlan_32 : decode cX5_settlePlan 32 = .ok (.getfield 35, 3) := by decide +kernel
theorem dX5_settlePlan_35 : decode cX5_settlePlan 35 = .ok (.iload_n 1, 1) := by decide +kernel
theorem dX5_settlePlan_36 : decode cX5_settlePlan 36 = .ok (.invokevirtual 179, 3) := by decide +kernel
theorem dX5_settlePlan_39 : decode cX5_settlePlan 39 = .ok (.checkcast 107, 3) := by decide +kernel
theorem dX5_settlePlan_42 : decode cX5_settlePlan 42 = .ok (.astore_n 2, 1) := by decide +kernel
theorem dX5_settlePlan_43 : decode cX5_settlePlan 43 = .ok (.aload_n 2, 1) := by decide +kernel
theorem dX5_settlePlan_44 : decode cX5_settlePlan 44 = .ok (.iconst 0, 1) := by decide +kernel
theorem dX5_settlePlan_45 : decode cX5_settlePlan 45 = .ok (.putfield 270, 3) := by decide +kernel
theorem dX5_settlePlan_48 : decode cX5_settlePlan 48 = .ok (.aload_n 0, 1) := by decide +kernel
theorem dX5_settlePlan_49 : decode cX5_settlePlan 49 = .ok (.aload_n 2, 1) := by decide +kernel
theorem dX5_settlePlan_50 : decode cX5_settlePlan 50 = .ok (.invokevirtual 167, 3) := by decide +kernel
theorem dX5_settlePlan_53 : decode cX5_settlePlan 53 = .ok (.iinc 1 1, 3) := by decide +kernel
theorem dX5_settlePlan_56 : decode cX5_settlePlan 56 = .ok (.goto (-36), 3) := by decide +kernel
theorem dX5_settlePlan_59 : decode cX5_settlePlan 59 = .ok (.iconst 0, 1) := by decide +kernel
theorem dX5_settlePlan_60 : decode cX5_settlePlan 60 = .ok (.istore_n 1, 1) := by decide +kernel
theorem dX5_settlePlan_61 : decode cX5_settlePlan 61 = .ok (.iload_n 1, 1) := by decide +kernel
theorem dX5_settlePlan_62 : decode cX5_settlePlan 62 = .ok (.aload_n 0, 1) := by decide +kernel
theorem dX5_settlePlan_63 : decode cX5_settlePlan 63 = .ok (.getfield 21, 3) := by decide +kernel
theorem dX5_settlePlan_66 : decode cX5_settlePlan 66 = .ok (.if_icmp .ge 18, 3) := by decide +kernel
theorem dX5_settlePlan_69 : decode cX5_settlePlan 69 = .ok (.iload_n 1, 1) := by decide +kernel
theorem dX5_settlePlan_70 : decode cX5_settlePlan 70 = .ok (.iconst 1, 1) := by decide +kernel
theorem dX5_settlePlan_71 : decode cX5_settlePlan 71 = .ok (.iadd, 1) := by decide +kernel
theorem dX5_settlePlan_72 : decode cX5_settlePlan 72 = .ok (.aload_n 0, 1) := by decide +kernel
theorem dX5_settlePlan_73 : decode cX5_settlePlan 73 = .ok (.iload_n 1, 1) := by decide +kernel
theorem dX5_settlePlan_74 : decode cX5_settlePlan 74 = .ok (.invokevirtual 273, 3) := by decide +kernel
theorem dX5_settlePlan_77 : decode cX5_settlePlan 77 = .ok (.invokestatic 276, 3) := by decide +kernel
theorem dX5_settlePlan_80 : decode cX5_settlePlan 80 = .ok (.istore_n 1, 1) := by decide +kernel
theorem dX5_settlePlan_81 : decode cX5_settlePlan 81 = .ok (.goto (-20), 3) := by decide +kernel
theorem dX5_settlePlan_84 : decode cX5_settlePlan 84 = .ok (.aload_n 0, 1) := by decide +kernel
theorem dX5_settlePlan_85 : decode cX5_settlePlan 85 = .ok (.getfield 42, 3) := by decide +kernel
theorem dX5_settlePlan_88 : decode cX5_settlePlan 88 = .ok (.iconst 1, 1) := by decide +kernel
theorem dX5_settlePlan_89 : decode cX5_settlePlan 89 = .ok (.putfield 116, 3) := by decide +kernel
theorem dX5_settlePlan_92 : decode cX5_settlePlan 92 = .ok (.return_, 1) := by decide +kernel
theorem dX5_takeBest_0 : decode cX5_takeBest 0 = .ok (.aconst_null, 1) := by decide +kernel
theorem dX5_takeBest_1 : decode cX5_takeBest 1 = .ok (.astore_n 2, 1) := by decide +kernel
theorem dX5_takeBest_2 : decode cX5_takeBest 2 = .ok (.ldc_w 280, 3) := by decide +kernel
theorem dX5_takeBest_5 : decode cX5_takeBest 5 = .ok (.istore_n 3, 1) := by decide +kernel
theorem dX5_takeBest_6 : decode cX5_takeBest 6 = .ok (.iconst 0, 1) := by decide +kernel
theorem dX5_takeBest_7 : decode cX5_takeBest 7 = .ok (.istore 4, 2) := by decide +kernel
theorem dX5_takeBest_9 : decode cX5_takeBest 9 = .ok (.iload 4, 2) := by decide +kernel
theorem dX5_takeBest_11 : decode cX5_takeBest 11 = .ok (.aload_n 0, 1) := by decide +kernel
theorem dX5_takeBest_12 : decode cX5_takeBest 12 = .ok (.getfield 35, 3) := by decide +kernel
theorem dX5_takeBest_15 : decode cX5_takeBest 15 = .ok (.invokevirtual 102, 3) := by decide +kernel
theorem dX5_takeBest_18 : decode cX5_takeBest 18 = .ok (.if_icmp .ge 44, 3) := by decide +kernel
theorem dX5_takeBest_21 : decode cX5_takeBest 21 = .ok (.aload_n 0, 1) := by decide +kernel
theorem dX5_takeBest_22 : decode cX5_takeBest 22 = .ok (.getfield 35, 3) := by decide +kernel
theorem dX5_takeBest_25 : decode cX5_takeBest 25 = .ok (.iload 4, 2) := by decide +kernel
theorem dX5_takeBest_27 : decode cX5_takeBest 27 = .ok (.invokevirtual 179, 3) := by decide +kernel
theorem dX5_takeBest_30 : decode cX5_takeBest 30 = .ok (.checkcast 107, 3) := by decide +kernel
theorem dX5_takeBest_33 : decode cX5_takeBest 33 = .ok (.astore 5, 2) := by decide +kernel
theorem dX5_takeBest_35 : decode cX5_takeBest 35 = .ok (.aload_n 0, 1) := by decide +kernel
theorem dX5_takeBest_36 : decode cX5_takeBest 36 = .ok (.aload 5, 2) := by decide +kernel
theorem dX5_takeBest_38 : decode cX5_takeBest 38 = .ok (.iload_n 1, 1) := by decide +kernel
theorem dX5_takeBest_39 : decode cX5_takeBest 39 = .ok (.invokevirtual 281, 3) := by decide +kernel
theorem dX5_takeBest_42 : decode cX5_takeBest 42 = .ok (.istore 6, 2) := by decide +kernel
theorem dX5_takeBest_44 : decode cX5_takeBest 44 = .ok (.iload 6, 2) := by decide +kernel
theorem dX5_takeBest_46 : decode cX5_takeBest 46 = .ok (.iload_n 3, 1) := by decide +kernel
theorem dX5_takeBest_47 : decode cX5_takeBest 47 = .ok (.if_icmp .le 9, 3) := by decide +kernel
theorem dX5_takeBest_50 : decode cX5_takeBest 50 = .ok (.aload 5, 2) := by decide +kernel
theorem dX5_takeBest_52 : decode cX5_takeBest 52 = .ok (.astore_n 2, 1) := by decide +kernel
theorem dX5_takeBest_53 : decode cX5_takeBest 53 = .ok (.iload 6, 2) := by decide +kernel
theorem dX5_takeBest_55 : decode cX5_takeBest 55 = .ok (.istore_n 3, 1) := by decide +kernel
theorem dX5_takeBest_56 : decode cX5_takeBest 56 = .ok (.iinc 4 1, 3) := by decide +kernel
theorem dX5_takeBest_59 : decode cX5_takeBest 59 = .ok (.goto (-50), 3) := by decide +kernel
theorem dX5_takeBest_62 : decode cX5_takeBest 62 = .ok (.aload_n 2, 1) := by decide +kernel
theorem dX5_takeBest_63 : decode cX5_takeBest 63 = .ok (.ifnonnull 7, 3) := by decide +kernel
theorem dX5_takeBest_66 : decode cX5_takeBest 66 = .ok (.iload_n 1, 1) := by decide +kernel
theorem dX5_takeBest_67 : decode cX5_takeBest 67 = .ok (.goto 13, 3) := by decide +kernel
theorem dX5_takeBest_70 : decode cX5_takeBest 70 = .ok (.aload_n 0, 1) := by decide +kernel
theorem dX5_takeBest_71 : decode cX5_takeBest 71 = .ok (.getfield 42, 3) := by decide +kernel
theorem dX5_takeBest_74 : decode cX5_takeBest 74 = .ok (.aload_n 2, 1) := by decide +kernel
theorem dX5_takeBest_75 : decode cX5_takeBest 75 = .ok (.iload_n 1, 1) := by decide +kernel
theorem dX5_takeBest_76 : decode cX5_takeBest 76 = .ok (.iload_n 3, 1) := by decide +kernel
theorem dX5_takeBest_77 : decode cX5_takeBest 77 = .ok (.invokevirtual 284, 3) := by decide +kernel
theorem dX5_takeBest_80 : decode cX5_takeBest 80 = .ok (.ireturn, 1) := by decide +kernel
theorem dX5_meritAt_0 : decode cX5_meritAt 0 = .ok (.aload_n 1, 1) := by decide +kernel
theorem dX5_meritAt_1 : decode cX5_meritAt 1 = .ok (.getfield 270, 3) := by decide +kernel
theorem dX5_meritAt_4 : decode cX5_meritAt 4 = .ok (.ifCond .ne 14, 3) := by decide +kernel
theorem dX5_meritAt_7 : decode cX5_meritAt 7 = .ok (.aload_n 1, 1) := by decide +kernel
theorem dX5_meritAt_8 : decode cX5_meritAt 8 = .ok (.aload_n 0, 1) := by decide +kernel
theorem dX5_meritAt_9 : decode cX5_meritAt 9 = .ok (.getfield 172, 3) := by decide +kernel
theorem dX5_meritAt_12 : decode cX5_meritAt 12 = .ok (.invokevirtual 175, 3) := by decide +kernel
theorem dX5_meritAt_15 : decode cX5_meritAt 15 = .ok (.ifCond .ne 7, 3) := by decide +kernel
theorem dX5_meritAt_18 : decode cX5_meritAt 18 = .ok (.ldc_w 280, 3) := by decide +kernel
theorem dX5_meritAt_21 : decode cX5_meritAt 21 = .ok (.ireturn, 1) := by decide +kernel
theorem dX5_meritAt_22 : decode cX5_meritAt 22 = .ok (.aload_n 0, 1) := by decide +kernel
theorem dX5_meritAt_23 : decode cX5_meritAt 23 = .ok (.getfield 42, 3) := by decide +kernel
theorem dX5_meritAt_26 : decode cX5_meritAt 26 = .ok (.aload_n 1, 1) := by decide +kernel
theorem dX5_meritAt_27 : decode cX5_meritAt 27 = .ok (.invokevirtual 287, 3) := by decide +kernel
theorem dX5_meritAt_30 : decode cX5_meritAt 30 = .ok (.istore_n 3, 1) := by decide +kernel
theorem dX5_meritAt_31 : decode cX5_meritAt 31 = .ok (.aload_n 1, 1) := by decide +kernel
theorem dX5_meritAt_32 : decode cX5_meritAt 32 = .ok (.getfield 135, 3) := by decide +kernel
theorem dX5_meritAt_35 : decode cX5_meritAt 35 = .ok (.iload_n 2, 1) := by decide +kernel
theorem dX5_meritAt_36 : decode cX5_meritAt 36 = .ok (.iload_n 3, 1) := by decide +kernel
theorem dX5_meritAt_37 : decode cX5_meritAt 37 = .ok (.iadd, 1) := by decide +kernel
theorem dX5_meritAt_38 : decode cX5_meritAt 38 = .ok (.aload_n 1, 1) := by decide +kernel
theorem dX5_meritAt_39 : decode cX5_meritAt 39 = .ok (.getfield 261, 3) := by decide +kernel
theorem dX5_meritAt_42 : decode cX5_meritAt 42 = .ok (.invokevirtual 291, 3) := by decide +kernel
theorem dX5_meritAt_45 : decode cX5_meritAt 45 = .ok (.ifCond .ne 7, 3) := by decide +kernel
theorem dX5_meritAt_48 : decode cX5_meritAt 48 = .ok (.ldc_w 280, 3) := by decide +kernel
theorem dX5_meritAt_51 : decode cX5_meritAt 51 = .ok (.ireturn, 1) := by decide +kernel
theorem dX5_meritAt_52 : decode cX5_meritAt 52 = .ok (.bipush 100, 2) := by decide +kernel
theorem dX5_meritAt_54 : decode cX5_meritAt 54 = .ok (.aload_n 1, 1) := by decide +kernel
theorem dX5_meritAt_55 : decode cX5_meritAt 55 = .ok (.getfield 294, 3) := by decide +kernel
theorem dX5_meritAt_58 : decode cX5_meritAt 58 = .ok (.imul, 1) := by decide +kernel
theorem dX5_meritAt_59 : decode cX5_meritAt 59 = .ok (.aload_n 0, 1) := by decide +kernel
theorem dX5_meritAt_60 : decode cX5_meritAt 60 = .ok (.aload_n 1, 1) := by decide +kernel
theorem dX5_meritAt_61 : decode cX5_meritAt 61 = .ok (.getfield 152, 3) := by decide +kernel
theorem dX5_meritAt_64 : decode cX5_meritAt 64 = .ok (.iload_n 2, 1) := by decide +kernel
theorem dX5_meritAt_65 : decode cX5_meritAt 65 = .ok (.iload_n 3, 1) := by decide +kernel
theorem dX5_meritAt_66 : decode cX5_meritAt 66 = .ok (.iadd, 1) := by decide +kernel
theorem dX5_meritAt_67 : decode cX5_meritAt 67 = .ok (.invokevirtual 155, 3) := by decide +kernel
theorem dX5_meritAt_70 : decode cX5_meritAt 70 = .ok (.bipush 10, 2) := by decide +kernel
theorem dX5_meritAt_72 : decode cX5_meritAt 72 = .ok (.idiv, 1) := by decide +kernel
theorem dX5_meritAt_73 : decode cX5_meritAt 73 = .ok (.iadd, 1) := by decide +kernel
theorem dX5_meritAt_74 : decode cX5_meritAt 74 = .ok (.iload_n 3, 1) := by decide +kernel
theorem dX5_meritAt_75 : decode cX5_meritAt 75 = .ok (.isub, 1) := by decide +kernel
theorem dX5_meritAt_76 : decode cX5_meritAt 76 = .ok (.ireturn, 1) := by decide +kernel
theorem dX5_beginNextNight_0 : decode cX5_beginNextNight 0 = .ok (.aload_n 0, 1) := by decide +kernel
theorem dX5_beginNextNight_1 : decode cX5_beginNextNight 1 = .ok (.dup, 1) := by decide +kernel
theorem dX5_beginNextNight_2 : decode cX5_beginNextNight 2 = .ok (.getfield 172, 3) := by decide +kernel
theorem dX5_beginNextNight_5 : decode cX5_beginNextNight 5 = .ok (.iconst 1, 1) := by decide +kernel
theorem dX5_beginNextNight_6 : decode cX5_beginNextNight 6 = .ok (.iadd, 1) := by decide +kernel
theorem dX5_beginNextNight_7 : decode cX5_beginNextNight 7 = .ok (.putfield 172, 3) := by decide +kernel
theorem dX5_beginNextNight_10 : decode cX5_beginNextNight 10 = .ok (.aload_n 0, 1) := by decide +kernel
theorem dX5_beginNextNight_11 : decode cX5_beginNextNight 11 = .ok (.new 7, 3) := by decide +kernel
theorem dX5_beginNextNight_14 : decode cX5_beginNextNight 14 = .ok (.dup, 1) := by decide +kernel
theorem dX5_beginNextNight_15 : decode cX5_beginNextNight 15 = .ok (.aload_n 0, 1) := by decide +kernel
theorem dX5_beginNextNight_16 : decode cX5_beginNextNight 16 = .ok (.getfield 18, 3) := by decide +kernel
theorem dX5_beginNextNight_19 : decode cX5_beginNextNight 19 = .ok (.getfield 220, 3) := by decide +kernel
theorem dX5_beginNextNight_22 : decode cX5_beginNextNight 22 = .ok (.bipush 49, 2) := by decide +kernel
theorem dX5_beginNextNight_24 : decode cX5_beginNextNight 24 = .ok (.iadd, 1) := by decide +kernel
theorem dX5_beginNextNight_25 : decode cX5_beginNextNight 25 = .ok (.sipush 1440, 3) := by decide +kernel
theorem dX5_beginNextNight_28 : decode cX5_beginNextNight 28 = .ok (.irem, 1) := by decide +kernel
theorem dX5_beginNextNight_29 : decode cX5_beginNextNight 29 = .ok (.aload_n 0, 1) := by decide +kernel
theorem dX5_beginNextNight_30 : decode cX5_beginNextNight 30 = .ok (.getfield 18, 3) := by decide +kernel
theorem dX5_beginNextNight_33 : decode cX5_beginNextNight 33 = .ok (.getfield 57, 3) := by decide +kernel
theorem dX5_beginNextNight_36 : decode cX5_beginNextNight 36 = .ok (.invokespecial 9, 3) := by decide +kernel
theorem dX5_beginNextNight_39 : decode cX5_beginNextNight 39 = .ok (.putfield 18, 3) := by decide +kernel
theorem dX5_beginNextNight_42 : decode cX5_beginNextNight 42 = .ok (.aload_n 0, 1) := by decide +kernel
theorem dX5_beginNextNight_43 : decode cX5_beginNextNight 43 = .ok (.aload_n 0, 1) := by decide +kernel
theorem dX5_beginNextNight_44 : decode cX5_beginNextNight 44 = .ok (.getfield 71, 3) := by decide +kernel
theorem dX5_beginNextNight_47 : decode cX5_beginNextNight 47 = .ok (.iconst 1, 1) := by decide +kernel
theorem dX5_beginNextNight_48 : decode cX5_beginNextNight 48 = .ok (.iadd, 1) := by decide +kernel
theorem dX5_beginNextNight_49 : decode cX5_beginNextNight 49 = .ok (.bipush 30, 2) := by decide +kernel
theorem dX5_beginNextNight_51 : decode cX5_beginNextNight 51 = .ok (.irem, 1) := by decide +kernel
theorem dX5_beginNextNight_52 : decode cX5_beginNextNight 52 = .ok (.putfield 71, 3) := by decide +kernel
theorem dX5_beginNextNight_55 : decode cX5_beginNextNight 55 = .ok (.aload_n 0, 1) := by decide +kernel
theorem dX5_beginNextNight_56 : decode cX5_beginNextNight 56 = .ok (.getfield 28, 3) := by decide +kernel
theorem dX5_beginNextNight_59 : decode cX5_beginNextNight 59 = .ok (.iconst 0, 1) := by decide +kernel
theorem dX5_beginNextNight_60 : decode cX5_beginNextNight 60 = .ok (.putfield 80, 3) := by decide +kernel
theorem dX5_beginNextNight_63 : decode cX5_beginNextNight 63 = .ok (.aload_n 0, 1) := by decide +kernel
theorem dX5_beginNextNight_64 : decode cX5_beginNextNight 64 = .ok (.invokevirtual 60, 3) := by decide +kernel
theorem dX5_beginNextNight_67 : decode cX5_beginNextNight 67 = .ok (.return_, 1) := by decide +kernel
theorem dX5_forgetNight_0 : decode cX5_forgetNight 0 = .ok (.iconst 0, 1) := by decide +kernel
theorem dX5_forgetNight_1 : decode cX5_forgetNight 1 = .ok (.istore_n 1, 1) := by decide +kernel
theorem dX5_forgetNight_2 : decode cX5_forgetNight 2 = .ok (.iload_n 1, 1) := by decide +kernel
theorem dX5_forgetNight_3 : decode cX5_forgetNight 3 = .ok (.aload_n 0, 1) := by decide +kernel
theorem dX5_forgetNight_4 : decode cX5_forgetNight 4 = .ok (.getfield 35, 3) := by decide +kernel
theorem dX5_forgetNight_7 : decode cX5_forgetNight 7 = .ok (.invokevirtual 102, 3) := by decide +kernel
theorem dX5_forgetNight_10 : decode cX5_forgetNight 10 = .ok (.if_icmp .ge 27, 3) := by decide +kernel
theorem dX5_forgetNight_13 : decode cX5_forgetNight 13 = .ok (.aload_n 0, 1) := by decide +kernel
theorem dX5_forgetNight_14 : decode cX5_forgetNight 14 = .ok (.getfield 35, 3) := by decide +kernel
theorem dX5_forgetNight_17 : decode cX5_forgetNight 17 = .ok (.iload_n 1, 1) := by decide +kernel
theorem dX5_forgetNight_18 : decode cX5_forgetNight 18 = .ok (.invokevirtual 179, 3) := by decide +kernel
theorem dX5_forgetNight_21 : decode cX5_forgetNight 21 = .ok (.checkcast 107, 3) := by decide +kernel
theorem dX5_forgetNight_24 : decode cX5_forgetNight 24 = .ok (.getfield 135, 3) := by decide +kernel
theorem dX5_forgetNight_27 : decode cX5_forgetNight 27 = .ok (.iconst 0, 1) := by decide +kernel
theorem dX5_forgetNight_28 : decode cX5_forgetNight 28 = .ok (.putfield 139, 3) := by decide +kernel
theorem dX5_forgetNight_31 : decode cX5_forgetNight 31 = .ok (.iinc 1 1, 3) := by decide +kernel
theorem dX5_forgetNight_34 : decode cX5_forgetNight 34 = .ok (.goto (-32), 3) := by decide +kernel
theorem dX5_forgetNight_37 : decode cX5_forgetNight 37 = .ok (.aload_n 0, 1) := by decide +kernel
theorem dX5_forgetNight_38 : decode cX5_forgetNight 38 = .ok (.getfield 42, 3) := by decide +kernel
theorem dX5_forgetNight_41 : decode cX5_forgetNight 41 = .ok (.iconst 0, 1) := by decide +kernel
theorem dX5_forgetNight_42 : decode cX5_forgetNight 42 = .ok (.putfield 116, 3) := by decide +kernel
theorem dX5_forgetNight_45 : decode cX5_forgetNight 45 = .ok (.return_, 1) := by decide +kernel
theorem dX5_blend_0 : decode cX5_blend 0 = .ok (.lload_n 0, 1) := by decide +kernel
theorem dX5_blend_1 : decode cX5_blend 1 = .ok (.ldc2_w 297, 3) := by decide +kernel
theorem dX5_blend_4 : decode cX5_blend 4 = .ok (.lmul, 1) := by decide +kernel
theorem dX5_blend_5 : decode cX5_blend 5 = .ok (.iload_n 2, 1) := by decide +kernel
theorem dX5_blend_6 : decode cX5_blend 6 = .ok (.i2l, 1) := by decide +kernel
theorem dX5_blend_7 : decode cX5_blend 7 = .ok (.ladd, 1) := by decide +kernel
theorem dX5_blend_8 : decode cX5_blend 8 = .ok (.lreturn, 1) := by decide +kernel
theorem dX5_blendTargets_0 : decode cX5_blendTargets 0 = .ok (.lload_n 1, 1) := by decide +kernel
theorem dX5_blendTargets_1 : decode cX5_blendTargets 1 = .ok (.aload_n 0, 1) := by decide +kernel
theorem dX5_blendTargets_2 : decode cX5_blendTargets 2 = .ok (.getfield 35, 3) := by decide +kernel
theorem dX5_blendTargets_5 : decode cX5_blendTargets 5 = .ok (.invokevirtual 102, 3) := by decide +kernel
theorem dX5_blendTargets_8 : decode cX5_blendTargets 8 = .ok (.invokestatic 216, 3) := by decide +kernel
theorem dX5_blendTargets_11 : decode cX5_blendTargets 11 = .ok (.lstore_n 3, 1) := by decide +kernel
theorem dX5_blendTargets_12 : decode cX5_blendTargets 12 = .ok (.iconst 0, 1) := by decide +kernel
theorem dX5_blendTargets_13 : decode cX5_blendTargets 13 = .ok (.istore 5, 2) := by decide +kernel
theorem dX5_blendTargets_15 : decode cX5_blendTargets 15 = .ok (.iload 5, 2) := by decide +kernel
theorem dX5_blendTargets_17 : decode cX5_blendTargets 17 = .ok (.aload_n 0, 1) := by decide +kernel
theorem dX5_blendTargets_18 : decode cX5_blendTargets 18 = .ok (.getfield 35, 3) := by decide +kernel
theorem dX5_blendTargets_21 : decode cX5_blendTargets 21 = .ok (.invokevirtual 102, 3) := by decide +kernel
theorem dX5_blendTargets_24 : decode cX5_blendTargets 24 = .ok (.if_icmp .ge 81, 3) := by decide +kernel
theorem dX5_blendTargets_27 : decode cX5_blendTargets 27 = .ok (.aload_n 0, 1) := by decide +kernel
theorem dX5_blendTargets_28 : decode cX5_blendTargets 28 = .ok (.getfield 35, 3) := by decide +kernel
theorem dX5_blendTargets_31 : decode cX5_blendTargets 31 = .ok (.iload 5, 2) := by decide +kernel
theorem dX5_blendTargets_33 : decode cX5_blendTargets 33 = .ok (.invokevirtual 179, 3) := by decide +kernel
theorem dX5_blendTargets_36 : decode cX5_blendTargets 36 = .ok (.checkcast 107, 3) := by decide +kernel
theorem dX5_blendTargets_39 : decode cX5_blendTargets 39 = .ok (.astore 6, 2) := by decide +kernel
theorem dX5_blendTargets_41 : decode cX5_blendTargets 41 = .ok (.iconst 0, 1) := by decide +kernel
theorem dX5_blendTargets_42 : decode cX5_blendTargets 42 = .ok (.istore 7, 2) := by decide +kernel
theorem dX5_blendTargets_44 : decode cX5_blendTargets 44 = .ok (.iload 7, 2) := by decide +kernel
theorem dX5_blendTargets_46 : decode cX5_blendTargets 46 = .ok (.bipush 10, 2) := by decide +kernel
theorem dX5_blendTargets_48 : decode cX5_blendTargets 48 = .ok (.if_icmp .ge 21, 3) := by decide +kernel
theorem dX5_blendTargets_51 : decode cX5_blendTargets 51 = .ok (.lload_n 3, 1) := by decide +kernel
theorem dX5_blendTargets_52 : decode cX5_blendTargets 52 = .ok (.aload 6, 2) := by decide +kernel
theorem dX5_blendTargets_54 : decode cX5_blendTargets 54 = .ok (.iload 7, 2) := by decide +kernel
theorem dX5_blendTargets_56 : decode cX5_blendTargets 56 = .ok (.invokevirtual 145, 3) := by decide +kernel
theorem dX5_blendTargets_59 : decode cX5_blendTargets 59 = .ok (.invokestatic 216, 3) := by decide +kernel
theorem dX5_blendTargets_62 : decode cX5_blendTargets 62 = .ok (.lstore_n 3, 1) := by decide +kernel
theorem dX5_blendTargets_63 : decode cX5_blendTargets 63 = .ok (.iinc 7 1, 3) := by decide +kernel
theorem dX5_blendTargets_66 : decode cX5_blendTargets 66 = .ok (.goto (-22), 3) := by decide +kernel
theorem dX5_blendTargets_69 : decode cX5_blendTargets 69 = .ok (.iconst 0, 1) := by decide +kernel
theorem dX5_blendTargets_70 : decode cX5_blendTargets 70 = .ok (.istore 7, 2) := by decide +kernel
theorem dX5_blendTargets_72 : decode cX5_blendTargets 72 = .ok (.iload 7, 2) := by decide +kernel
theorem dX5_blendTargets_74 : decode cX5_blendTargets 74 = .ok (.iconst 5, 1) := by decide +kernel
theorem dX5_blendTargets_75 : decode cX5_blendTargets 75 = .ok (.if_icmp .ge 24, 3) := by decide +kernel
theorem dX5_blendTargets_78 : decode cX5_blendTargets 78 = .ok (.lload_n 3, 1) := by decide +kernel
theorem dX5_blendTargets_79 : decode cX5_blendTargets 79 = .ok (.aload 6, 2) := by decide +kernel
theorem dX5_blendTargets_81 : decode cX5_blendTargets 81 = .ok (.getfield 135, 3) := by decide +kernel
theorem dX5_blendTargets_84 : decode cX5_blendTargets 84 = .ok (.iload 7, 2) := by decide +kernel
theorem dX5_blendTargets_86 : decode cX5_blendTargets 86 = .ok (.invokevirtual 171, 3) := by decide +kernel
theorem dX5_blendTargets_89 : decode cX5_blendTargets 89 = .ok (.invokestatic 216, 3) := by decide +kernel
theorem dX5_blendTargets_92 : decode cX5_blendTargets 92 = .ok (.lstore_n 3, 1) := by decide +kernel
theorem dX5_blendTargets_93 : decode cX5_blendTargets 93 = .ok (.iinc 7 1, 3) := by decide +kernel
theorem dX5_blendTargets_96 : decode cX5_blendTargets 96 = .ok (.goto (-24), 3) := by decide +kernel
theorem dX5_blendTargets_99 : decode cX5_blendTargets 99 = .ok (.iinc 5 1, 3) := by decide +kernel
theorem dX5_blendTargets_102 : decode cX5_blendTargets 102 = .ok (.goto (-87), 3) := by decide +kernel
theorem dX5_blendTargets_105 : decode cX5_blendTargets 105 = .ok (.lload_n 3, 1) := by decide +kernel
theorem dX5_blendTargets_106 : decode cX5_blendTargets 106 = .ok (.lreturn, 1) := by decide +kernel
theorem dX5_blendPlan_0 : decode cX5_blendPlan 0 = .ok (.lload_n 1, 1) := by decide +kernel
theorem dX5_blendPlan_1 : decode cX5_blendPlan 1 = .ok (.aload_n 0, 1) := by decide +kernel
theorem dX5_blendPlan_2 : decode cX5_blendPlan 2 = .ok (.getfield 42, 3) := by decide +kernel
theorem dX5_blendPlan_5 : decode cX5_blendPlan 5 = .ok (.getfield 190, 3) := by decide +kernel
theorem dX5_blendPlan_8 : decode cX5_blendPlan 8 = .ok (.invokestatic 216, 3) := by decide +kernel
theorem dX5_blendPlan_11 : decode cX5_blendPlan 11 = .ok (.lstore_n 3, 1) := by decide +kernel
theorem dX5_blendPlan_12 : decode cX5_blendPlan 12 = .ok (.iconst 0, 1) := by decide +kernel
theorem dX5_blendPlan_13 : decode cX5_blendPlan 13 = .ok (.istore 5, 2) := by decide +kernel
theorem dX5_blendPlan_15 : decode cX5_blendPlan 15 = .ok (.iload 5, 2) := by decide +kernel
theorem dX5_blendPlan_17 : decode cX5_blendPlan 17 = .ok (.aload_n 0, 1) := by decide +kernel
theorem dX5_blendPlan_18 : decode cX5_blendPlan 18 = .ok (.getfield 42, 3) := by decide +kernel
theorem dX5_blendPlan_21 : decode cX5_blendPlan 21 = .ok (.getfield 190, 3) := by decide +kernel
theorem dX5_blendPlan_24 : decode cX5_blendPlan 24 = .ok (.if_icmp .ge 42, 3) := by decide +kernel
theorem dX5_blendPlan_27 : decode cX5_blendPlan 27 = .ok (.iconst 0, 1) := by decide +kernel
theorem dX5_blendPlan_28 : decode cX5_blendPlan 28 = .ok (.istore 6, 2) := by decide +kernel
theorem dX5_blendPlan_30 : decode cX5_blendPlan 30 = .ok (.iload 6, 2) := by decide +kernel
theorem dX5_blendPlan_32 : decode cX5_blendPlan 32 = .ok (.iconst 4, 1) := by decide +kernel
theorem dX5_blendPlan_33 : decode cX5_blendPlan 33 = .ok (.if_icmp .ge 27, 3) := by decide +kernel
theorem dX5_blendPlan_36 : decode cX5_blendPlan 36 = .ok (.lload_n 3, 1) := by decide +kernel
theorem dX5_blendPlan_37 : decode cX5_blendPlan 37 = .ok (.aload_n 0, 1) := by decide +kernel
theorem dX5_blendPlan_38 : decode cX5_blendPlan 38 = .ok (.getfield 42, 3) := by decide +kernel
theorem dX5_blendPlan_41 : decode cX5_blendPlan 41 = .ok (.getfield 197, 3) := by decide +kernel
theorem dX5_blendPlan_44 : decode cX5_blendPlan 44 = .ok (.iload 5, 2) := by decide +kernel
theorem dX5_blendPlan_46 : decode cX5_blendPlan 46 = .ok (.aaload, 1) := by decide +kernel
theorem dX5_blendPlan_47 : decode cX5_blendPlan 47 = .ok (.iload 6, 2) := by decide +kernel
theorem dX5_blendPlan_49 : decode cX5_blendPlan 49 = .ok (.iaload, 1) := by decide +kernel
theorem dX5_blendPlan_50 : decode cX5_blendPlan 50 = .ok (.invokestatic 216, 3) := by decide +kernel
theorem dX5_blendPlan_53 : decode cX5_blendPlan 53 = .ok (.lstore_n 3, 1) := by decide +kernel
theorem dX5_blendPlan_54 : decode cX5_blendPlan 54 = .ok (.iinc 6 1, 3) := by decide +kernel
theorem dX5_blendPlan_57 : decode cX5_blendPlan 57 = .ok (.goto (-27), 3) := by decide +kernel
theorem dX5_blendPlan_60 : decode cX5_blendPlan 60 = .ok (.iinc 5 1, 3) := by decide +kernel
theorem dX5_blendPlan_63 : decode cX5_blendPlan 63 = .ok (.goto (-48), 3) := by decide +kernel
theorem dX5_blendPlan_66 : decode cX5_blendPlan 66 = .ok (.lload_n 3, 1) := by decide +kernel
theorem dX5_blendPlan_67 : decode cX5_blendPlan 67 = .ok (.lreturn, 1) := by decide +kernel
theorem dX6_init_0 : decode cX6_init 0 = .ok (.aload_n 0, 1) := by decide +kernel
theorem dX6_init_1 : decode cX6_init 1 = .ok (.invokespecial 1, 3) := by decide +kernel
theorem dX6_init_4 : decode cX6_init 4 = .ok (.aload_n 0, 1) := by decide +kernel
theorem dX6_init_5 : decode cX6_init 5 = .ok (.sipush 600, 3) := by decide +kernel
theorem dX6_init_8 : decode cX6_init 8 = .ok (.putfield 7, 3) := by decide +kernel
theorem dX6_init_11 : decode cX6_init 11 = .ok (.aload_n 0, 1) := by decide +kernel
theorem dX6_init_12 : decode cX6_init 12 = .ok (.bipush 50, 2) := by decide +kernel
theorem dX6_init_14 : decode cX6_init 14 = .ok (.putfield 13, 3) := by decide +kernel
theorem dX6_init_17 : decode cX6_init 17 = .ok (.aload_n 0, 1) := by decide +kernel
theorem dX6_init_18 : decode cX6_init 18 = .ok (.sipush 900, 3) := by decide +kernel
theorem dX6_init_21 : decode cX6_init 21 = .ok (.newarray .boolean, 2) := by decide +kernel
theorem dX6_init_23 : decode cX6_init 23 = .ok (.putfield 16, 3) := by decide +kernel
theorem dX6_init_26 : decode cX6_init 26 = .ok (.aload_n 0, 1) := by decide +kernel
theorem dX6_init_27 : decode cX6_init 27 = .ok (.bipush 20, 2) := by decide +kernel
theorem dX6_init_29 : decode cX6_init 29 = .ok (.newarray .int, 2) := by decide +kernel
theorem dX6_init_31 : decode cX6_init 31 = .ok (.putfield 20, 3) := by decide +kernel
theorem dX6_init_34 : decode cX6_init 34 = .ok (.aload_n 0, 1) := by decide +kernel
theorem dX6_init_35 : decode cX6_init 35 = .ok (.bipush 20, 2) := by decide +kernel
theorem dX6_init_37 : decode cX6_init 37 = .ok (.newarray .int, 2) := by decide +kernel
theorem dX6_init_39 : decode cX6_init 39 = .ok (.putfield 24, 3) := by decide +kernel
theorem dX6_init_42 : decode cX6_init 42 = .ok (.aload_n 0, 1) := by decide +kernel
theorem dX6_init_43 : decode cX6_init 43 = .ok (.bipush 20, 2) := by decide +kernel
theorem dX6_init_45 : decode cX6_init 45 = .ok (.newarray .int, 2) := by decide +kernel
theorem dX6_init_47 : decode cX6_init 47 = .ok (.putfield 27, 3) := by decide +kernel
theorem dX6_init_50 : decode cX6_init 50 = .ok (.aload_n 0, 1) := by decide +kernel
theorem dX6_init_51 : decode cX6_init 51 = .ok (.bipush 20, 2) := by decide +kernel
theorem dX6_init_53 : decode cX6_init 53 = .ok (.newarray .int, 2) := by decide +kernel
theorem dX6_init_55 : decode cX6_init 55 = .ok (.putfield 30, 3) := by decide +kernel
theorem dX6_init_58 : decode cX6_init 58 = .ok (.aload_n 0, 1) := by decide +kernel
theorem dX6_init_59 : decode cX6_init 59 = .ok (.bipush 20, 2) := by decide +kernel
theorem dX6_init_61 : decode cX6_init 61 = .ok (.newarray .int, 2) := by decide +kernel
theorem dX6_init_63 : decode cX6_init 63 = .ok (.putfield 33, 3) := by decide +kernel
theorem dX6_init_66 : decode cX6_init 66 = .ok (.aload_n 0, 1) := by decide +kernel
theorem dX6_init_67 : decode cX6_init 67 = .ok (.bipush 20, 2) := by decide +kernel
theorem dX6_init_69 : decode cX6_init 69 = .ok (.newarray .int, 2) := by decide +kernel
theorem dX6_init_71 : decode cX6_init 71 = .ok (.putfield 36, 3) := by decide +kernel
theorem dX6_init_74 : decode cX6_init 74 = .ok (.aload_n 0, 1) := by decide +kernel
theorem dX6_init_75 : decode cX6_init 75 = .ok (.bipush 20, 2) := by decide +kernel
theorem dX6_init_77 : decode cX6_init 77 = .ok (.newarray .int, 2) := by decide +kernel
theorem dX6_init_79 : decode cX6_init 79 = .ok (.putfield 39, 3) := by decide +kernel
theorem dX6_init_82 : decode cX6_init 82 = .ok (.aload_n 0, 1) := by decide +kernel
theorem dX6_init_83 : decode cX6_init 83 = .ok (.bipush 20, 2) := by decide +kernel
theorem dX6_init_85 : decode cX6_init 85 = .ok (.newarray .int, 2) := by decide +kernel
theorem dX6_init_87 : decode cX6_init 87 = .ok (.putfield 42, 3) := by decide +kernel
theorem dX6_init_90 : decode cX6_init 90 = .ok (.aload_n 0, 1) := by decide +kernel
theorem dX6_init_91 : decode cX6_init 91 = .ok (.bipush 20, 2) := by decide +kernel
theorem dX6_init_93 : decode cX6_init 93 = .ok (.newarray .int, 2) := by decide +kernel
theorem dX6_init_95 : decode cX6_init 95 = .ok (.putfield 45, 3) := by decide +kernel
theorem dX6_init_98 : decode cX6_init 98 = .ok (.aload_n 0, 1) := by decide +kernel
theorem dX6_init_99 : decode cX6_init 99 = .ok (.bipush 20, 2) := by decide +kernel
theorem dX6_init_101 : decode cX6_init 101 = .ok (.newarray .int, 2) := by decide +kernel
theorem dX6_init_103 : decode cX6_init 103 = .ok (.putfield 48, 3) := by decide +kernel
theorem dX6_init_106 : decode cX6_init 106 = .ok (.aload_n 0, 1) := by decide +kernel
theorem dX6_init_107 : decode cX6_init 107 = .ok (.sipush 18000, 3) := by decide +kernel
theorem dX6_init_110 : decode cX6_init 110 = .ok (.newarray .int, 2) := by decide +kernel
theorem dX6_init_112 : decode cX6_init 112 = .ok (.putfield 51, 3) := by decide +kernel
theorem dX6_init_115 : decode cX6_init 115 = .ok (.aload_n 0, 1) := by decide +kernel
theorem dX6_init_116 : decode cX6_init 116 = .ok (.sipush 18000, 3) := by decide +kernel
theorem dX6_init_119 : decode cX6_init 119 = .ok (.newarray .int, 2) := by decide +kernel
theorem dX6_init_121 : decode cX6_init 121 = .ok (.putfield 54, 3) := by decide +kernel
theorem dX6_init_124 : decode cX6_init 124 = .ok (.aload_n 0, 1) := by decide +kernel
theorem dX6_init_125 : decode cX6_init 125 = .ok (.bipush 80, 2) := by decide +kernel
theorem dX6_init_127 : decode cX6_init 127 = .ok (.newarray .int, 2) := by decide +kernel
theorem dX6_init_129 : decode cX6_init 129 = .ok (.putfield 57, 3) := by decide +kernel
theorem dX6_init_132 : decode cX6_init 132 = .ok (.return_, 1) := by decide +kernel
theorem dX6_thrown_0 : decode cX6_thrown 0 = .ok (.aload_n 0, 1) := by decide +kernel
theorem dX6_thrown_1 : decode cX6_thrown 1 = .ok (.getfield 60, 3) := by decide +kernel
theorem dX6_thrown_4 : decode cX6_thrown 4 = .ok (.ireturn, 1) := by decide +kernel
theorem dX6_no_0 : decode cX6_no 0 = .ok (.aload_n 0, 1) := by decide +kernel
theorem dX6_no_1 : decode cX6_no 1 = .ok (.iload_n 1, 1) := by decide +kernel
theorem dX6_no_2 : decode cX6_no 2 = .ok (.putfield 60, 3) := by decide +kernel
theorem dX6_no_5 : decode cX6_no 5 = .ok (.iconst 0, 1) := by decide +kernel
theorem dX6_no_6 : decode cX6_no 6 = .ok (.ireturn, 1) := by decide +kernel
theorem dX6_isIn_0 : decode cX6_isIn 0 = .ok (.iload_n 0, 1) := by decide +kernel
theorem dX6_isIn_1 : decode cX6_isIn 1 = .ok (.iload_n 1, 1) := by decide +kernel
theorem dX6_isIn_2 : decode cX6_isIn 2 = .ok (.if_icmp .lt 12, 3) := by decide +kernel
theorem dX6_isIn_5 : decode cX6_isIn 5 = .ok (.iload_n 0, 1) := by decide +kernel
theorem dX6_isIn_6 : decode cX6_isIn 6 = .ok (.iload_n 2, 1) := by decide +kernel
theorem dX6_isIn_7 : decode cX6_isIn 7 = .ok (.if_icmp .gt 7, 3) := by decide +kernel
theorem dX6_isIn_10 : decode cX6_isIn 10 = .ok (.iconst 1, 1) := by decide +kernel
theorem dX6_isIn_11 : decode cX6_isIn 11 = .ok (.goto 4, 3) := by decide +kernel
theorem dX6_isIn_14 : decode cX6_isIn 14 = .ok (.iconst 0, 1) := by decide +kernel
theorem dX6_isIn_15 : decode cX6_isIn 15 = .ok (.ireturn, 1) := by decide +kernel
theorem dX6_isTarget_0 : decode cX6_isTarget 0 = .ok (.iload_n 1, 1) := by decide +kernel
theorem dX6_isTarget_1 : decode cX6_isTarget 1 = .ok (.iconst 0, 1) := by decide +kernel
theorem dX6_isTarget_2 : decode cX6_isTarget 2 = .ok (.aload_n 0, 1) := by decide +kernel
theorem dX6_isTarget_3 : decode cX6_isTarget 3 = .ok (.getfield 63, 3) := by decide +kernel
theorem dX6_isTarget_6 : decode cX6_isTarget 6 = .ok (.iconst 1, 1) := by decide +kernel
theorem dX6_isTarget_7 : decode cX6_isTarget 7 = .ok (.isub, 1) := by decide +kernel
theorem dX6_isTarget_8 : decode cX6_isTarget 8 = .ok (.invokestatic 66, 3) := by decide +kernel
theorem dX6_isTarget_11 : decode cX6_isTarget 11 = .ok (.ireturn, 1) := by decide +kernel
theorem dX6_isMinute_0 : decode cX6_isMinute 0 = .ok (.iload_n 1, 1) := by decide +kernel
theorem dX6_isMinute_1 : decode cX6_isMinute 1 = .ok (.iconst 0, 1) := by decide +kernel
theorem dX6_isMinute_2 : decode cX6_isMinute 2 = .ok (.aload_n 0, 1) := by decide +kernel
theorem dX6_isMinute_3 : decode cX6_isMinute 3 = .ok (.getfield 7, 3) := by decide +kernel
theorem dX6_isMinute_6 : decode cX6_isMinute 6 = .ok (.iconst 1, 1) := by decide +kernel
theorem dX6_isMinute_7 : decode cX6_isMinute 7 = .ok (.isub, 1) := by decide +kernel
theorem dX6_isMinute_8 : decode cX6_isMinute 8 = .ok (.invokestatic 66, 3) := by decide +kernel
theorem dX6_isMinute_11 : decode cX6_isMinute 11 = .ok (.ireturn, 1) := by decide +kernel
theorem dX6_isPoint_0 : decode cX6_isPoint 0 = .ok (.iload_n 0, 1) := by decide +kernel
theorem dX6_isPoint_1 : decode cX6_isPoint 1 = .ok (.iconst 0, 1) := by decide +kernel
theorem dX6_isPoint_2 : decode cX6_isPoint 2 = .ok (.sipush 1439, 3) := by decide +kernel
theorem dX6_isPoint_5 : decode cX6_isPoint 5 = .ok (.invokestatic 66, 3) := by decide +kernel
theorem dX6_isPoint_8 : decode cX6_isPoint 8 = .ok (.ifCond .eq 18, 3) := by decide +kernel
theorem dX6_isPoint_11 : decode cX6_isPoint 11 = .ok (.iload_n 1, 1) := by decide +kernel
theorem dX6_isPoint_12 : decode cX6_isPoint 12 = .ok (.bipush (-90), 2) := by decide +kernel
theorem dX6_isPoint_14 : decode cX6_isPoint 14 = .ok (.bipush 90, 2) := by decide +kernel
theorem dX6_isPoint_16 : decode cX6_isPoint 16 = .ok (.invokestatic 66, 3) := by decide +kernel
theorem dX6_isPoint_19 : decode cX6_isPoint 19 = .ok (.ifCond .eq 7, 3) := by decide +kernel
theorem dX6_isPoint_22 : decode cX6_isPoint 22 = .ok (.iconst 1, 1) := by decide +kernel
theorem dX6_isPoint_23 : decode cX6_isPoint 23 = .ok (.goto 4, 3) := by decide +kernel
theorem dX6_isPoint_26 : decode cX6_isPoint 26 = .ok (.iconst 0, 1) := by decide +kernel
theorem dX6_isPoint_27 : decode cX6_isPoint 27 = .ok (.ireturn, 1) := by decide +kernel
theorem dX6_sineOf_0 : decode cX6_sineOf 0 = .ok (.iload_n 0, 1) := by decide +kernel
theorem dX6_sineOf_1 : decode cX6_sineOf 1 = .ok (.sipush 360, 3) := by decide +kernel
theorem dX6_sineOf_4 : decode cX6_sineOf 4 = .ok (.invokestatic 70, 3) := by decide +kernel
theorem dX6_sineOf_7 : decode cX6_sineOf 7 = .ok (.istore_n 1, 1) := by decide +kernel
theorem dX6_sineOf_8 : decode cX6_sineOf 8 = .ok (.iload_n 1, 1) := by decide +kernel
theorem dX6_sineOf_9 : decode cX6_sineOf 9 = .ok (.sipush 180, 3) := by decide +kernel
theorem dX6_sineOf_12 : decode cX6_sineOf 12 = .ok (.irem, 1) := by decide +kernel
theorem dX6_sineOf_13 : decode cX6_sineOf 13 = .ok (.istore_n 2, 1) := by decide +kernel
theorem dX6_sineOf_14 : decode cX6_sineOf 14 = .ok (.sipush 4000, 3) := by decide +kernel
theorem dX6_sineOf_17 : decode cX6_sineOf 17 = .ok (.iload_n 2, 1) := by decide +kernel
theorem dX6_sineOf_18 : decode cX6_sineOf 18 = .ok (.imul, 1) := by decide +kernel
theorem dX6_sineOf_19 : decode cX6_sineOf 19 = .ok (.sipush 180, 3) := by decide +kernel
theorem dX6_sineOf_22 : decode cX6_sineOf 22 = .ok (.iload_n 2, 1) := by decide +kernel
theorem dX6_sineOf_23 : decode cX6_sineOf 23 = .ok (.isub, 1) := by decide +kernel
theorem dX6_sineOf_24 : decode cX6_sineOf 24 = .ok (.imul, 1) := by decide +kernel
theorem dX6_sineOf_25 : decode cX6_sineOf 25 = .ok (.ldc 76, 2) := by decide +kernel
theorem dX6_sineOf_27 : decode cX6_sineOf 27 = .ok (.iload_n 2, 1) := by decide +kernel
theorem dX6_sineOf_28 : decode cX6_sineOf 28 = .ok (.sipush 180, 3) := by decide +kernel
theorem dX6_sineOf_31 : decode cX6_sineOf 31 = .ok (.iload_n 2, 1) := by decide +kernel
theorem dX6_sineOf_32 : decode cX6_sineOf 32 = .ok (.isub, 1) := by decide +kernel
theorem dX6_sineOf_33 : decode cX6_sineOf 33 = .ok (.imul, 1) := by decide +kernel
theorem dX6_sineOf_34 : decode cX6_sineOf 34 = .ok (.isub, 1) := by decide +kernel
theorem dX6_sineOf_35 : decode cX6_sineOf 35 = .ok (.idiv, 1) := by decide +kernel
theorem dX6_sineOf_36 : decode cX6_sineOf 36 = .ok (.istore_n 3, 1) := by decide +kernel
theorem dX6_sineOf_37 : decode cX6_sineOf 37 = .ok (.iload_n 1, 1) := by decide +kernel
theorem dX6_sineOf_38 : decode cX6_sineOf 38 = .ok (.sipush 180, 3) := by decide +kernel
theorem dX6_sineOf_41 : decode cX6_sineOf 41 = .ok (.if_icmp .ge 7, 3) := by decide +kernel
theorem dX6_sineOf_44 : decode cX6_sineOf 44 = .ok (.iload_n 3, 1) := by decide +kernel
theorem dX6_sineOf_45 : decode cX6_sineOf 45 = .ok (.goto 5, 3) := by decide +kernel
theorem dX6_sineOf_48 : decode cX6_sineOf 48 = .ok (.iload_n 3, 1) := by decide +kernel
theorem dX6_sineOf_49 : decode cX6_sineOf 49 = .ok (.ineg, 1) := by decide +kernel
theorem dX6_sineOf_50 : decode cX6_sineOf 50 = .ok (.ireturn, 1) := by decide +kernel
theorem dX6_cosineOf_0 : decode cX6_cosineOf 0 = .ok (.iload_n 0, 1) := by decide +kernel
theorem dX6_cosineOf_1 : decode cX6_cosineOf 1 = .ok (.bipush 90, 2) := by decide +kernel
theorem dX6_cosineOf_3 : decode cX6_cosineOf 3 = .ok (.iadd, 1) := by decide +kernel
theorem dX6_cosineOf_4 : decode cX6_cosineOf 4 = .ok (.invokestatic 77, 3) := by decide +kernel
theorem dX6_cosineOf_7 : decode cX6_cosineOf 7 = .ok (.ireturn, 1) := by decide +kernel
theorem dX6_mixed_0 : decode cX6_mixed 0 = .ok (.iload_n 0, 1) := by decide +kernel
theorem dX6_mixed_1 : decode cX6_mixed 1 = .ok (.invokestatic 77, 3) := by decide +kernel
theorem dX6_mixed_4 : decode cX6_mixed 4 = .ok (.iload_n 1, 1) := by decide +kernel
theorem dX6_mixed_5 : decode cX6_mixed 5 = .ok (.invokestatic 77, 3) := by decide +kernel
theorem dX6_mixed_8 : decode cX6_mixed 8 = .ok (.imul, 1) := by decide +kernel
theorem dX6_mixed_9 : decode cX6_mixed 9 = .ok (.iload_n 0, 1) := by decide +kernel
theorem dX6_mixed_10 : decode cX6_mixed 10 = .ok (.invokestatic 81, 3) := by decide +kernel
theorem dX6_mixed_13 : decode cX6_mixed 13 = .ok (.iload_n 1, 1) := by decide +kernel
theorem dX6_mixed_14 : decode cX6_mixed 14 = .ok (.invokestatic 81, 3) := by decide +kernel
theorem dX6_mixed_17 : decode cX6_mixed 17 = .ok (.imul, 1) := by decide +kernel
theorem dX6_mixed_18 : decode cX6_mixed 18 = .ok (.sipush 1000, 3) := by decide +kernel
theorem dX6_mixed_21 : decode cX6_mixed 21 = .ok (.idiv, 1) := by decide +kernel
theorem dX6_mixed_22 : decode cX6_mixed 22 = .ok (.iload_n 2, 1) := by decide +kernel
theorem dX6_mixed_23 : decode cX6_mixed 23 = .ok (.invokestatic 81, 3) := by decide +kernel
theorem dX6_mixed_26 : decode cX6_mixed 26 = .ok (.imul, 1) := by decide +kernel
theorem dX6_mixed_27 : decode cX6_mixed 27 = .ok (.iadd, 1) := by decide +kernel
theorem dX6_mixed_28 : decode cX6_mixed 28 = .ok (.sipush 1000, 3) := by decide +kernel
theorem dX6_mixed_31 : decode cX6_mixed 31 = .ok (.idiv, 1) := by decide +kernel
theorem dX6_mixed_32 : decode cX6_mixed 32 = .ok (.ireturn, 1) := by decide +kernel
theorem dX6_heightOf_0 : decode cX6_heightOf 0 = .ok (.aload_n 0, 1) := by decide +kernel
theorem dX6_heightOf_1 : decode cX6_heightOf 1 = .ok (.getfield 84, 3) := by decide +kernel
theorem dX6_heightOf_4 : decode cX6_heightOf 4 = .ok (.iconst 4, 1) := by decide +kernel
theorem dX6_heightOf_5 : decode cX6_heightOf 5 = .ok (.aload_n 0, 1) := by decide +kernel
theorem dX6_heightOf_6 : decode cX6_heightOf 6 = .ok (.getfield 87, 3) := by decide +kernel
theorem dX6_heightOf_9 : decode cX6_heightOf 9 = .ok (.imul, 1) := by decide +kernel
theorem dX6_heightOf_10 : decode cX6_heightOf 10 = .ok (.iadd, 1) := by decide +kernel
theorem dX6_heightOf_11 : decode cX6_heightOf 11 = .ok (.iload_n 3, 1) := by decide +kernel
theorem dX6_heightOf_12 : decode cX6_heightOf 12 = .ok (.iadd, 1) := by decide +kernel
theorem dX6_heightOf_13 : decode cX6_heightOf 13 = .ok (.sipush 1440, 3) := by decide +kernel
theorem dX6_heightOf_16 : decode cX6_heightOf 16 = .ok (.irem, 1) := by decide +kernel
theorem dX6_heightOf_17 : decode cX6_heightOf 17 = .ok (.istore 4, 2) := by decide +kernel
theorem dX6_heightOf_19 : decode cX6_heightOf 19 = .ok (.aload_n 0, 1) := by decide +kernel
theorem dX6_heightOf_20 : decode cX6_heightOf 20 = .ok (.getfield 13, 3) := by decide +kernel
theorem dX6_heightOf_23 : decode cX6_heightOf 23 = .ok (.iload_n 2, 1) := by decide +kernel
theorem dX6_heightOf_24 : decode cX6_heightOf 24 = .ok (.iload 4, 2) := by decide +kernel
theorem dX6_heightOf_26 : decode cX6_heightOf 26 = .ok (.iload_n 1, 1) := by decide +kernel
theorem dX6_heightOf_27 : decode cX6_heightOf 27 = .ok (.isub, 1) := by decide +kernel
theorem dX6_heightOf_28 : decode cX6_heightOf 28 = .ok (.sipush 1440, 3) := by decide +kernel
theorem dX6_heightOf_31 : decode cX6_heightOf 31 = .ok (.iadd, 1) := by decide +kernel
theorem dX6_heightOf_32 : decode cX6_heightOf 32 = .ok (.sipush 1440, 3) := by decide +kernel
theorem dX6_heightOf_35 : decode cX6_heightOf 35 = .ok (.irem, 1) := by decide +kernel
theorem dX6_heightOf_36 : decode cX6_heightOf 36 = .ok (.iconst 4, 1) := by decide +kernel
theorem dX6_heightOf_37 : decode cX6_heightOf 37 = .ok (.idiv, 1) := by decide +kernel
theorem dX6_heightOf_38 : decode cX6_heightOf 38 = .ok (.invokestatic 90, 3) := by decide +kernel
theorem dX6_heightOf_41 : decode cX6_heightOf 41 = .ok (.ireturn, 1) := by decide +kernel
theorem dX6_near_0 : decode cX6_near 0 = .ok (.iload_n 1, 1) := by decide +kernel
theorem dX6_near_1 : decode cX6_near 1 = .ok (.iload_n 3, 1) := by decide +kernel
theorem dX6_near_2 : decode cX6_near 2 = .ok (.iload_n 0, 1) := by decide +kernel
theorem dX6_near_3 : decode cX6_near 3 = .ok (.iload_n 2, 1) := by decide +kernel
theorem dX6_near_4 : decode cX6_near 4 = .ok (.isub, 1) := by decide +kernel
theorem dX6_near_5 : decode cX6_near 5 = .ok (.invokestatic 94, 3) := by decide +kernel
theorem dX6_near_8 : decode cX6_near 8 = .ok (.iconst 4, 1) := by decide +kernel
theorem dX6_near_9 : decode cX6_near 9 = .ok (.idiv, 1) := by decide +kernel
theorem dX6_near_10 : decode cX6_near 10 = .ok (.invokestatic 90, 3) := by decide +kernel
theorem dX6_near_13 : decode cX6_near 13 = .ok (.ireturn, 1) := by decide +kernel
theorem dX6_lightOf_0 : decode cX6_lightOf 0 = .ok (.bipush 100, 2) := by decide +kernel
theorem dX6_lightOf_2 : decode cX6_lightOf 2 = .ok (.bipush 100, 2) := by decide +kernel
theorem dX6_lightOf_4 : decode cX6_lightOf 4 = .ok (.aload_n 0, 1) := by decide +kernel
theorem dX6_lightOf_5 : decode cX6_lightOf 5 = .ok (.getfield 97, 3) := by decide +kernel
theorem dX6_lightOf_8 : decode cX6_lightOf 8 = .ok (.bipush 15, 2) := by decide +kernel
theorem dX6_lightOf_10 : decode cX6_lightOf 10 = .ok (.isub, 1) := by decide +kernel
theorem dX6_lightOf_11 : decode cX6_lightOf 11 = .ok (.invokestatic 94, 3) := by decide +kernel
theorem dX6_lightOf_14 : decode cX6_lightOf 14 = .ok (.imul, 1) := by decide +kernel
theorem dX6_lightOf_15 : decode cX6_lightOf 15 = .ok (.bipush 15, 2) := by decide +kernel
theorem dX6_lightOf_17 : decode cX6_lightOf 17 = .ok (.idiv, 1) := by decide +kernel
theorem dX6_lightOf_18 : decode cX6_lightOf 18 = .ok (.isub, 1) := by decide +kernel
theorem dX6_lightOf_19 : decode cX6_lightOf 19 = .ok (.ireturn, 1) := by decide +kernel
theorem dX6_moonNear_0 : decode cX6_moonNear 0 = .ok (.aload_n 0, 1) := by decide +kernel
theorem dX6_moonNear_1 : decode cX6_moonNear 1 = .ok (.getfield 20, 3) := by decide +kernel
theorem dX6_moonNear_4 : decode cX6_moonNear 4 = .ok (.iload_n 1, 1) := by decide +kernel
theorem dX6_moonNear_5 : decode cX6_moonNear 5 = .ok (.iaload, 1) := by decide +kernel
theorem dX6_moonNear_6 : decode cX6_moonNear 6 = .ok (.aload_n 0, 1) := by decide +kernel
theorem dX6_moonNear_7 : decode cX6_moonNear 7 = .ok (.getfield 24, 3) := by decide +kernel
theorem dX6_moonNear_10 : decode cX6_moonNear 10 = .ok (.iload_n 1, 1) := by decide +kernel
theorem dX6_moonNear_11 : decode cX6_moonNear 11 = .ok (.iaload, 1) := by decide +kernel
theorem dX6_moonNear_12 : decode cX6_moonNear 12 = .ok (.aload_n 0, 1) := by decide +kernel
theorem dX6_moonNear_13 : decode cX6_moonNear 13 = .ok (.getfield 100, 3) := by decide +kernel
theorem dX6_moonNear_16 : decode cX6_moonNear 16 = .ok (.aload_n 0, 1) := by decide +kernel
theorem dX6_moonNear_17 : decode cX6_moonNear 17 = .ok (.getfield 103, 3) := by decide +kernel
theorem dX6_moonNear_20 : decode cX6_moonNear 20 = .ok (.invokestatic 106, 3) := by decide +kernel
theorem dX6_moonNear_23 : decode cX6_moonNear 23 = .ok (.ireturn, 1) := by decide +kernel
theorem dX6_moonHeightOf_0 : decode cX6_moonHeightOf 0 = .ok (.aload_n 0, 1) := by decide +kernel
theorem dX6_moonHeightOf_1 : decode cX6_moonHeightOf 1 = .ok (.aload_n 0, 1) := by decide +kernel
theorem dX6_moonHeightOf_2 : decode cX6_moonHeightOf 2 = .ok (.getfield 100, 3) := by decide +kernel
theorem dX6_moonHeightOf_5 : decode cX6_moonHeightOf 5 = .ok (.aload_n 0, 1) := by decide +kernel
theorem dX6_moonHeightOf_6 : decode cX6_moonHeightOf 6 = .ok (.getfield 103, 3) := by decide +kernel
theorem dX6_moonHeightOf_9 : decode cX6_moonHeightOf 9 = .ok (.iload_n 1, 1) := by decide +kernel
theorem dX6_moonHeightOf_10 : decode cX6_moonHeightOf 10 = .ok (.invokevirtual 110, 3) := by decide +kernel
theorem dX6_moonHeightOf_13 : decode cX6_moonHeightOf 13 = .ok (.ireturn, 1) := by decide +kernel
theorem dX6_reasonOf_0 : decode cX6_reasonOf 0 = .ok (.aload_n 0, 1) := by decide +kernel
theorem dX6_reasonOf_1 : decode cX6_reasonOf 1 = .ok (.getfield 16, 3) := by decide +kernel
theorem dX6_reasonOf_4 : decode cX6_reasonOf 4 = .ok (.iload_n 2, 1) := by decide +kernel
theorem dX6_reasonOf_5 : decode cX6_reasonOf 5 = .ok (.baload, 1) := by decide +kernel
theorem dX6_reasonOf_6 : decode cX6_reasonOf 6 = .ok (.ifCond .eq 5, 3) := by decide +kernel
theorem dX6_reasonOf_9 : decode cX6_reasonOf 9 = .ok (.iconst 1, 1) := by decide +kernel
theorem dX6_reasonOf_10 : decode cX6_reasonOf 10 = .ok (.ireturn, 1) := by decide +kernel
theorem dX6_reasonOf_11 : decode cX6_reasonOf 11 = .ok (.aload_n 0, 1) := by decide +kernel
theorem dX6_reasonOf_12 : decode cX6_reasonOf 12 = .ok (.aload_n 0, 1) := by decide +kernel
theorem dX6_reasonOf_13 : decode cX6_reasonOf 13 = .ok (.getfield 20, 3) := by decide +kernel
theorem dX6_reasonOf_16 : decode cX6_reasonOf 16 = .ok (.iload_n 1, 1) := by decide +kernel
theorem dX6_reasonOf_17 : decode cX6_reasonOf 17 = .ok (.iaload, 1) := by decide +kernel
theorem dX6_reasonOf_18 : decode cX6_reasonOf 18 = .ok (.aload_n 0, 1) := by decide +kernel
theorem dX6_reasonOf_19 : decode cX6_reasonOf 19 = .ok (.getfield 24, 3) := by decide +kernel
theorem dX6_reasonOf_22 : decode cX6_reasonOf 22 = .ok (.iload_n 1, 1) := by decide +kernel
theorem dX6_reasonOf_23 : decode cX6_reasonOf 23 = .ok (.iaload, 1) := by decide +kernel
theorem dX6_reasonOf_24 : decode cX6_reasonOf 24 = .ok (.iload_n 2, 1) := by decide +kernel
theorem dX6_reasonOf_25 : decode cX6_reasonOf 25 = .ok (.invokevirtual 110, 3) := by decide +kernel
theorem dX6_reasonOf_28 : decode cX6_reasonOf 28 = .ok (.aload_n 0, 1) := by decide +kernel
theorem dX6_reasonOf_29 : decode cX6_reasonOf 29 = .ok (.getfield 33, 3) := by decide +kernel
theorem dX6_reasonOf_32 : decode cX6_reasonOf 32 = .ok (.iload_n 1, 1) := by decide +kernel
theorem dX6_reasonOf_33 : decode cX6_reasonOf 33 = .ok (.iaload, 1) := by decide +kernel
theorem dX6_reasonOf_34 : decode cX6_reasonOf 34 = .ok (.if_icmp .ge 5, 3) := by decide +kernel
theorem dX6_reasonOf_37 : decode cX6_reasonOf 37 = .ok (.iconst 2, 1) := by decide +kernel
theorem dX6_reasonOf_38 : decode cX6_reasonOf 38 = .ok (.ireturn, 1) := by decide +kernel
theorem dX6_reasonOf_39 : decode cX6_reasonOf 39 = .ok (.aload_n 0, 1) := by decide +kernel
theorem dX6_reasonOf_40 : decode cX6_reasonOf 40 = .ok (.iload_n 2, 1) := by decide +kernel
theorem dX6_reasonOf_41 : decode cX6_reasonOf 41 = .ok (.invokevirtual 113, 3) := by decide +kernel
theorem dX6_reasonOf_44 : decode cX6_reasonOf 44 = .ok (.ifCond .le 21, 3) := by decide +kernel
theorem dX6_reasonOf_47 : decode cX6_reasonOf 47 = .ok (.aload_n 0, 1) := by decide +kernel
theorem dX6_reasonOf_48 : decode cX6_reasonOf 48 = .ok (.iload_n 1, 1) := by decide +kernel
theorem dX6_reasonOf_49 : decode cX6_reasonOf 49 = .ok (.invokevirtual 116, 3) := by decide +kernel
theorem dX6_reasonOf_52 : decode cX6_reasonOf 52 = .ok (.sipush 1000, 3) := by decide +kernel
theorem dX6_reasonOf_55 : decode cX6_reasonOf 55 = .ok (.iconst 5, 1) := by decide +kernel
theorem dX6_reasonOf_56 : decode cX6_reasonOf 56 = .ok (.aload_n 0, 1) := by decide +kernel
theorem dX6_reasonOf_57 : decode cX6_reasonOf 57 = .ok (.invokevirtual 119, 3) := by decide +kernel
theorem dX6_reasonOf_60 : decode cX6_reasonOf 60 = .ok (.imul, 1) := by decide +kernel
theorem dX6_reasonOf_61 : decode cX6_reasonOf 61 = .ok (.isub, 1) := by decide +kernel
theorem dX6_reasonOf_62 : decode cX6_reasonOf 62 = .ok (.if_icmp .gt 7, 3) := by decide +kernel
theorem dX6_reasonOf_65 : decode cX6_reasonOf 65 = .ok (.iconst 0, 1) := by decide +kernel
theorem dX6_reasonOf_66 : decode cX6_reasonOf 66 = .ok (.goto 4, 3) := by decide +kernel
theorem dX6_reasonOf_69 : decode cX6_reasonOf 69 = .ok (.iconst 3, 1) := by decide +kernel
theorem dX6_reasonOf_70 : decode cX6_reasonOf 70 = .ok (.ireturn, 1) := by decide +kernel
theorem dX6_isOpenNow_0 : decode cX6_isOpenNow 0 = .ok (.aload_n 0, 1) := by decide +kernel
theorem dX6_isOpenNow_1 : decode cX6_isOpenNow 1 = .ok (.getfield 45, 3) := by decide +kernel
theorem dX6_isOpenNow_4 : decode cX6_isOpenNow 4 = .ok (.iload_n 1, 1) := by decide +kernel
theorem dX6_isOpenNow_5 : decode cX6_isOpenNow 5 = .ok (.iaload, 1) := by decide +kernel
theorem dX6_isOpenNow_6 : decode cX6_isOpenNow 6 = .ok (.aload_n 0, 1) := by decide +kernel
theorem dX6_isOpenNow_7 : decode cX6_isOpenNow 7 = .ok (.getfield 39, 3) := by decide +kernel
theorem dX6_isOpenNow_10 : decode cX6_isOpenNow 10 = .ok (.iload_n 1, 1) := by decide +kernel
theorem dX6_isOpenNow_11 : decode cX6_isOpenNow 11 = .ok (.iaload, 1) := by decide +kernel
theorem dX6_isOpenNow_12 : decode cX6_isOpenNow 12 = .ok (.if_icmp .ge 37, 3) := by decide +kernel
theorem dX6_isOpenNow_15 : decode cX6_isOpenNow 15 = .ok (.aload_n 0, 1) := by decide +kernel
theorem dX6_isOpenNow_16 : decode cX6_isOpenNow 16 = .ok (.getfield 48, 3) := by decide +kernel
theorem dX6_isOpenNow_19 : decode cX6_isOpenNow 19 = .ok (.iload_n 1, 1) := by decide +kernel
theorem dX6_isOpenNow_20 : decode cX6_isOpenNow 20 = .ok (.iaload, 1) := by decide +kernel
theorem dX6_isOpenNow_21 : decode cX6_isOpenNow 21 = .ok (.iconst (-1), 1) := by decide +kernel
theorem dX6_isOpenNow_22 : decode cX6_isOpenNow 22 = .ok (.if_icmp .eq 23, 3) := by decide +kernel
theorem dX6_isOpenNow_25 : decode cX6_isOpenNow 25 = .ok (.aload_n 0, 1) := by decide +kernel
theorem dX6_isOpenNow_26 : decode cX6_isOpenNow 26 = .ok (.getfield 87, 3) := by decide +kernel
theorem dX6_isOpenNow_29 : decode cX6_isOpenNow 29 = .ok (.aload_n 0, 1) := by decide +kernel
theorem dX6_isOpenNow_30 : decode cX6_isOpenNow 30 = .ok (.getfield 48, 3) := by decide +kernel
theorem dX6_isOpenNow_33 : decode cX6_isOpenNow 33 = .ok (.iload_n 1, 1) := by decide +kernel
theorem dX6_isOpenNow_34 : decode cX6_isOpenNow 34 = .ok (.iaload, 1) := by decide +kernel
theorem dX6_isOpenNow_35 : decode cX6_isOpenNow 35 = .ok (.isub, 1) := by decide +kernel
theorem dX6_isOpenNow_36 : decode cX6_isOpenNow 36 = .ok (.aload_n 0, 1) := by decide +kernel
theorem dX6_isOpenNow_37 : decode cX6_isOpenNow 37 = .ok (.getfield 42, 3) := by decide +kernel
theorem dX6_isOpenNow_40 : decode cX6_isOpenNow 40 = .ok (.iload_n 1, 1) := by decide +kernel
theorem dX6_isOpenNow_41 : decode cX6_isOpenNow 41 = .ok (.iaload, 1) := by decide +kernel
theorem dX6_isOpenNow_42 : decode cX6_isOpenNow 42 = .ok (.if_icmp .lt 7, 3) := by decide +kernel
theorem dX6_isOpenNow_45 : decode cX6_isOpenNow 45 = .ok (.iconst 1, 1) := by decide +kernel
theorem dX6_isOpenNow_46 : decode cX6_isOpenNow 46 = .ok (.goto 4, 3) := by decide +kernel
theorem dX6_isOpenNow_49 : decode cX6_isOpenNow 49 = .ok (.iconst 0, 1) := by decide +kernel
theorem dX6_isOpenNow_50 : decode cX6_isOpenNow 50 = .ok (.ireturn, 1) := by decide +kernel
theorem dX6_workOut_0 : decode cX6_workOut 0 = .ok (.aload_n 0, 1) := by decide +kernel
theorem dX6_workOut_1 : decode cX6_workOut 1 = .ok (.getfield 123, 3) := by decide +kernel
theorem dX6_workOut_4 : decode cX6_workOut 4 = .ok (.ifCond .eq 4, 3) := by decide +kernel
theorem dX6_workOut_7 : decode cX6_workOut 7 = .ok (.return_, 1) := by decide +kernel
theorem dX6_workOut_8 : decode cX6_workOut 8 = .ok (.aload_n 0, 1) := by decide +kernel
theorem dX6_workOut_9 : decode cX6_workOut 9 = .ok (.iconst 1, 1) := by decide +kernel
theorem dX6_workOut_10 : decode cX6_workOut 10 = .ok (.putfield 123, 3) := by decide +kernel
theorem dX6_workOut_13 : decode cX6_workOut 13 = .ok (.iconst 0, 1) := by decide +kernel
theorem dX6_workOut_14 : decode cX6_workOut 14 = .ok (.istore_n 1, 1) := by decide +kernel
theorem dX6_workOut_15 : decode cX6_workOut 15 = .ok (.iload_n 1, 1) := by decide +kernel
theorem dX6_workOut_16 : decode cX6_workOut 16 = .ok (.aload_n 0, 1) := by decide +kernel
theorem dX6_workOut_17 : decode cX6_workOut 17 = .ok (.getfield 63, 3) := by decide +kernel
theorem dX6_workOut_20 : decode cX6_workOut 20 = .ok (.if_icmp .ge 87, 3) := by decide +kernel
theorem dX6_workOut_23 : decode cX6_workOut 23 = .ok (.iconst 0, 1) := by decide +kernel
theorem dX6_workOut_24 : decode cX6_workOut 24 = .ok (.istore_n 2, 1) := by decide +kernel
theorem dX6_workOut_25 : decode cX6_workOut 25 = .ok (.aload_n 0, 1) := by decide +kernel
theorem dX6_workOut_26 : decode cX6_workOut 26 = .ok (.getfield 7, 3) := by decide +kernel
theorem dX6_workOut_29 : decode cX6_workOut 29 = .ok (.iconst 1, 1) := by decide +kernel
theorem dX6_workOut_30 : decode cX6_workOut 30 = .ok (.isub, 1) := by decide +kernel
theorem dX6_workOut_31 : decode cX6_workOut 31 = .ok (.istore_n 3, 1) := by decide +kernel
theorem dX6_workOut_32 : decode cX6_workOut 32 = .ok (.iload_n 3, 1) := by decide +kernel
theorem dX6_workOut_33 : decode cX6_workOut 33 = .ok (.ifCond .lt 68, 3) := by decide +kernel
theorem dX6_workOut_36 : decode cX6_workOut 36 = .ok (.aload_n 0, 1) := by decide +kernel
theorem dX6_workOut_37 : decode cX6_workOut 37 = .ok (.getfield 51, 3) := by decide +kernel
theorem dX6_workOut_40 : decode cX6_workOut 40 = .ok (.sipush 900, 3) := by decide +kernel
theorem dX6_workOut_43 : decode cX6_workOut 43 = .ok (.iload_n 1, 1) := by decide +kernel
theorem dX6_workOut_44 : decode cX6_workOut 44 = .ok (.imul, 1) := by decide +kernel
theorem dX6_workOut_45 : decode cX6_workOut 45 = .ok (.iload_n 3, 1) := by decide +kernel
theorem dX6_workOut_46 : decode cX6_workOut 46 = .ok (.iadd, 1) := by decide +kernel
theorem dX6_workOut_47 : decode cX6_workOut 47 = .ok (.aload_n 0, 1) := by decide +kernel
theorem dX6_workOut_48 : decode cX6_workOut 48 = .ok (.aload_n 0, 1) := by decide +kernel
theorem dX6_workOut_49 : decode cX6_workOut 49 = .ok (.getfield 20, 3) := by decide +kernel
theorem dX6_workOut_52 : decode cX6_workOut 52 = .ok (.iload_n 1, 1) := by decide +kernel
theorem dX6_workOut_53 : decode cX6_workOut 53 = .ok (.iaload, 1) := by decide +kernel
theorem dX6_workOut_54 : decode cX6_workOut 54 = .ok (.aload_n 0, 1) := by decide +kernel
theorem dX6_workOut_55 : decode cX6_workOut 55 = .ok (.getfield 24, 3) := by decide +kernel
theorem dX6_workOut_58 : decode cX6_workOut 58 = .ok (.iload_n 1, 1) := by decide +kernel
theorem dX6_workOut_59 : decode cX6_workOut 59 = .ok (.iaload, 1) := by decide +kernel
theorem dX6_workOut_60 : decode cX6_workOut 60 = .ok (.iload_n 3, 1) := by decide +kernel
theorem dX6_workOut_61 : decode cX6_workOut 61 = .ok (.invokevirtual 110, 3) := by decide +kernel
theorem dX6_workOut_64 : decode cX6_workOut 64 = .ok (.iastore, 1) := by decide +kernel
theorem dX6_workOut_65 : decode cX6_workOut 65 = .ok (.aload_n 0, 1) := by decide +kernel
theorem dX6_workOut_66 : decode cX6_workOut 66 = .ok (.iload_n 1, 1) := by decide +kernel
theorem dX6_workOut_67 : decode cX6_workOut 67 = .ok (.iload_n 3, 1) := by decide +kernel
theorem dX6_workOut_68 : decode cX6_workOut 68 = .ok (.invokevirtual 127, 3) := by decide +kernel
theorem dX6_workOut_71 : decode cX6_workOut 71 = .ok (.ifCond .ne 9, 3) := by decide +kernel
theorem dX6_workOut_74 : decode cX6_workOut 74 = .ok (.iload_n 2, 1) := by decide +kernel
theorem dX6_workOut_75 : decode cX6_workOut 75 = .ok (.iconst 1, 1) := by decide +kernel
theorem dX6_workOut_76 : decode cX6_workOut 76 = .ok (.iadd, 1) := by decide +kernel
theorem dX6_workOut_77 : decode cX6_workOut 77 = .ok (.goto 4, 3) := by decide +kernel
theorem dX6_workOut_80 : decode cX6_workOut 80 = .ok (.iconst 0, 1) := by decide +kernel
theorem dX6_workOut_81 : decode cX6_workOut 81 = .ok (.istore_n 2, 1) := by decide +kernel
theorem dX6_workOut_82 : decode cX6_workOut 82 = .ok (.aload_n 0, 1) := by decide +kernel
theorem dX6_workOut_83 : decode cX6_workOut 83 = .ok (.getfield 54, 3) := by decide +kernel
theorem dX6_workOut_86 : decode cX6_workOut 86 = .ok (.sipush 900, 3) := by decide +kernel
theorem dX6_workOut_89 : decode cX6_workOut 89 = .ok (.iload_n 1, 1) := by decide +kernel
theorem dX6_workOut_90 : decode cX6_workOut 90 = .ok (.imul, 1) := by decide +kernel
theorem dX6_workOut_91 : decode cX6_workOut 91 = .ok (.iload_n 3, 1) := by decide +kernel
theorem dX6_workOut_92 : decode cX6_workOut 92 = .ok (.iadd, 1) := by decide +kernel
theorem dX6_workOut_93 : decode cX6_workOut 93 = .ok (.iload_n 2, 1) := by decide +kernel
theorem dX6_workOut_94 : decode cX6_workOut 94 = .ok (.iastore, 1) := by decide +kernel
theorem dX6_workOut_95 : decode cX6_workOut 95 = .ok (.iinc 3 (-1), 3) := by decide +kernel
theorem dX6_workOut_98 : decode cX6_workOut 98 = .ok (.goto (-66), 3) := by decide +kernel
theorem dX6_workOut_101 : decode cX6_workOut 101 = .ok (.iinc 1 1, 3) := by decide +kernel
theorem dX6_workOut_104 : decode cX6_workOut 104 = .ok (.goto (-89), 3) := by decide +kernel
theorem dX6_workOut_107 : decode cX6_workOut 107 = .ok (.aload_n 0, 1) := by decide +kernel
theorem dX6_workOut_108 : decode cX6_workOut 108 = .ok (.invokevirtual 130, 3) := by decide +kernel
theorem dX6_workOut_111 : decode cX6_workOut 111 = .ok (.return_, 1) := by decide +kernel
theorem dX6_ready_0 : decode cX6_ready 0 = .ok (.iload_n 2, 1) := by decide +kernel
theorem dX6_ready_1 : decode cX6_ready 1 = .ok (.iconst (-1), 1) := by decide +kernel
theorem dX6_ready_2 : decode cX6_ready 2 = .ok (.if_icmp .ne 7, 3) := by decide +kernel
theorem dX6_ready_5 : decode cX6_ready 5 = .ok (.iconst 2, 1) := by decide +kernel
theorem dX6_ready_6 : decode cX6_ready 6 = .ok (.goto 40, 3) := by decide +kernel
theorem dX6_ready_9 : decode cX6_ready 9 = .ok (.iconst 1, 1) := by decide +kernel
theorem dX6_ready_10 : decode cX6_ready 10 = .ok (.sipush 1000, 3) := by decide +kernel
theorem dX6_ready_13 : decode cX6_ready 13 = .ok (.aload_n 0, 1) := by decide +kernel
theorem dX6_ready_14 : decode cX6_ready 14 = .ok (.getfield 20, 3) := by decide +kernel
theorem dX6_ready_17 : decode cX6_ready 17 = .ok (.iload_n 2, 1) := by decide +kernel
theorem dX6_ready_18 : decode cX6_ready 18 = .ok (.iaload, 1) := by decide +kernel
theorem dX6_ready_19 : decode cX6_ready 19 = .ok (.aload_n 0, 1) := by decide +kernel
theorem dX6_ready_20 : decode cX6_ready 20 = .ok (.getfield 24, 3) := by decide +kernel
theorem dX6_ready_23 : decode cX6_ready 23 = .ok (.iload_n 2, 1) := by decide +kernel
theorem dX6_ready_24 : decode cX6_ready 24 = .ok (.iaload, 1) := by decide +kernel
theorem dX6_ready_25 : decode cX6_ready 25 = .ok (.aload_n 0, 1) := by decide +kernel
theorem dX6_ready_26 : decode cX6_ready 26 = .ok (.getfield 20, 3) := by decide +kernel
theorem dX6_ready_29 : decode cX6_ready 29 = .ok (.iload_n 3, 1) := by decide +kernel
theorem dX6_ready_30 : decode cX6_ready 30 = .ok (.iaload, 1) := by decide +kernel
theorem dX6_ready_31 : decode cX6_ready 31 = .ok (.aload_n 0, 1) := by decide +kernel
theorem dX6_ready_32 : decode cX6_ready 32 = .ok (.getfield 24, 3) := by decide +kernel
theorem dX6_ready_35 : decode cX6_ready 35 = .ok (.iload_n 3, 1) := by decide +kernel
theorem dX6_ready_36 : decode cX6_ready 36 = .ok (.iaload, 1) := by decide +kernel
theorem dX6_ready_37 : decode cX6_ready 37 = .ok (.invokestatic 106, 3) := by decide +kernel
theorem dX6_ready_40 : decode cX6_ready 40 = .ok (.isub, 1) := by decide +kernel
theorem dX6_ready_41 : decode cX6_ready 41 = .ok (.sipush 250, 3) := by decide +kernel
theorem dX6_ready_44 : decode cX6_ready 44 = .ok (.idiv, 1) := by decide +kernel
theorem dX6_ready_45 : decode cX6_ready 45 = .ok (.iadd, 1) := by decide +kernel
theorem dX6_ready_46 : decode cX6_ready 46 = .ok (.istore 4, 2) := by decide +kernel
theorem dX6_ready_48 : decode cX6_ready 48 = .ok (.iload_n 2, 1) := by decide +kernel
theorem dX6_ready_49 : decode cX6_ready 49 = .ok (.iconst (-1), 1) := by decide +kernel
theorem dX6_ready_50 : decode cX6_ready 50 = .ok (.if_icmp .ne 7, 3) := by decide +kernel
theorem dX6_ready_53 : decode cX6_ready 53 = .ok (.iconst 0, 1) := by decide +kernel
theorem dX6_ready_54 : decode cX6_ready 54 = .ok (.goto 9, 3) := by decide +kernel
theorem dX6_ready_57 : decode cX6_ready 57 = .ok (.aload_n 0, 1) := by decide +kernel
theorem dX6_ready_58 : decode cX6_ready 58 = .ok (.getfield 27, 3) := by decide +kernel
theorem dX6_ready_61 : decode cX6_ready 61 = .ok (.iload_n 2, 1) := by decide +kernel
theorem dX6_ready_62 : decode cX6_ready 62 = .ok (.iaload, 1) := by decide +kernel
theorem dX6_ready_63 : decode cX6_ready 63 = .ok (.istore 5, 2) := by decide +kernel
theorem dX6_ready_65 : decode cX6_ready 65 = .ok (.iload_n 1, 1) := by decide +kernel
theorem dX6_ready_66 : decode cX6_ready 66 = .ok (.iload 4, 2) := by decide +kernel
theorem dX6_ready_68 : decode cX6_ready 68 = .ok (.iadd, 1) := by decide +kernel
theorem dX6_ready_69 : decode cX6_ready 69 = .ok (.iload 5, 2) := by decide +kernel
theorem dX6_ready_71 : decode cX6_ready 71 = .ok (.aload_n 0, 1) := by decide +kernel
theorem dX6_ready_72 : decode cX6_ready 72 = .ok (.getfield 27, 3) := by decide +kernel
theorem dX6_ready_75 : decode cX6_ready 75 = .ok (.iload_n 3, 1) := by decide +kernel
theorem dX6_ready_76 : decode cX6_ready 76 = .ok (.iaload, 1) := by decide +kernel
theorem dX6_ready_77 : decode cX6_ready 77 = .ok (.if_icmp .ne 7, 3) := by decide +kernel
theorem dX6_ready_80 : decode cX6_ready 80 = .ok (.iconst 0, 1) := by decide +kernel
theorem dX6_ready_81 : decode cX6_ready 81 = .ok (.goto 4, 3) := by decide +kernel
theorem dX6_ready_84 : decode cX6_ready 84 = .ok (.iconst 3, 1) := by decide +kernel
theorem dX6_ready_85 : decode cX6_ready 85 = .ok (.iadd, 1) := by decide +kernel
theorem dX6_ready_86 : decode cX6_ready 86 = .ok (.ireturn, 1) := by decide +kernel
theorem dX6_makePlan_0 : decode cX6_makePlan 0 = .ok (.aload_n 0, 1) := by decide +kernel
theorem dX6_makePlan_1 : decode cX6_makePlan 1 = .ok (.iconst 0, 1) := by decide +kernel
theorem dX6_makePlan_2 : decode cX6_makePlan 2 = .ok (.putfield 133, 3) := by decide +kernel
theorem dX6_makePlan_5 : decode cX6_makePlan 5 = .ok (.bipush 20, 2) := by decide +kernel
theorem dX6_makePlan_7 : decode cX6_makePlan 7 = .ok (.newarray .boolean, 2) := by decide +kernel
theorem dX6_makePlan_9 : decode cX6_makePlan 9 = .ok (.astore_n 1, 1) := by decide +kernel
theorem dX6_makePlan_10 : decode cX6_makePlan 10 = .ok (.iconst (-1), 1) := by decide +kernel
theorem dX6_makePlan_11 : decode cX6_makePlan 11 = .ok (.istore_n 2, 1) := by decide +kernel
theorem dX6_makePlan_12 : decode cX6_makePlan 12 = .ok (.iconst 0, 1) := by decide +kernel
theorem dX6_makePlan_13 : decode cX6_makePlan 13 = .ok (.istore_n 3, 1) := by decide +kernel
theorem dX6_makePlan_14 : decode cX6_makePlan 14 = .ok (.iload_n 3, 1) := by decide +kernel
theorem dX6_makePlan_15 : decode cX6_makePlan 15 = .ok (.aload_n 0, 1) := by decide +kernel
theorem dX6_makePlan_16 : decode cX6_makePlan 16 = .ok (.getfield 7, 3) := by decide +kernel
theorem dX6_makePlan_19 : decode cX6_makePlan 19 = .ok (.if_icmp .ge 249, 3) := by decide +kernel
theorem dX6_makePlan_22 : decode cX6_makePlan 22 = .ok (.iconst (-1), 1) := by decide +kernel
theorem dX6_makePlan_23 : decode cX6_makePlan 23 = .ok (.istore 4, 2) := by decide +kernel
theorem dX6_makePlan_25 : decode cX6_makePlan 25 = .ok (.iconst 0, 1) := by decide +kernel
theorem dX6_makePlan_26 : decode cX6_makePlan 26 = .ok (.istore 5, 2) := by decide +kernel
theorem dX6_makePlan_28 : decode cX6_makePlan 28 = .ok (.iconst 0, 1) := by decide +kernel
theorem dX6_makePlan_29 : decode cX6_makePlan 29 = .ok (.istore 6, 2) := by decide +kernel
theorem dX6_makePlan_31 : decode cX6_makePlan 31 = .ok (.iload 6, 2) := by decide +kernel
theorem dX6_makePlan_33 : decode cX6_makePlan 33 = .ok (.aload_n 0, 1) := by decide +kernel
theorem dX6_makePlan_34 : decode cX6_makePlan 34 = .ok (.getfield 63, 3) := by decide +kernel
theorem dX6_makePlan_37 : decode cX6_makePlan 37 = .ok (.if_icmp .ge 133, 3) := by decide +kernel
theorem dX6_makePlan_40 : decode cX6_makePlan 40 = .ok (.aload_n 1, 1) := by decide +kernel
theorem dX6_makePlan_41 : decode cX6_makePlan 41 = .ok (.iload 6, 2) := by decide +kernel
theorem dX6_makePlan_43 : decode cX6_makePlan 43 = .ok (.baload, 1) := by decide +kernel
theorem dX6_makePlan_44 : decode cX6_makePlan 44 = .ok (.ifCond .ne 120, 3) := by decide +kernel
theorem dX6_makePlan_47 : decode cX6_makePlan 47 = .ok (.aload_n 0, 1) := by decide +kernel
theorem dX6_makePlan_48 : decode cX6_makePlan 48 = .ok (.iload 6, 2) := by decide +kernel
theorem dX6_makePlan_50 : decode cX6_makePlan 50 = .ok (.invokevirtual 136, 3) := by decide +kernel
theorem dX6_makePlan_53 : decode cX6_makePlan 53 = .ok (.ifCond .ne 6, 3) := by decide +kernel
theorem dX6_makePlan_56 : decode cX6_makePlan 56 = .ok (.goto 108, 3) := by decide +kernel
theorem dX6_makePlan_59 : decode cX6_makePlan 59 = .ok (.aload_n 0, 1) := by decide +kernel
theorem dX6_makePlan_60 : decode cX6_makePlan 60 = .ok (.iload_n 3, 1) := by decide +kernel
theorem dX6_makePlan_61 : decode cX6_makePlan 61 = .ok (.iload_n 2, 1) := by decide +kernel
theorem dX6_makePlan_62 : decode cX6_makePlan 62 = .ok (.iload 6, 2) := by decide +kernel
theorem dX6_makePlan_64 : decode cX6_makePlan 64 = .ok (.invokevirtual 140, 3) := by decide +kernel
theorem dX6_makePlan_67 : decode cX6_makePlan 67 = .ok (.istore 7, 2) := by decide +kernel
theorem dX6_makePlan_69 : decode cX6_makePlan 69 = .ok (.iload 7, 2) := by decide +kernel
theorem dX6_makePlan_71 : decode cX6_makePlan 71 = .ok (.aload_n 0, 1) := by decide +kernel
theorem dX6_makePlan_72 : decode cX6_makePlan 72 = .ok (.getfield 7, 3) := by decide +kernel
theorem dX6_makePlan_75 : decode cX6_makePlan 75 = .ok (.if_icmp .ge 89, 3) := by decide +kernel
theorem dX6_makePlan_78 : decode cX6_makePlan 78 = .ok (.aload_n 0, 1) := by decide +kernel
theorem dX6_makePlan_79 : decode cX6_makePlan 79 = .ok (.getfield 54, 3) := by decide +kernel
theorem dX6_makePlan_82 : decode cX6_makePlan 82 = .ok (.sipush 900, 3) := by decide +kernel
theorem dX6_makePlan_85 : decode cX6_makePlan 85 = .ok (.iload 6, 2) := by decide +kernel
theorem dX6_makePlan_87 : decode cX6_makePlan 87 = .ok (.imul, 1) := by decide +kernel
theorem dX6_makePlan_88 : decode cX6_makePlan 88 = .ok (.iload 7, 2) := by decide +kernel
theorem dX6_makePlan_90 : decode cX6_makePlan 90 = .ok (.iadd, 1) := by decide +kernel
theorem dX6_makePlan_91 : decode cX6_makePlan 91 = .ok (.iaload, 1) := by decide +kernel
theorem dX6_makePlan_92 : decode cX6_makePlan 92 = .ok (.aload_n 0, 1) := by decide +kernel
theorem dX6_makePlan_93 : decode cX6_makePlan 93 = .ok (.getfield 36, 3) := by decide +kernel
theorem dX6_makePlan_96 : decode cX6_makePlan 96 = .ok (.iload 6, 2) := by decide +kernel
theorem dX6_makePlan_98 : decode cX6_makePlan 98 = .ok (.iaload, 1) := by decide +kernel
theorem dX6_makePlan_99 : decode cX6_makePlan 99 = .ok (.if_icmp .ge 6, 3) := by decide +kernel
theorem dX6_makePlan_102 : decode cX6_makePlan 102 = .ok (.goto 62, 3) := by decide +kernel
theorem dX6_makePlan_105 : decode cX6_makePlan 105 = .ok (.bipush 100, 2) := by decide +kernel
theorem dX6_makePlan_107 : decode cX6_makePlan 107 = .ok (.aload_n 0, 1) := by decide +kernel
theorem dX6_makePlan_108 : decode cX6_makePlan 108 = .ok (.getfield 30, 3) := by decide +kernel
theorem dX6_makePlan_111 : decode cX6_makePlan 111 = .ok (.iload 6, 2) := by decide +kernel
theorem dX6_makePlan_113 : decode cX6_makePlan 113 = .ok (.iaload, 1) := by decide +kernel
theorem dX6_makePlan_114 : decode cX6_makePlan 114 = .ok (.imul, 1) := by decide +kernel
theorem dX6_makePlan_115 : decode cX6_makePlan 115 = .ok (.aload_n 0, 1) := by decide +kernel
theorem dX6_makePlan_116 : decode cX6_makePlan 116 = .ok (.getfield 51, 3) := by decide +kernel
theorem dX6_makePlan_119 : decode cX6_makePlan 119 = .ok (.sipush 900, 3) := by decide +kernel
theorem dX6_makePlan_122 : decode cX6_makePlan 122 = .ok (.iload 6, 2) := by decide +kernel
theorem dX6_makePlan_124 : decode cX6_makePlan 124 = .ok (.imul, 1) := by decide +kernel
theorem dX6_makePlan_125 : decode cX6_makePlan 125 = .ok (.iload 7, 2) := by decide +kernel
theorem dX6_makePlan_127 : decode cX6_makePlan 127 = .ok (.iadd, 1) := by decide +kernel
theorem dX6_makePlan_128 : decode cX6_makePlan 128 = .ok (.iaload, 1) := by decide +kernel
theorem dX6_makePlan_129 : decode cX6_makePlan 129 = .ok (.bipush 10, 2) := by decide +kernel
theorem dX6_makePlan_131 : decode cX6_makePlan 131 = .ok (.idiv, 1) := by decide +kernel
theorem dX6_makePlan_132 : decode cX6_makePlan 132 = .ok (.iadd, 1) := by decide +kernel
theorem dX6_makePlan_133 : decode cX6_makePlan 133 = .ok (.iload 7, 2) := by decide +kernel
theorem dX6_makePlan_135 : decode cX6_makePlan 135 = .ok (.iload_n 3, 1) := by decide +kernel
theorem dX6_makePlan_136 : decode cX6_makePlan 136 = .ok (.isub, 1) := by decide +kernel
theorem dX6_makePlan_137 : decode cX6_makePlan 137 = .ok (.isub, 1) := by decide +kernel
theorem dX6_makePlan_138 : decode cX6_makePlan 138 = .ok (.istore 8, 2) := by decide +kernel
theorem dX6_makePlan_140 : decode cX6_makePlan 140 = .ok (.iload 4, 2) := by decide +kernel
theorem dX6_makePlan_142 : decode cX6_makePlan 142 = .ok (.iconst (-1), 1) := by decide +kernel
theorem dX6_makePlan_143 : decode cX6_makePlan 143 = .ok (.if_icmp .eq 13, 3) := by decide +kernel
theorem dX6_makePlan_146 : decode cX6_makePlan 146 = .ok (.iload 8, 2) := by decide +kernel
theorem dX6_makePlan_148 : decode cX6_makePlan 148 = .ok (.iload 5, 2) := by decide +kernel
theorem dX6_makePlan_150 : decode cX6_makePlan 150 = .ok (.if_icmp .gt 6, 3) := by decide +kernel
theorem dX6_makePlan_153 : decode cX6_makePlan 153 = .ok (.goto 11, 3) := by decide +kernel
theorem dX6_makePlan_156 : decode cX6_makePlan 156 = .ok (.iload 6, 2) := by decide +kernel
theorem dX6_makePlan_158 : decode cX6_makePlan 158 = .ok (.istore 4, 2) := by decide +kernel
theorem dX6_makePlan_160 : decode cX6_makePlan 160 = .ok (.iload 8, 2) := by decide +kernel
theorem dX6_makePlan_162 : decode cX6_makePlan 162 = .ok (.istore 5, 2) := by decide +kernel
theorem dX6_makePlan_164 : decode cX6_makePlan 164 = .ok (.iinc 6 1, 3) := by decide +kernel
theorem dX6_makePlan_167 : decode cX6_makePlan 167 = .ok (.goto (-136), 3) := by decide +kernel
theorem dX6_makePlan_170 : decode cX6_makePlan 170 = .ok (.iload 4, 2) := by decide +kernel
theorem dX6_makePlan_172 : decode cX6_makePlan 172 = .ok (.iconst (-1), 1) := by decide +kernel
theorem dX6_makePlan_173 : decode cX6_makePlan 173 = .ok (.if_icmp .ne 9, 3) := by decide +kernel
theorem dX6_makePlan_176 : decode cX6_makePlan 176 = .ok (.iinc 3 1, 3) := by decide +kernel
theorem dX6_makePlan_179 : decode cX6_makePlan 179 = .ok (.goto (-165), 3) := by decide +kernel
theorem dX6_makePlan_182 : decode cX6_makePlan 182 = .ok (.aload_n 0, 1) := by decide +kernel
theorem dX6_makePlan_183 : decode cX6_makePlan 183 = .ok (.iload_n 3, 1) := by decide +kernel
theorem dX6_makePlan_184 : decode cX6_makePlan 184 = .ok (.iload_n 2, 1) := by decide +kernel
theorem dX6_makePlan_185 : decode cX6_makePlan 185 = .ok (.iload 4, 2) := by decide +kernel
theorem dX6_makePlan_187 : decode cX6_makePlan 187 = .ok (.invokevirtual 140, 3) := by decide +kernel
theorem dX6_makePlan_190 : decode cX6_makePlan 190 = .ok (.istore 6, 2) := by decide +kernel
theorem dX6_makePlan_192 : decode cX6_makePlan 192 = .ok (.iconst 4, 1) := by decide +kernel
theorem dX6_makePlan_193 : decode cX6_makePlan 193 = .ok (.newarray .int, 2) := by decide +kernel
theorem dX6_makePlan_195 : decode cX6_makePlan 195 = .ok (.dup, 1) := by decide +kernel
theorem dX6_makePlan_196 : decode cX6_makePlan 196 = .ok (.iconst 0, 1) := by decide +kernel
theorem dX6_makePlan_197 : decode cX6_makePlan 197 = .ok (.iload 4, 2) := by decide +kernel
theorem dX6_makePlan_199 : decode cX6_makePlan 199 = .ok (.iastore, 1) := by decide +kernel
theorem dX6_makePlan_200 : decode cX6_makePlan 200 = .ok (.dup, 1) := by decide +kernel
theorem dX6_makePlan_201 : decode cX6_makePlan 201 = .ok (.iconst 1, 1) := by decide +kernel
theorem dX6_makePlan_202 : decode cX6_makePlan 202 = .ok (.iload 6, 2) := by decide +kernel
theorem dX6_makePlan_204 : decode cX6_makePlan 204 = .ok (.iastore, 1) := by decide +kernel
theorem dX6_makePlan_205 : decode cX6_makePlan 205 = .ok (.dup, 1) := by decide +kernel
theorem dX6_makePlan_206 : decode cX6_makePlan 206 = .ok (.iconst 2, 1) := by decide +kernel
theorem dX6_makePlan_207 : decode cX6_makePlan 207 = .ok (.iload 6, 2) := by decide +kernel
theorem dX6_makePlan_209 : decode cX6_makePlan 209 = .ok (.iload_n 3, 1) := by decide +kernel
theorem dX6_makePlan_210 : decode cX6_makePlan 210 = .ok (.isub, 1) := by decide +kernel
theorem dX6_makePlan_211 : decode cX6_makePlan 211 = .ok (.iastore, 1) := by decide +kernel
theorem dX6_makePlan_212 : decode cX6_makePlan 212 = .ok (.dup, 1) := by decide +kernel
theorem dX6_makePlan_213 : decode cX6_makePlan 213 = .ok (.iconst 3, 1) := by decide +kernel
theorem dX6_makePlan_214 : decode cX6_makePlan 214 = .ok (.iload 5, 2) := by decide +kernel
theorem dX6_makePlan_216 : decode cX6_makePlan 216 = .ok (.iastore, 1) := by decide +kernel
theorem dX6_makePlan_217 : decode cX6_makePlan 217 = .ok (.astore 7, 2) := by decide +kernel
theorem dX6_makePlan_219 : decode cX6_makePlan 219 = .ok (.aload 7, 2) := by decide +kernel
theorem dX6_makePlan_221 : decode cX6_makePlan 221 = .ok (.iconst 0, 1) := by decide +kernel
theorem dX6_makePlan_222 : decode cX6_makePlan 222 = .ok (.aload_n 0, 1) := by decide +kernel
theorem dX6_makePlan_223 : decode cX6_makePlan 223 = .ok (.getfield 57, 3) := by decide +kernel
theorem dX6_makePlan_226 : decode cX6_makePlan 226 = .ok (.iconst 4, 1) := by decide +kernel
theorem dX6_makePlan_227 : decode cX6_makePlan 227 = .ok (.aload_n 0, 1) := by decide +kernel
theorem dX6_makePlan_228 : decode cX6_makePlan 228 = .ok (.getfield 133, 3) := by decide +kernel
theorem dX6_makePlan_231 : decode cX6_makePlan 231 = .ok (.imul, 1) := by decide +kernel
theorem dX6_makePlan_232 : decode cX6_makePlan 232 = .ok (.iconst 4, 1) := by decide +kernel
theorem dX6_makePlan_233 : decode cX6_makePlan 233 = .ok (.invokestatic 143, 3) := by decide +kernel
theorem dX6_makePlan_236 : decode cX6_makePlan 236 = .ok (.aload_n 0, 1) := by decide +kernel
theorem dX6_makePlan_237 : decode cX6_makePlan 237 = .ok (.dup, 1) := by decide +kernel
theorem dX6_makePlan_238 : decode cX6_makePlan 238 = .ok (.getfield 133, 3) := by decide +kernel
theorem dX6_makePlan_241 : decode cX6_makePlan 241 = .ok (.iconst 1, 1) := by decide +kernel
theorem dX6_makePlan_242 : decode cX6_makePlan 242 = .ok (.iadd, 1) := by decide +kernel
theorem dX6_makePlan_243 : decode cX6_makePlan 243 = .ok (.putfield 133, 3) := by decide +kernel
theorem dX6_makePlan_246 : decode cX6_makePlan 246 = .ok (.aload_n 1, 1) := by decide +kernel
theorem dX6_makePlan_247 : decode cX6_makePlan 247 = .ok (.iload 4, 2) := by decide +kernel
theorem dX6_makePlan_249 : decode cX6_makePlan 249 = .ok (.iconst 1, 1) := by decide +kernel
theorem dX6_makePlan_250 : decode cX6_makePlan 250 = .ok (.bastore, 1) := by decide +kernel
theorem dX6_makePlan_251 : decode cX6_makePlan 251 = .ok (.iload 4, 2) := by decide +kernel
theorem dX6_makePlan_253 : decode cX6_makePlan 253 = .ok (.istore_n 2, 1) := by decide +kernel
theorem dX6_makePlan_254 : decode cX6_makePlan 254 = .ok (.iload 6, 2) := by decide +kernel
theorem dX6_makePlan_256 : decode cX6_makePlan 256 = .ok (.aload_n 0, 1) := by decide +kernel
theorem dX6_makePlan_257 : decode cX6_makePlan 257 = .ok (.getfield 36, 3) := by decide +kernel
theorem dX6_makePlan_260 : decode cX6_makePlan 260 = .ok (.iload 4, 2) := by decide +kernel
theorem dX6_makePlan_262 : decode cX6_makePlan 262 = .ok (.iaload, 1) := by decide +kernel
theorem dX6_makePlan_263 : decode cX6_makePlan 263 = .ok (.iadd, 1) := by decide +kernel
theorem dX6_makePlan_264 : decode cX6_makePlan 264 = .ok (.istore_n 3, 1) := by decide +kernel
theorem dX6_makePlan_265 : decode cX6_makePlan 265 = .ok (.goto (-251), 3) := by decide +kernel
theorem dX6_makePlan_268 : decode cX6_makePlan 268 = .ok (.return_, 1) := by decide +kernel
theorem dX6_setSite_0 : decode cX6_setSite 0 = .ok (.aload_n 0, 1) := by decide +kernel
theorem dX6_setSite_1 : decode cX6_setSite 1 = .ok (.iconst 0, 1) := by decide +kernel
theorem dX6_setSite_2 : decode cX6_setSite 2 = .ok (.putfield 60, 3) := by decide +kernel
theorem dX6_setSite_5 : decode cX6_setSite 5 = .ok (.iload_n 1, 1) := by decide +kernel
theorem dX6_setSite_6 : decode cX6_setSite 6 = .ok (.bipush (-90), 2) := by decide +kernel
theorem dX6_setSite_8 : decode cX6_setSite 8 = .ok (.bipush 90, 2) := by decide +kernel
theorem dX6_setSite_10 : decode cX6_setSite 10 = .ok (.invokestatic 66, 3) := by decide +kernel
theorem dX6_setSite_13 : decode cX6_setSite 13 = .ok (.ifCond .eq 14, 3) := by decide +kernel
theorem dX6_setSite_16 : decode cX6_setSite 16 = .ok (.iload_n 2, 1) := by decide +kernel
theorem dX6_setSite_17 : decode cX6_setSite 17 = .ok (.iconst 0, 1) := by decide +kernel
theorem dX6_setSite_18 : decode cX6_setSite 18 = .ok (.sipush 1439, 3) := by decide +kernel
theorem dX6_setSite_21 : decode cX6_setSite 21 = .ok (.invokestatic 66, 3) := by decide +kernel
theorem dX6_setSite_24 : decode cX6_setSite 24 = .ok (.ifCond .ne 9, 3) := by decide +kernel
theorem dX6_setSite_27 : decode cX6_setSite 27 = .ok (.aload_n 0, 1) := by decide +kernel
theorem dX6_setSite_28 : decode cX6_setSite 28 = .ok (.iconst 1, 1) := by decide +kernel
theorem dX6_setSite_29 : decode cX6_setSite 29 = .ok (.invokevirtual 149, 3) := by decide +kernel
theorem dX6_setSite_32 : decode cX6_setSite 32 = .ok (.ireturn, 1) := by decide +kernel
theorem dX6_setSite_33 : decode cX6_setSite 33 = .ok (.aload_n 0, 1) := by decide +kernel
theorem dX6_setSite_34 : decode cX6_setSite 34 = .ok (.getfield 13, 3) := by decide +kernel
theorem dX6_setSite_37 : decode cX6_setSite 37 = .ok (.istore_n 3, 1) := by decide +kernel
theorem dX6_setSite_38 : decode cX6_setSite 38 = .ok (.aload_n 0, 1) := by decide +kernel
theorem dX6_setSite_39 : decode cX6_setSite 39 = .ok (.iload_n 1, 1) := by decide +kernel
theorem dX6_setSite_40 : decode cX6_setSite 40 = .ok (.putfield 13, 3) := by decide +kernel
theorem dX6_setSite_43 : decode cX6_setSite 43 = .ok (.aload_n 0, 1) := by decide +kernel
theorem dX6_setSite_44 : decode cX6_setSite 44 = .ok (.iload_n 2, 1) := by decide +kernel
theorem dX6_setSite_45 : decode cX6_setSite 45 = .ok (.putfield 84, 3) := by decide +kernel
theorem dX6_setSite_48 : decode cX6_setSite 48 = .ok (.aload_n 0, 1) := by decide +kernel
theorem dX6_setSite_49 : decode cX6_setSite 49 = .ok (.iconst 0, 1) := by decide +kernel
theorem dX6_setSite_50 : decode cX6_setSite 50 = .ok (.putfield 123, 3) := by decide +kernel
theorem dX6_setSite_53 : decode cX6_setSite 53 = .ok (.iload_n 3, 1) := by decide +kernel
theorem dX6_setSite_54 : decode cX6_setSite 54 = .ok (.ireturn, 1) := by decide +kernel
theorem dX6_setLength_0 : decode cX6_setLength 0 = .ok (.aload_n 0, 1) := by decide +kernel
theorem dX6_setLength_1 : decode cX6_setLength 1 = .ok (.iconst 0, 1) := by decide +kernel
theorem dX6_setLength_2 : decode cX6_setLength 2 = .ok (.putfield 60, 3) := by decide +kernel
theorem dX6_setLength_5 : decode cX6_setLength 5 = .ok (.iload_n 1, 1) := by decide +kernel
theorem dX6_setLength_6 : decode cX6_setLength 6 = .ok (.bipush 60, 2) := by decide +kernel
theorem dX6_setLength_8 : decode cX6_setLength 8 = .ok (.sipush 900, 3) := by decide +kernel
theorem dX6_setLength_11 : decode cX6_setLength 11 = .ok (.invokestatic 66, 3) := by decide +kernel
theorem dX6_setLength_14 : decode cX6_setLength 14 = .ok (.ifCond .ne 9, 3) := by decide +kernel
theorem dX6_setLength_17 : decode cX6_setLength 17 = .ok (.aload_n 0, 1) := by decide +kernel
theorem dX6_setLength_18 : decode cX6_setLength 18 = .ok (.iconst 1, 1) := by decide +kernel
theorem dX6_setLength_19 : decode cX6_setLength 19 = .ok (.invokevirtual 149, 3) := by decide +kernel
theorem dX6_setLength_22 : decode cX6_setLength 22 = .ok (.ireturn, 1) := by decide +kernel
theorem dX6_setLength_23 : decode cX6_setLength 23 = .ok (.aload_n 0, 1) := by decide +kernel
theorem dX6_setLength_24 : decode cX6_setLength 24 = .ok (.getfield 7, 3) := by decide +kernel
theorem dX6_setLength_27 : decode cX6_setLength 27 = .ok (.istore_n 2, 1) := by decide +kernel
theorem dX6_setLength_28 : decode cX6_setLength 28 = .ok (.aload_n 0, 1) := by decide +kernel
theorem dX6_setLength_29 : decode cX6_setLength 29 = .ok (.iload_n 1, 1) := by decide +kernel
theorem dX6_setLength_30 : decode cX6_setLength 30 = .ok (.putfield 7, 3) := by decide +kernel
theorem dX6_setLength_33 : decode cX6_setLength 33 = .ok (.aload_n 0, 1) := by decide +kernel
theorem dX6_setLength_34 : decode cX6_setLength 34 = .ok (.iconst 0, 1) := by decide +kernel
theorem dX6_setLength_35 : decode cX6_setLength 35 = .ok (.putfield 123, 3) := by decide +kernel
theorem dX6_setLength_38 : decode cX6_setLength 38 = .ok (.iload_n 2, 1) := by decide +kernel
theorem dX6_setLength_39 : decode cX6_setLength 39 = .ok (.ireturn, 1) := by decide +kernel
theorem dX6_setMoon_0 : decode cX6_setMoon 0 = .ok (.aload_n 0, 1) := by decide +kernel
theorem dX6_setMoon_1 : decode cX6_setMoon 1 = .ok (.iconst 0, 1) := by decide +kernel
theorem dX6_setMoon_2 : decode cX6_setMoon 2 = .ok (.putfield 60, 3) := by decide +kernel
theorem dX6_setMoon_5 : decode cX6_setMoon 5 = .ok (.iload_n 1, 1) := by decide +kernel
theorem dX6_setMoon_6 : decode cX6_setMoon 6 = .ok (.iload_n 2, 1) := by decide +kernel
theorem dX6_setMoon_7 : decode cX6_setMoon 7 = .ok (.invokestatic 152, 3) := by decide +kernel
theorem dX6_setMoon_10 : decode cX6_setMoon 10 = .ok (.ifCond .eq 13, 3) := by decide +kernel
theorem dX6_setMoon_13 : decode cX6_setMoon 13 = .ok (.iload_n 3, 1) := by decide +kernel
theorem dX6_setMoon_14 : decode cX6_setMoon 14 = .ok (.iconst 0, 1) := by decide +kernel
theorem dX6_setMoon_15 : decode cX6_setMoon 15 = .ok (.bipush 29, 2) := by decide +kernel
theorem dX6_setMoon_17 : decode cX6_setMoon 17 = .ok (.invokestatic 66, 3) := by decide +kernel
theorem dX6_setMoon_20 : decode cX6_setMoon 20 = .ok (.ifCond .ne 9, 3) := by decide +kernel
theorem dX6_setMoon_23 : decode cX6_setMoon 23 = .ok (.aload_n 0, 1) := by decide +kernel
theorem dX6_setMoon_24 : decode cX6_setMoon 24 = .ok (.iconst 1, 1) := by decide +kernel
theorem dX6_setMoon_25 : decode cX6_setMoon 25 = .ok (.invokevirtual 149, 3) := by decide +kernel
theorem dX6_setMoon_28 : decode cX6_setMoon 28 = .ok (.ireturn, 1) := by decide +kernel
theorem dX6_setMoon_29 : decode cX6_setMoon 29 = .ok (.aload_n 0, 1) := by decide +kernel
theorem dX6_setMoon_30 : decode cX6_setMoon 30 = .ok (.iload_n 1, 1) := by decide +kernel
theorem dX6_setMoon_31 : decode cX6_setMoon 31 = .ok (.putfield 100, 3) := by decide +kernel
theorem dX6_setMoon_34 : decode cX6_setMoon 34 = .ok (.aload_n 0, 1) := by decide +kernel
theorem dX6_setMoon_35 : decode cX6_setMoon 35 = .ok (.iload_n 2, 1) := by decide +kernel
theorem dX6_setMoon_36 : decode cX6_setMoon 36 = .ok (.putfield 103, 3) := by decide +kernel
theorem dX6_setMoon_39 : decode cX6_setMoon 39 = .ok (.aload_n 0, 1) := by decide +kernel
theorem dX6_setMoon_40 : decode cX6_setMoon 40 = .ok (.iload_n 3, 1) := by decide +kernel
theorem dX6_setMoon_41 : decode cX6_setMoon 41 = .ok (.putfield 97, 3) := by decide +kernel
theorem dX6_setMoon_44 : decode cX6_setMoon 44 = .ok (.aload_n 0, 1) := by decide +kernel
theorem dX6_setMoon_45 : decode cX6_setMoon 45 = .ok (.iconst 0, 1) := by decide +kernel
theorem dX6_setMoon_46 : decode cX6_setMoon 46 = .ok (.putfield 123, 3) := by decide +kernel
theorem dX6_setMoon_49 : decode cX6_setMoon 49 = .ok (.aload_n 0, 1) := by decide +kernel
theorem dX6_setMoon_50 : decode cX6_setMoon 50 = .ok (.invokevirtual 119, 3) := by decide +kernel
theorem dX6_setMoon_53 : decode cX6_setMoon 53 = .ok (.ireturn, 1) := by decide +kernel
theorem dX6_addClouds_0 : decode cX6_addClouds 0 = .ok (.aload_n 0, 1) := by decide +kernel
theorem dX6_addClouds_1 : decode cX6_addClouds 1 = .ok (.iconst 0, 1) := by decide +kernel
theorem dX6_addClouds_2 : decode cX6_addClouds 2 = .ok (.putfield 60, 3) := by decide +kernel
theorem dX6_addClouds_5 : decode cX6_addClouds 5 = .ok (.iload_n 1, 1) := by decide +kernel
theorem dX6_addClouds_6 : decode cX6_addClouds 6 = .ok (.ifCond .lt 16, 3) := by decide +kernel
theorem dX6_addClouds_9 : decode cX6_addClouds 9 = .ok (.iload_n 1, 1) := by decide +kernel
theorem dX6_addClouds_10 : decode cX6_addClouds 10 = .ok (.iload_n 2, 1) := by decide +kernel
theorem dX6_addClouds_11 : decode cX6_addClouds 11 = .ok (.if_icmp .gt 11, 3) := by decide +kernel
theorem dX6_addClouds_14 : decode cX6_addClouds 14 = .ok (.aload_n 0, 1) := by decide +kernel
theorem dX6_addClouds_15 : decode cX6_addClouds 15 = .ok (.iload_n 2, 1) := by decide +kernel
theorem dX6_addClouds_16 : decode cX6_addClouds 16 = .ok (.invokevirtual 156, 3) := by decide +kernel
theorem dX6_addClouds_19 : decode cX6_addClouds 19 = .ok (.ifCond .ne 9, 3) := by decide +kernel
theorem dX6_addClouds_22 : decode cX6_addClouds 22 = .ok (.aload_n 0, 1) := by decide +kernel
theorem dX6_addClouds_23 : decode cX6_addClouds 23 = .ok (.iconst 1, 1) := by decide +kernel
theorem dX6_addClouds_24 : decode cX6_addClouds 24 = .ok (.invokevirtual 149, 3) := by decide +kernel
theorem dX6_addClouds_27 : decode cX6_addClouds 27 = .ok (.ireturn, 1) := by decide +kernel
theorem dX6_addClouds_28 : decode cX6_addClouds 28 = .ok (.aload_n 0, 1) := by decide +kernel
theorem dX6_addClouds_29 : decode cX6_addClouds 29 = .ok (.getfield 159, 3) := by decide +kernel
theorem dX6_addClouds_32 : decode cX6_addClouds 32 = .ok (.bipush 8, 2) := by decide +kernel
theorem dX6_addClouds_34 : decode cX6_addClouds 34 = .ok (.if_icmp .ne 9, 3) := by decide +kernel
theorem dX6_addClouds_37 : decode cX6_addClouds 37 = .ok (.aload_n 0, 1) := by decide +kernel
theorem dX6_addClouds_38 : decode cX6_addClouds 38 = .ok (.iconst 2, 1) := by decide +kernel
theorem dX6_addClouds_39 : decode cX6_addClouds 39 = .ok (.invokevirtual 149, 3) := by decide +kernel
theorem dX6_addClouds_42 : decode cX6_addClouds 42 = .ok (.ireturn, 1) := by decide +kernel
theorem dX6_addClouds_43 : decode cX6_addClouds 43 = .ok (.aload_n 0, 1) := by decide +kernel
theorem dX6_addClouds_44 : decode cX6_addClouds 44 = .ok (.dup, 1) := by decide +kernel
theorem dX6_addClouds_45 : decode cX6_addClouds 45 = .ok (.getfield 159, 3) := by decide +kernel
theorem dX6_addClouds_48 : decode cX6_addClouds 48 = .ok (.iconst 1, 1) := by decide +kernel
theorem dX6_addClouds_49 : decode cX6_addClouds 49 = .ok (.iadd, 1) := by decide +kernel
theorem dX6_addClouds_50 : decode cX6_addClouds 50 = .ok (.putfield 159, 3) := by decide +kernel
theorem dX6_addClouds_53 : decode cX6_addClouds 53 = .ok (.iload_n 1, 1) := by decide +kernel
theorem dX6_addClouds_54 : decode cX6_addClouds 54 = .ok (.istore_n 3, 1) := by decide +kernel
theorem dX6_addClouds_55 : decode cX6_addClouds 55 = .ok (.iload_n 3, 1) := by decide +kernel
theorem dX6_addClouds_56 : decode cX6_addClouds 56 = .ok (.iload_n 2, 1) := by decide +kernel
theorem dX6_addClouds_57 : decode cX6_addClouds 57 = .ok (.if_icmp .gt 16, 3) := by decide +kernel
theorem dX6_addClouds_60 : decode cX6_addClouds 60 = .ok (.aload_n 0, 1) := by decide +kernel
theorem dX6_addClouds_61 : decode cX6_addClouds 61 = .ok (.getfield 16, 3) := by decide +kernel
theorem dX6_addClouds_64 : decode cX6_addClouds 64 = .ok (.iload_n 3, 1) := by decide +kernel
theorem dX6_addClouds_65 : decode cX6_addClouds 65 = .ok (.iconst 1, 1) := by decide +kernel
theorem dX6_addClouds_66 : decode cX6_addClouds 66 = .ok (.bastore, 1) := by decide +kernel
theorem dX6_addClouds_67 : decode cX6_addClouds 67 = .ok (.iinc 3 1, 3) := by decide +kernel
theorem dX6_addClouds_70 : decode cX6_addClouds 70 = .ok (.goto (-15), 3) := by decide +kernel
theorem dX6_addClouds_73 : decode cX6_addClouds 73 = .ok (.aload_n 0, 1) := by decide +kernel
theorem dX6_addClouds_74 : decode cX6_addClouds 74 = .ok (.iconst 0, 1) := by decide +kernel
theorem dX6_addClouds_75 : decode cX6_addClouds 75 = .ok (.putfield 123, 3) := by decide +kernel
theorem dX6_addClouds_78 : decode cX6_addClouds 78 = .ok (.iconst 0, 1) := by decide +kernel
theorem dX6_addClouds_79 : decode cX6_addClouds 79 = .ok (.istore_n 3, 1) := by decide +kernel
theorem dX6_addClouds_80 : decode cX6_addClouds 80 = .ok (.iconst 0, 1) := by decide +kernel
theorem dX6_addClouds_81 : decode cX6_addClouds 81 = .ok (.istore 4, 2) := by decide +kernel
theorem dX6_addClouds_83 : decode cX6_addClouds 83 = .ok (.iload 4, 2) := by decide +kernel
theorem dX6_addClouds_85 : decode cX6_addClouds 85 = .ok (.aload_n 0, 1) := by decide +kernel
theorem dX6_addClouds_86 : decode cX6_addClouds 86 = .ok (.getfield 7, 3) := by decide +kernel
theorem dX6_addClouds_89 : decode cX6_addClouds 89 = .ok (.if_icmp .ge 27, 3) := by decide +kernel
theorem dX6_addClouds_92 : decode cX6_addClouds 92 = .ok (.iload_n 3, 1) := by decide +kernel
theorem dX6_addClouds_93 : decode cX6_addClouds 93 = .ok (.aload_n 0, 1) := by decide +kernel
theorem dX6_addClouds_94 : decode cX6_addClouds 94 = .ok (.getfield 16, 3) := by decide +kernel
theorem dX6_addClouds_97 : decode cX6_addClouds 97 = .ok (.iload 4, 2) := by decide +kernel
theorem dX6_addClouds_99 : decode cX6_addClouds 99 = .ok (.baload, 1) := by decide +kernel
theorem dX6_addClouds_100 : decode cX6_addClouds 100 = .ok (.ifCond .eq 7, 3) := by decide +kernel
theorem dX6_addClouds_103 : decode cX6_addClouds 103 = .ok (.iconst 0, 1) := by decide +kernel
theorem dX6_addClouds_104 : decode cX6_addClouds 104 = .ok (.goto 4, 3) := by decide +kernel
theorem dX6_addClouds_107 : decode cX6_addClouds 107 = .ok (.iconst 1, 1) := by decide +kernel
theorem dX6_addClouds_108 : decode cX6_addClouds 108 = .ok (.iadd, 1) := by decide +kernel
theorem dX6_addClouds_109 : decode cX6_addClouds 109 = .ok (.istore_n 3, 1) := by decide +kernel
theorem dX6_addClouds_110 : decode cX6_addClouds 110 = .ok (.iinc 4 1, 3) := by decide +kernel
theorem dX6_addClouds_113 : decode cX6_addClouds 113 = .ok (.goto (-30), 3) := by decide +kernel
theorem dX6_addClouds_116 : decode cX6_addClouds 116 = .ok (.iload_n 3, 1) := by decide +kernel
theorem dX6_addClouds_117 : decode cX6_addClouds 117 = .ok (.ireturn, 1) := by decide +kernel
theorem dX6_sine_0 : decode cX6_sine 0 = .ok (.aload_n 0, 1) := by decide +kernel
theorem dX6_sine_1 : decode cX6_sine 1 = .ok (.iconst 0, 1) := by decide +kernel
theorem dX6_sine_2 : decode cX6_sine 2 = .ok (.putfield 60, 3) := by decide +kernel
theorem dX6_sine_5 : decode cX6_sine 5 = .ok (.iload_n 1, 1) := by decide +kernel
theorem dX6_sine_6 : decode cX6_sine 6 = .ok (.sipush (-10000), 3) := by decide +kernel
theorem dX6_sine_9 : decode cX6_sine 9 = .ok (.sipush 10000, 3) := by decide +kernel
theorem dX6_sine_12 : decode cX6_sine 12 = .ok (.invokestatic 66, 3) := by decide +kernel
theorem dX6_sine_15 : decode cX6_sine 15 = .ok (.ifCond .eq 10, 3) := by decide +kernel
theorem dX6_sine_18 : decode cX6_sine 18 = .ok (.iload_n 1, 1) := by decide +kernel
theorem dX6_sine_19 : decode cX6_sine 19 = .ok (.invokestatic 77, 3) := by decide +kernel
theorem dX6_sine_22 : decode cX6_sine 22 = .ok (.goto 8, 3) := by decide +kernel
theorem dX6_sine_25 : decode cX6_sine 25 = .ok (.aload_n 0, 1) := by decide +kernel
theorem dX6_sine_26 : decode cX6_sine 26 = .ok (.iconst 1, 1) := by decide +kernel
theorem dX6_sine_27 : decode cX6_sine 27 = .ok (.invokevirtual 149, 3) := by decide +kernel
theorem dX6_sine_30 : decode cX6_sine 30 = .ok (.ireturn, 1) := by decide +kernel
theorem dX6_addTarget_0 : decode cX6_addTarget 0 = .ok (.aload_n 0, 1) := by decide +kernel
theorem dX6_addTarget_1 : decode cX6_addTarget 1 = .ok (.iconst 0, 1) := by decide +kernel
theorem dX6_addTarget_2 : decode cX6_addTarget 2 = .ok (.putfield 60, 3) := by decide +kernel
theorem dX6_addTarget_5 : decode cX6_addTarget 5 = .ok (.iload_n 1, 1) := by decide +kernel
theorem dX6_addTarget_6 : decode cX6_addTarget 6 = .ok (.iload_n 2, 1) := by decide +kernel
theorem dX6_addTarget_7 : decode cX6_addTarget 7 = .ok (.invokestatic 152, 3) := by decide +kernel
theorem dX6_addTarget_10 : decode cX6_addTarget 10 = .ok (.ifCond .eq 34, 3) := by decide +kernel
theorem dX6_addTarget_13 : decode cX6_addTarget 13 = .ok (.iload_n 3, 1) := by decide +kernel
theorem dX6_addTarget_14 : decode cX6_addTarget 14 = .ok (.iconst 0, 1) := by decide +kernel
theorem dX6_addTarget_15 : decode cX6_addTarget 15 = .ok (.iconst 3, 1) := by decide +kernel
theorem dX6_addTarget_16 : decode cX6_addTarget 16 = .ok (.invokestatic 66, 3) := by decide +kernel
theorem dX6_addTarget_19 : decode cX6_addTarget 19 = .ok (.ifCond .eq 25, 3) := by decide +kernel
theorem dX6_addTarget_22 : decode cX6_addTarget 22 = .ok (.iload 4, 2) := by decide +kernel
theorem dX6_addTarget_24 : decode cX6_addTarget 24 = .ok (.iconst 1, 1) := by decide +kernel
theorem dX6_addTarget_25 : decode cX6_addTarget 25 = .ok (.bipush 9, 2) := by decide +kernel
theorem dX6_addTarget_27 : decode cX6_addTarget 27 = .ok (.invokestatic 66, 3) := by decide +kernel
theorem dX6_addTarget_30 : decode cX6_addTarget 30 = .ok (.ifCond .eq 14, 3) := by decide +kernel
theorem dX6_addTarget_33 : decode cX6_addTarget 33 = .ok (.iload 5, 2) := by decide +kernel
theorem dX6_addTarget_35 : decode cX6_addTarget 35 = .ok (.iconst 5, 1) := by decide +kernel
theorem dX6_addTarget_36 : decode cX6_addTarget 36 = .ok (.bipush 120, 2) := by decide +kernel
theorem dX6_addTarget_38 : decode cX6_addTarget 38 = .ok (.invokestatic 66, 3) := by decide +kernel
theorem dX6_addTarget_41 : decode cX6_addTarget 41 = .ok (.ifCond .ne 9, 3) := by decide +kernel
theorem dX6_addTarget_44 : decode cX6_addTarget 44 = .ok (.aload_n 0, 1) := by decide +kernel
theorem dX6_addTarget_45 : decode cX6_addTarget 45 = .ok (.iconst 1, 1) := by decide +kernel
theorem dX6_addTarget_46 : decode cX6_addTarget 46 = .ok (.invokevirtual 149, 3) := by decide +kernel
theorem dX6_addTarget_49 : decode cX6_addTarget 49 = .ok (.ireturn, 1) := by decide +kernel
theorem dX6_addTarget_50 : decode cX6_addTarget 50 = .ok (.aload_n 0, 1) := by decide +kernel
theorem dX6_addTarget_51 : decode cX6_addTarget 51 = .ok (.getfield 63, 3) := by decide +kernel
theorem dX6_addTarget_54 : decode cX6_addTarget 54 = .ok (.bipush 20, 2) := by decide +kernel
theorem dX6_addTarget_56 : decode cX6_addTarget 56 = .ok (.if_icmp .ne 9, 3) := by decide +kernel
theorem dX6_addTarget_59 : decode cX6_addTarget 59 = .ok (.aload_n 0, 1) := by decide +kernel
theorem dX6_addTarget_60 : decode cX6_addTarget 60 = .ok (.iconst 2, 1) := by decide +kernel
theorem dX6_addTarget_61 : decode cX6_addTarget 61 = .ok (.invokevirtual 149, 3) := by decide +kernel
theorem dX6_addTarget_64 : decode cX6_addTarget 64 = .ok (.ireturn, 1) := by decide +kernel
theorem dX6_addTarget_65 : decode cX6_addTarget 65 = .ok (.aload_n 0, 1) := by decide +kernel
theorem dX6_addTarget_66 : decode cX6_addTarget 66 = .ok (.getfield 20, 3) := by decide +kernel
theorem dX6_addTarget_69 : decode cX6_addTarget 69 = .ok (.aload_n 0, 1) := by decide +kernel
theorem dX6_addTarget_70 : decode cX6_addTarget 70 = .ok (.getfield 63, 3) := by decide +kernel
theorem dX6_addTarget_73 : decode cX6_addTarget 73 = .ok (.iload_n 1, 1) := by decide +kernel
theorem dX6_addTarget_74 : decode cX6_addTarget 74 = .ok (.iastore, 1) := by decide +kernel
theorem dX6_addTarget_75 : decode cX6_addTarget 75 = .ok (.aload_n 0, 1) := by decide +kernel
theorem dX6_addTarget_76 : decode cX6_addTarget 76 = .ok (.getfield 24, 3) := by decide +kernel
theorem dX6_addTarget_79 : decode cX6_addTarget 79 = .ok (.aload_n 0, 1) := by decide +kernel
theorem dX6_addTarget_80 : decode cX6_addTarget 80 = .ok (.getfield 63, 3) := by decide +kernel
theorem dX6_addTarget_83 : decode cX6_addTarget 83 = .ok (.iload_n 2, 1) := by decide +kernel
theorem dX6_addTarget_84 : decode cX6_addTarget 84 = .ok (.iastore, 1) := by decide +kernel
theorem dX6_addTarget_85 : decode cX6_addTarget 85 = .ok (.aload_n 0, 1) := by decide +kernel
theorem dX6_addTarget_86 : decode cX6_addTarget 86 = .ok (.getfield 27, 3) := by decide +kernel
theorem dX6_addTarget_89 : decode cX6_addTarget 89 = .ok (.aload_n 0, 1) := by decide +kernel
theorem dX6_addTarget_90 : decode cX6_addTarget 90 = .ok (.getfield 63, 3) := by decide +kernel
theorem dX6_addTarget_93 : decode cX6_addTarget 93 = .ok (.iload_n 3, 1) := by decide +kernel
theorem dX6_addTarget_94 : decode cX6_addTarget 94 = .ok (.iastore, 1) := by decide +kernel
theorem dX6_addTarget_95 : decode cX6_addTarget 95 = .ok (.aload_n 0, 1) := by decide +kernel
theorem dX6_addTarget_96 : decode cX6_addTarget 96 = .ok (.getfield 30, 3) := by decide +kernel
theorem dX6_addTarget_99 : decode cX6_addTarget 99 = .ok (.aload_n 0, 1) := by decide +kernel
theorem dX6_addTarget_100 : decode cX6_addTarget 100 = .ok (.getfield 63, 3) := by decide +kernel
theorem dX6_addTarget_103 : decode cX6_addTarget 103 = .ok (.iload 4, 2) := by decide +kernel
theorem dX6_addTarget_105 : decode cX6_addTarget 105 = .ok (.iastore, 1) := by decide +kernel
theorem dX6_addTarget_106 : decode cX6_addTarget 106 = .ok (.aload_n 0, 1) := by decide +kernel
theorem dX6_addTarget_107 : decode cX6_addTarget 107 = .ok (.getfield 33, 3) := by decide +kernel
theorem dX6_addTarget_110 : decode cX6_addTarget 110 = .ok (.aload_n 0, 1) := by decide +kernel
theorem dX6_addTarget_111 : decode cX6_addTarget 111 = .ok (.getfield 63, 3) := by decide +kernel
theorem dX6_addTarget_114 : decode cX6_addTarget 114 = .ok (.sipush 300, 3) := by decide +kernel
theorem dX6_addTarget_117 : decode cX6_addTarget 117 = .ok (.iastore, 1) := by decide +kernel
theorem dX6_addTarget_118 : decode cX6_addTarget 118 = .ok (.aload_n 0, 1) := by decide +kernel
theorem dX6_addTarget_119 : decode cX6_addTarget 119 = .ok (.getfield 36, 3) := by decide +kernel
theorem dX6_addTarget_122 : decode cX6_addTarget 122 = .ok (.aload_n 0, 1) := by decide +kernel
theorem dX6_addTarget_123 : decode cX6_addTarget 123 = .ok (.getfield 63, 3) := by decide +kernel
theorem dX6_addTarget_126 : decode cX6_addTarget 126 = .ok (.iload 5, 2) := by decide +kernel
theorem dX6_addTarget_128 : decode cX6_addTarget 128 = .ok (.iastore, 1) := by decide +kernel
theorem dX6_addTarget_129 : decode cX6_addTarget 129 = .ok (.aload_n 0, 1) := by decide +kernel
theorem dX6_addTarget_130 : decode cX6_addTarget 130 = .ok (.getfield 39, 3) := by decide +kernel
theorem dX6_addTarget_133 : decode cX6_addTarget 133 = .ok (.aload_n 0, 1) := by decide +kernel
theorem dX6_addTarget_134 : decode cX6_addTarget 134 = .ok (.getfield 63, 3) := by decide +kernel
theorem dX6_addTarget_137 : decode cX6_addTarget 137 = .ok (.iconst 1, 1) := by decide +kernel
theorem dX6_addTarget_138 : decode cX6_addTarget 138 = .ok (.iastore, 1) := by decide +kernel
theorem dX6_addTarget_139 : decode cX6_addTarget 139 = .ok (.aload_n 0, 1) := by decide +kernel
theorem dX6_addTarget_140 : decode cX6_addTarget 140 = .ok (.getfield 42, 3) := by decide +kernel
theorem dX6_addTarget_143 : decode cX6_addTarget 143 = .ok (.aload_n 0, 1) := by decide +kernel
theorem dX6_addTarget_144 : decode cX6_addTarget 144 = .ok (.getfield 63, 3) := by decide +kernel
theorem dX6_addTarget_147 : decode cX6_addTarget 147 = .ok (.iconst 1, 1) := by decide +kernel
theorem dX6_addTarget_148 : decode cX6_addTarget 148 = .ok (.iastore, 1) := by decide +kernel
theorem dX6_addTarget_149 : decode cX6_addTarget 149 = .ok (.aload_n 0, 1) := by decide +kernel
theorem dX6_addTarget_150 : decode cX6_addTarget 150 = .ok (.getfield 48, 3) := by decide +kernel
theorem dX6_addTarget_153 : decode cX6_addTarget 153 = .ok (.aload_n 0, 1) := by decide +kernel
theorem dX6_addTarget_154 : decode cX6_addTarget 154 = .ok (.getfield 63, 3) := by decide +kernel
theorem dX6_addTarget_157 : decode cX6_addTarget 157 = .ok (.iconst (-1), 1) := by decide +kernel
theorem dX6_addTarget_158 : decode cX6_addTarget 158 = .ok (.iastore, 1) := by decide +kernel
theorem dX6_addTarget_159 : decode cX6_addTarget 159 = .ok (.aload_n 0, 1) := by decide +kernel
theorem dX6_addTarget_160 : decode cX6_addTarget 160 = .ok (.dup, 1) := by decide +kernel
theorem dX6_addTarget_161 : decode cX6_addTarget 161 = .ok (.getfield 63, 3) := by decide +kernel
theorem dX6_addTarget_164 : decode cX6_addTarget 164 = .ok (.iconst 1, 1) := by decide +kernel
theorem dX6_addTarget_165 : decode cX6_addTarget 165 = .ok (.iadd, 1) := by decide +kernel
theorem dX6_addTarget_166 : decode cX6_addTarget 166 = .ok (.putfield 63, 3) := by decide +kernel
theorem dX6_addTarget_169 : decode cX6_addTarget 169 = .ok (.aload_n 0, 1) := by decide +kernel
theorem dX6_addTarget_170 : decode cX6_addTarget 170 = .ok (.iconst 0, 1) := by decide +kernel
theorem dX6_addTarget_171 : decode cX6_addTarget 171 = .ok (.putfield 123, 3) := by decide +kernel
theorem dX6_addTarget_174 : decode cX6_addTarget 174 = .ok (.aload_n 0, 1) := by decide +kernel
theorem dX6_addTarget_175 : decode cX6_addTarget 175 = .ok (.getfield 63, 3) := by decide +kernel
theorem dX6_addTarget_178 : decode cX6_addTarget 178 = .ok (.iconst 1, 1) := by decide +kernel
theorem dX6_addTarget_179 : decode cX6_addTarget 179 = .ok (.isub, 1) := by decide +kernel
theorem dX6_addTarget_180 : decode cX6_addTarget 180 = .ok (.ireturn, 1) := by decide +kernel
theorem dX6_want_0 : decode cX6_want 0 = .ok (.aload_n 0, 1) := by decide +kernel
theorem dX6_want_1 : decode cX6_want 1 = .ok (.iconst 0, 1) := by decide +kernel
theorem dX6_want_2 : decode cX6_want 2 = .ok (.putfield 60, 3) := by decide +kernel
theorem dX6_want_5 : decode cX6_want 5 = .ok (.aload_n 0, 1) := by decide +kernel
theorem dX6_want_6 : decode cX6_want 6 = .ok (.iload_n 1, 1) := by decide +kernel
theorem dX6_want_7 : decode cX6_want 7 = .ok (.invokevirtual 162, 3) := by decide +kernel
theorem dX6_want_10 : decode cX6_want 10 = .ok (.ifCond .ne 9, 3) := by decide +kernel
theorem dX6_want_13 : decode cX6_want 13 = .ok (.aload_n 0, 1) := by decide +kernel
theorem dX6_want_14 : decode cX6_want 14 = .ok (.iconst 1, 1) := by decide +kernel
theorem dX6_want_15 : decode cX6_want 15 = .ok (.invokevirtual 149, 3) := by decide +kernel
theorem dX6_want_18 : decode cX6_want 18 = .ok (.ireturn, 1) := by decide +kernel
theorem dX6_want_19 : decode cX6_want 19 = .ok (.iload_n 2, 1) := by decide +kernel
theorem dX6_want_20 : decode cX6_want 20 = .ok (.sipush (-1000), 3) := by decide +kernel
theorem dX6_want_23 : decode cX6_want 23 = .ok (.sipush 1000, 3) := by decide +kernel
theorem dX6_want_26 : decode cX6_want 26 = .ok (.invokestatic 66, 3) := by decide +kernel
theorem dX6_want_29 : decode cX6_want 29 = .ok (.ifCond .eq 24, 3) := by decide +kernel
theorem dX6_want_32 : decode cX6_want 32 = .ok (.iload_n 3, 1) := by decide +kernel
theorem dX6_want_33 : decode cX6_want 33 = .ok (.iconst 1, 1) := by decide +kernel
theorem dX6_want_34 : decode cX6_want 34 = .ok (.bipush 10, 2) := by decide +kernel
theorem dX6_want_36 : decode cX6_want 36 = .ok (.invokestatic 66, 3) := by decide +kernel
theorem dX6_want_39 : decode cX6_want 39 = .ok (.ifCond .eq 14, 3) := by decide +kernel
theorem dX6_want_42 : decode cX6_want 42 = .ok (.iload 4, 2) := by decide +kernel
theorem dX6_want_44 : decode cX6_want 44 = .ok (.iconst 1, 1) := by decide +kernel
theorem dX6_want_45 : decode cX6_want 45 = .ok (.bipush 20, 2) := by decide +kernel
theorem dX6_want_47 : decode cX6_want 47 = .ok (.invokestatic 66, 3) := by decide +kernel
theorem dX6_want_50 : decode cX6_want 50 = .ok (.ifCond .ne 9, 3) := by decide +kernel
theorem dX6_want_53 : decode cX6_want 53 = .ok (.aload_n 0, 1) := by decide +kernel
theorem dX6_want_54 : decode cX6_want 54 = .ok (.iconst 2, 1) := by decide +kernel
theorem dX6_want_55 : decode cX6_want 55 = .ok (.invokevirtual 149, 3) := by decide +kernel
theorem dX6_want_58 : decode cX6_want 58 = .ok (.ireturn, 1) := by decide +kernel
theorem dX6_want_59 : decode cX6_want 59 = .ok (.aload_n 0, 1) := by decide +kernel
theorem dX6_want_60 : decode cX6_want 60 = .ok (.getfield 39, 3) := by decide +kernel
theorem dX6_want_63 : decode cX6_want 63 = .ok (.iload_n 1, 1) := by decide +kernel
theorem dX6_want_64 : decode cX6_want 64 = .ok (.iaload, 1) := by decide +kernel
theorem dX6_want_65 : decode cX6_want 65 = .ok (.istore 5, 2) := by decide +kernel
theorem dX6_want_67 : decode cX6_want 67 = .ok (.aload_n 0, 1) := by decide +kernel
theorem dX6_want_68 : decode cX6_want 68 = .ok (.getfield 33, 3) := by decide +kernel
theorem dX6_want_71 : decode cX6_want 71 = .ok (.iload_n 1, 1) := by decide +kernel
theorem dX6_want_72 : decode cX6_want 72 = .ok (.iload_n 2, 1) := by decide +kernel
theorem dX6_want_73 : decode cX6_want 73 = .ok (.iastore, 1) := by decide +kernel
theorem dX6_want_74 : decode cX6_want 74 = .ok (.aload_n 0, 1) := by decide +kernel
theorem dX6_want_75 : decode cX6_want 75 = .ok (.getfield 39, 3) := by decide +kernel
theorem dX6_want_78 : decode cX6_want 78 = .ok (.iload_n 1, 1) := by decide +kernel
theorem dX6_want_79 : decode cX6_want 79 = .ok (.iload_n 3, 1) := by decide +kernel
theorem dX6_want_80 : decode cX6_want 80 = .ok (.iastore, 1) := by decide +kernel
theorem dX6_want_81 : decode cX6_want 81 = .ok (.aload_n 0, 1) := by decide +kernel
theorem dX6_want_82 : decode cX6_want 82 = .ok (.getfield 42, 3) := by decide +kernel
theorem dX6_want_85 : decode cX6_want 85 = .ok (.iload_n 1, 1) := by decide +kernel
theorem dX6_want_86 : decode cX6_want 86 = .ok (.iload 4, 2) := by decide +kernel
theorem dX6_want_88 : decode cX6_want 88 = .ok (.iastore, 1) := by decide +kernel
theorem dX6_want_89 : decode cX6_want 89 = .ok (.aload_n 0, 1) := by decide +kernel
theorem dX6_want_90 : decode cX6_want 90 = .ok (.iconst 0, 1) := by decide +kernel
theorem dX6_want_91 : decode cX6_want 91 = .ok (.putfield 123, 3) := by decide +kernel
theorem dX6_want_94 : decode cX6_want 94 = .ok (.iload 5, 2) := by decide +kernel
theorem dX6_want_96 : decode cX6_want 96 = .ok (.ireturn, 1) := by decide +kernel
theorem dX6_told_0 : decode cX6_told 0 = .ok (.bipush 10, 2) := by decide +kernel
theorem dX6_told_2 : decode cX6_told 2 = .ok (.newarray .int, 2) := by decide +kernel
theorem dX6_told_4 : decode cX6_told 4 = .ok (.dup, 1) := by decide +kernel
theorem dX6_told_5 : decode cX6_told 5 = .ok (.iconst 0, 1) := by decide +kernel
theorem dX6_told_6 : decode cX6_told 6 = .ok (.aload_n 0, 1) := by decide +kernel
theorem dX6_told_7 : decode cX6_told 7 = .ok (.getfield 20, 3) := by decide +kernel
theorem dX6_told_10 : decode cX6_told 10 = .ok (.iload_n 1, 1) := by decide +kernel
theorem dX6_told_11 : decode cX6_told 11 = .ok (.iaload, 1) := by decide +kernel
theorem dX6_told_12 : decode cX6_told 12 = .ok (.iastore, 1) := by decide +kernel
theorem dX6_told_13 : decode cX6_told 13 = .ok (.dup, 1) := by decide +kernel
theorem dX6_told_14 : decode cX6_told 14 = .ok (.iconst 1, 1) := by decide +kernel
theorem dX6_told_15 : decode cX6_told 15 = .ok (.aload_n 0, 1) := by decide +kernel
theorem dX6_told_16 : decode cX6_told 16 = .ok (.getfield 24, 3) := by decide +kernel
theorem dX6_told_19 : decode cX6_told 19 = .ok (.iload_n 1, 1) := by decide +kernel
theorem dX6_told_20 : decode cX6_told 20 = .ok (.iaload, 1) := by decide +kernel
theorem dX6_told_21 : decode cX6_told 21 = .ok (.iastore, 1) := by decide +kernel
theorem dX6_told_22 : decode cX6_told 22 = .ok (.dup, 1) := by decide +kernel
theorem dX6_told_23 : decode cX6_told 23 = .ok (.iconst 2, 1) := by decide +kernel
theorem dX6_told_24 : decode cX6_told 24 = .ok (.aload_n 0, 1) := by decide +kernel
theorem dX6_told_25 : decode cX6_told 25 = .ok (.getfield 27, 3) := by decide +kernel
theorem dX6_told_28 : decode cX6_told 28 = .ok (.iload_n 1, 1) := by decide +kernel
theorem dX6_told_29 : decode cX6_told 29 = .ok (.iaload, 1) := by decide +kernel
theorem dX6_told_30 : decode cX6_told 30 = .ok (.iastore, 1) := by decide +kernel
theorem dX6_told_31 : decode cX6_told 31 = .ok (.dup, 1) := by decide +kernel
theorem dX6_told_32 : decode cX6_told 32 = .ok (.iconst 3, 1) := by decide +kernel
theorem dX6_told_33 : decode cX6_told 33 = .ok (.aload_n 0, 1) := by decide +kernel
theorem dX6_told_34 : decode cX6_told 34 = .ok (.getfield 30, 3) := by decide +kernel
theorem dX6_told_37 : decode cX6_told 37 = .ok (.iload_n 1, 1) := by decide +kernel
theorem dX6_told_38 : decode cX6_told 38 = .ok (.iaload, 1) := by decide +kernel
theorem dX6_told_39 : decode cX6_told 39 = .ok (.iastore, 1) := by decide +kernel
theorem dX6_told_40 : decode cX6_told 40 = .ok (.dup, 1) := by decide +kernel
theorem dX6_told_41 : decode cX6_told 41 = .ok (.iconst 4, 1) := by decide +kernel
theorem dX6_told_42 : decode cX6_told 42 = .ok (.aload_n 0, 1) := by decide +kernel
theorem dX6_told_43 : decode cX6_told 43 = .ok (.getfield 33, 3) := by decide +kernel
theorem dX6_told_46 : decode cX6_told 46 = .ok (.iload_n 1, 1) := by decide +kernel
theorem dX6_told_47 : decode cX6_told 47 = .ok (.iaload, 1) := by decide +kernel
theorem dX6_told_48 : decode cX6_told 48 = .ok (.iastore, 1) := by decide +kernel
theorem dX6_told_49 : decode cX6_told 49 = .ok (.dup, 1) := by decide +kernel
theorem dX6_told_50 : decode cX6_told 50 = .ok (.iconst 5, 1) := by decide +kernel
theorem dX6_told_51 : decode cX6_told 51 = .ok (.aload_n 0, 1) := by decide +kernel
theorem dX6_told_52 : decode cX6_told 52 = .ok (.getfield 36, 3) := by decide +kernel
theorem dX6_told_55 : decode cX6_told 55 = .ok (.iload_n 1, 1) := by decide +kernel
theorem dX6_told_56 : decode cX6_told 56 = .ok (.iaload, 1) := by decide +kernel
theorem dX6_told_57 : decode cX6_told 57 = .ok (.iastore, 1) := by decide +kernel
theorem dX6_told_58 : decode cX6_told 58 = .ok (.dup, 1) := by decide +kernel
theorem dX6_told_59 : decode cX6_told 59 = .ok (.bipush 6, 2) := by decide +kernel
theorem dX6_told_61 : decode cX6_told 61 = .ok (.aload_n 0, 1) := by decide +kernel
theorem dX6_told_62 : decode cX6_told 62 = .ok (.getfield 39, 3) := by decide +kernel
theorem dX6_told_65 : decode cX6_told 65 = .ok (.iload_n 1, 1) := by decide +kernel
theorem dX6_told_66 : decode cX6_told 66 = .ok (.iaload, 1) := by decide +kernel
theorem dX6_told_67 : decode cX6_told 67 = .ok (.iastore, 1) := by decide +kernel
theorem dX6_told_68 : decode cX6_told 68 = .ok (.dup, 1) := by decide +kernel
theorem dX6_told_69 : decode cX6_told 69 = .ok (.bipush 7, 2) := by decide +kernel
theorem dX6_told_71 : decode cX6_told 71 = .ok (.aload_n 0, 1) := by decide +kernel
theorem dX6_told_72 : decode cX6_told 72 = .ok (.getfield 42, 3) := by decide +kernel
theorem dX6_told_75 : decode cX6_told 75 = .ok (.iload_n 1, 1) := by decide +kernel
theorem dX6_told_76 : decode cX6_told 76 = .ok (.iaload, 1) := by decide +kernel
theorem dX6_told_77 : decode cX6_told 77 = .ok (.iastore, 1) := by decide +kernel
theorem dX6_told_78 : decode cX6_told 78 = .ok (.dup, 1) := by decide +kernel
theorem dX6_told_79 : decode cX6_told 79 = .ok (.bipush 8, 2) := by decide +kernel
theorem dX6_told_81 : decode cX6_told 81 = .ok (.aload_n 0, 1) := by decide +kernel
theorem dX6_told_82 : decode cX6_told 82 = .ok (.getfield 45, 3) := by decide +kernel
theorem dX6_told_85 : decode cX6_told 85 = .ok (.iload_n 1, 1) := by decide +kernel
theorem dX6_told_86 : decode cX6_told 86 = .ok (.iaload, 1) := by decide +kernel
theorem dX6_told_87 : decode cX6_told 87 = .ok (.iastore, 1) := by decide +kernel
theorem dX6_told_88 : decode cX6_told 88 = .ok (.dup, 1) := by decide +kernel
theorem dX6_told_89 : decode cX6_told 89 = .ok (.bipush 9, 2) := by decide +kernel
theorem dX6_told_91 : decode cX6_told 91 = .ok (.aload_n 0, 1) := by decide +kernel
theorem dX6_told_92 : decode cX6_told 92 = .ok (.getfield 48, 3) := by decide +kernel
theorem dX6_told_95 : decode cX6_told 95 = .ok (.iload_n 1, 1) := by decide +kernel
theorem dX6_told_96 : decode cX6_told 96 = .ok (.iaload, 1) := by decide +kernel
theorem dX6_told_97 : decode cX6_told 97 = .ok (.iastore, 1) := by decide +kernel
theorem dX6_told_98 : decode cX6_told 98 = .ok (.astore_n 3, 1) := by decide +kernel
theorem dX6_told_99 : decode cX6_told 99 = .ok (.aload_n 3, 1) := by decide +kernel
theorem dX6_told_100 : decode cX6_told 100 = .ok (.iload_n 2, 1) := by decide +kernel
theorem dX6_told_101 : decode cX6_told 101 = .ok (.iaload, 1) := by decide +kernel
theorem dX6_told_102 : decode cX6_told 102 = .ok (.ireturn, 1) := by decide +kernel
theorem dX6_target_0 : decode cX6_target 0 = .ok (.aload_n 0, 1) := by decide +kernel
theorem dX6_target_1 : decode cX6_target 1 = .ok (.iconst 0, 1) := by decide +kernel
theorem dX6_target_2 : decode cX6_target 2 = .ok (.putfield 60, 3) := by decide +kernel
theorem dX6_target_5 : decode cX6_target 5 = .ok (.aload_n 0, 1) := by decide +kernel
theorem dX6_target_6 : decode cX6_target 6 = .ok (.iload_n 1, 1) := by decide +kernel
theorem dX6_target_7 : decode cX6_target 7 = .ok (.invokevirtual 162, 3) := by decide +kernel
theorem dX6_target_10 : decode cX6_target 10 = .ok (.ifCond .eq 22, 3) := by decide +kernel
theorem dX6_target_13 : decode cX6_target 13 = .ok (.iload_n 2, 1) := by decide +kernel
theorem dX6_target_14 : decode cX6_target 14 = .ok (.iconst 0, 1) := by decide +kernel
theorem dX6_target_15 : decode cX6_target 15 = .ok (.bipush 9, 2) := by decide +kernel
theorem dX6_target_17 : decode cX6_target 17 = .ok (.invokestatic 66, 3) := by decide +kernel
theorem dX6_target_20 : decode cX6_target 20 = .ok (.ifCond .eq 12, 3) := by decide +kernel
theorem dX6_target_23 : decode cX6_target 23 = .ok (.aload_n 0, 1) := by decide +kernel
theorem dX6_target_24 : decode cX6_target 24 = .ok (.iload_n 1, 1) := by decide +kernel
theorem dX6_target_25 : decode cX6_target 25 = .ok (.iload_n 2, 1) := by decide +kernel
theorem dX6_target_26 : decode cX6_target 26 = .ok (.invokevirtual 165, 3) := by decide +kernel
theorem dX6_target_29 : decode cX6_target 29 = .ok (.goto 8, 3) := by decide +kernel
theorem dX6_target_32 : decode cX6_target 32 = .ok (.aload_n 0, 1) := by decide +kernel
theorem dX6_target_33 : decode cX6_target 33 = .ok (.iconst 1, 1) := by decide +kernel
theorem dX6_target_34 : decode cX6_target 34 = .ok (.invokevirtual 149, 3) := by decide +kernel
theorem dX6_target_37 : decode cX6_target 37 = .ok (.ireturn, 1) := by decide +kernel
theorem dX6_height_0 : decode cX6_height 0 = .ok (.aload_n 0, 1) := by decide +kernel
theorem dX6_height_1 : decode cX6_height 1 = .ok (.iconst 0, 1) := by decide +kernel
theorem dX6_height_2 : decode cX6_height 2 = .ok (.putfield 60, 3) := by decide +kernel
theorem dX6_height_5 : decode cX6_height 5 = .ok (.aload_n 0, 1) := by decide +kernel
theorem dX6_height_6 : decode cX6_height 6 = .ok (.iload_n 1, 1) := by decide +kernel
theorem dX6_height_7 : decode cX6_height 7 = .ok (.invokevirtual 162, 3) := by decide +kernel
theorem dX6_height_10 : decode cX6_height 10 = .ok (.ifCond .ne 9, 3) := by decide +kernel
theorem dX6_height_13 : decode cX6_height 13 = .ok (.aload_n 0, 1) := by decide +kernel
theorem dX6_height_14 : decode cX6_height 14 = .ok (.iconst 1, 1) := by decide +kernel
theorem dX6_height_15 : decode cX6_height 15 = .ok (.invokevirtual 149, 3) := by decide +kernel
theorem dX6_height_18 : decode cX6_height 18 = .ok (.ireturn, 1) := by decide +kernel
theorem dX6_height_19 : decode cX6_height 19 = .ok (.aload_n 0, 1) := by decide +kernel
theorem dX6_height_20 : decode cX6_height 20 = .ok (.iload_n 2, 1) := by decide +kernel
theorem dX6_height_21 : decode cX6_height 21 = .ok (.invokevirtual 156, 3) := by decide +kernel
theorem dX6_height_24 : decode cX6_height 24 = .ok (.ifCond .eq 23, 3) := by decide +kernel
theorem dX6_height_27 : decode cX6_height 27 = .ok (.aload_n 0, 1) := by decide +kernel
theorem dX6_height_28 : decode cX6_height 28 = .ok (.aload_n 0, 1) := by decide +kernel
theorem dX6_height_29 : decode cX6_height 29 = .ok (.getfield 20, 3) := by decide +kernel
theorem dX6_height_32 : decode cX6_height 32 = .ok (.iload_n 1, 1) := by decide +kernel
theorem dX6_height_33 : decode cX6_height 33 = .ok (.iaload, 1) := by decide +kernel
theorem dX6_height_34 : decode cX6_height 34 = .ok (.aload_n 0, 1) := by decide +kernel
theorem dX6_height_35 : decode cX6_height 35 = .ok (.getfield 24, 3) := by decide +kernel
theorem dX6_height_38 : decode cX6_height 38 = .ok (.iload_n 1, 1) := by decide +kernel
theorem dX6_height_39 : decode cX6_height 39 = .ok (.iaload, 1) := by decide +kernel
theorem dX6_height_40 : decode cX6_height 40 = .ok (.iload_n 2, 1) := by decide +kernel
theorem dX6_height_41 : decode cX6_height 41 = .ok (.invokevirtual 110, 3) := by decide +kernel
theorem dX6_height_44 : decode cX6_height 44 = .ok (.goto 8, 3) := by decide +kernel
theorem dX6_height_47 : decode cX6_height 47 = .ok (.aload_n 0, 1) := by decide +kernel
theorem dX6_height_48 : decode cX6_height 48 = .ok (.iconst 2, 1) := by decide +kernel
theorem dX6_height_49 : decode cX6_height 49 = .ok (.invokevirtual 149, 3) := by decide +kernel
theorem dX6_height_52 : decode cX6_height 52 = .ok (.ireturn, 1) := by decide +kernel
theorem dX6_nearness_0 : decode cX6_nearness 0 = .ok (.aload_n 0, 1) := by decide +kernel
theorem dX6_nearness_1 : decode cX6_nearness 1 = .ok (.iconst 0, 1) := by decide +kernel
theorem dX6_nearness_2 : decode cX6_nearness 2 = .ok (.putfield 60, 3) := by decide +kernel
theorem dX6_nearness_5 : decode cX6_nearness 5 = .ok (.aload_n 0, 1) := by decide +kernel
theorem dX6_nearness_6 : decode cX6_nearness 6 = .ok (.iload_n 1, 1) := by decide +kernel
theorem dX6_nearness_7 : decode cX6_nearness 7 = .ok (.invokevirtual 162, 3) := by decide +kernel
theorem dX6_nearness_10 : decode cX6_nearness 10 = .ok (.ifCond .eq 41, 3) := by decide +kernel
theorem dX6_nearness_13 : decode cX6_nearness 13 = .ok (.aload_n 0, 1) := by decide +kernel
theorem dX6_nearness_14 : decode cX6_nearness 14 = .ok (.iload_n 2, 1) := by decide +kernel
theorem dX6_nearness_15 : decode cX6_nearness 15 = .ok (.invokevirtual 162, 3) := by decide +kernel
theorem dX6_nearness_18 : decode cX6_nearness 18 = .ok (.ifCond .eq 33, 3) := by decide +kernel
theorem dX6_nearness_21 : decode cX6_nearness 21 = .ok (.aload_n 0, 1) := by decide +kernel
theorem dX6_nearness_22 : decode cX6_nearness 22 = .ok (.getfield 20, 3) := by decide +kernel
theorem dX6_nearness_25 : decode cX6_nearness 25 = .ok (.iload_n 1, 1) := by decide +kernel
theorem dX6_nearness_26 : decode cX6_nearness 26 = .ok (.iaload, 1) := by decide +kernel
theorem dX6_nearness_27 : decode cX6_nearness 27 = .ok (.aload_n 0, 1) := by decide +kernel
theorem dX6_nearness_28 : decode cX6_nearness 28 = .ok (.getfield 24, 3) := by decide +kernel
theorem dX6_nearness_31 : decode cX6_nearness 31 = .ok (.iload_n 1, 1) := by decide +kernel
theorem dX6_nearness_32 : decode cX6_nearness 32 = .ok (.iaload, 1) := by decide +kernel
theorem dX6_nearness_33 : decode cX6_nearness 33 = .ok (.aload_n 0, 1) := by decide +kernel
theorem dX6_nearness_34 : decode cX6_nearness 34 = .ok (.getfield 20, 3) := by decide +kernel
theorem dX6_nearness_37 : decode cX6_nearness 37 = .ok (.iload_n 2, 1) := by decide +kernel
theorem dX6_nearness_38 : decode cX6_nearness 38 = .ok (.iaload, 1) := by decide +kernel
theorem dX6_nearness_39 : decode cX6_nearness 39 = .ok (.aload_n 0, 1) := by decide +kernel
theorem dX6_nearness_40 : decode cX6_nearness 40 = .ok (.getfield 24, 3) := by decide +kernel
theorem dX6_nearness_43 : decode cX6_nearness 43 = .ok (.iload_n 2, 1) := by decide +kernel
theorem dX6_nearness_44 : decode cX6_nearness 44 = .ok (.iaload, 1) := by decide +kernel
theorem dX6_nearness_45 : decode cX6_nearness 45 = .ok (.invokestatic 106, 3) := by decide +kernel
theorem dX6_nearness_48 : decode cX6_nearness 48 = .ok (.goto 8, 3) := by decide +kernel
theorem dX6_nearness_51 : decode cX6_nearness 51 = .ok (.aload_n 0, 1) := by decide +kernel
theorem dX6_nearness_52 : decode cX6_nearness 52 = .ok (.iconst 1, 1) := by decide +kernel
theorem dX6_nearness_53 : decode cX6_nearness 53 = .ok (.invokevirtual 149, 3) := by decide +kernel
theorem dX6_nearness_56 : decode cX6_nearness 56 = .ok (.ireturn, 1) := by decide +kernel
theorem dX6_moonNearness_0 : decode cX6_moonNearness 0 = .ok (.aload_n 0, 1) := by decide +kernel
theorem dX6_moonNearness_1 : decode cX6_moonNearness 1 = .ok (.iconst 0, 1) := by decide +kernel
theorem dX6_moonNearness_2 : decode cX6_moonNearness 2 = .ok (.putfield 60, 3) := by decide +kernel
theorem dX6_moonNearness_5 : decode cX6_moonNearness 5 = .ok (.aload_n 0, 1) := by decide +kernel
theorem dX6_moonNearness_6 : decode cX6_moonNearness 6 = .ok (.iload_n 1, 1) := by decide +kernel
theorem dX6_moonNearness_7 : decode cX6_moonNearness 7 = .ok (.invokevirtual 162, 3) := by decide +kernel
theorem dX6_moonNearness_10 : decode cX6_moonNearness 10 = .ok (.ifCond .eq 11, 3) := by decide +kernel
theorem dX6_moonNearness_13 : decode cX6_moonNearness 13 = .ok (.aload_n 0, 1) := by decide +kernel
theorem dX6_moonNearness_14 : decode cX6_moonNearness 14 = .ok (.iload_n 1, 1) := by decide +kernel
theorem dX6_moonNearness_15 : decode cX6_moonNearness 15 = .ok (.invokevirtual 116, 3) := by decide +kernel
theorem dX6_moonNearness_18 : decode cX6_moonNearness 18 = .ok (.goto 8, 3) := by decide +kernel
theorem dX6_moonNearness_21 : decode cX6_moonNearness 21 = .ok (.aload_n 0, 1) := by decide +kernel
theorem dX6_moonNearness_22 : decode cX6_moonNearness 22 = .ok (.iconst 1, 1) := by decide +kernel
theorem dX6_moonNearness_23 : decode cX6_moonNearness 23 = .ok (.invokevirtual 149, 3) := by decide +kernel
theorem dX6_moonNearness_26 : decode cX6_moonNearness 26 = .ok (.ireturn, 1) := by decide +kernel
theorem dX6_moonHeight_0 : decode cX6_moonHeight 0 = .ok (.aload_n 0, 1) := by decide +kernel
theorem dX6_moonHeight_1 : decode cX6_moonHeight 1 = .ok (.iconst 0, 1) := by decide +kernel
theorem dX6_moonHeight_2 : decode cX6_moonHeight 2 = .ok (.putfield 60, 3) := by decide +kernel
theorem dX6_moonHeight_5 : decode cX6_moonHeight 5 = .ok (.aload_n 0, 1) := by decide +kernel
theorem dX6_moonHeight_6 : decode cX6_moonHeight 6 = .ok (.iload_n 1, 1) := by decide +kernel
theorem dX6_moonHeight_7 : decode cX6_moonHeight 7 = .ok (.invokevirtual 156, 3) := by decide +kernel
theorem dX6_moonHeight_10 : decode cX6_moonHeight 10 = .ok (.ifCond .eq 11, 3) := by decide +kernel
theorem dX6_moonHeight_13 : decode cX6_moonHeight 13 = .ok (.aload_n 0, 1) := by decide +kernel
theorem dX6_moonHeight_14 : decode cX6_moonHeight 14 = .ok (.iload_n 1, 1) := by decide +kernel
theorem dX6_moonHeight_15 : decode cX6_moonHeight 15 = .ok (.invokevirtual 113, 3) := by decide +kernel
theorem dX6_moonHeight_18 : decode cX6_moonHeight 18 = .ok (.goto 8, 3) := by decide +kernel
theorem dX6_moonHeight_21 : decode cX6_moonHeight 21 = .ok (.aload_n 0, 1) := by decide +kernel
theorem dX6_moonHeight_22 : decode cX6_moonHeight 22 = .ok (.iconst 1, 1) := by decide +kernel
theorem dX6_moonHeight_23 : decode cX6_moonHeight 23 = .ok (.invokevirtual 149, 3) := by decide +kernel
theorem dX6_moonHeight_26 : decode cX6_moonHeight 26 = .ok (.ireturn, 1) := by decide +kernel
theorem dX6_reason_0 : decode cX6_reason 0 = .ok (.aload_n 0, 1) := by decide +kernel
theorem dX6_reason_1 : decode cX6_reason 1 = .ok (.iconst 0, 1) := by decide +kernel
theorem dX6_reason_2 : decode cX6_reason 2 = .ok (.putfield 60, 3) := by decide +kernel
theorem dX6_reason_5 : decode cX6_reason 5 = .ok (.aload_n 0, 1) := by decide +kernel
theorem dX6_reason_6 : decode cX6_reason 6 = .ok (.iload_n 1, 1) := by decide +kernel
theorem dX6_reason_7 : decode cX6_reason 7 = .ok (.invokevirtual 162, 3) := by decide +kernel
theorem dX6_reason_10 : decode cX6_reason 10 = .ok (.ifCond .ne 9, 3) := by decide +kernel
theorem dX6_reason_13 : decode cX6_reason 13 = .ok (.aload_n 0, 1) := by decide +kernel
theorem dX6_reason_14 : decode cX6_reason 14 = .ok (.iconst 1, 1) := by decide +kernel
theorem dX6_reason_15 : decode cX6_reason 15 = .ok (.invokevirtual 149, 3) := by decide +kernel
theorem dX6_reason_18 : decode cX6_reason 18 = .ok (.ireturn, 1) := by decide +kernel
theorem dX6_reason_19 : decode cX6_reason 19 = .ok (.aload_n 0, 1) := by decide +kernel
theorem dX6_reason_20 : decode cX6_reason 20 = .ok (.iload_n 2, 1) := by decide +kernel
theorem dX6_reason_21 : decode cX6_reason 21 = .ok (.invokevirtual 156, 3) := by decide +kernel
theorem dX6_reason_24 : decode cX6_reason 24 = .ok (.ifCond .eq 12, 3) := by decide +kernel
theorem dX6_reason_27 : decode cX6_reason 27 = .ok (.aload_n 0, 1) := by decide +kernel
theorem dX6_reason_28 : decode cX6_reason 28 = .ok (.iload_n 1, 1) := by decide +kernel
theorem dX6_reason_29 : decode cX6_reason 29 = .ok (.iload_n 2, 1) := by decide +kernel
theorem dX6_reason_30 : decode cX6_reason 30 = .ok (.invokevirtual 127, 3) := by decide +kernel
theorem dX6_reason_33 : decode cX6_reason 33 = .ok (.goto 8, 3) := by decide +kernel
theorem dX6_reason_36 : decode cX6_reason 36 = .ok (.aload_n 0, 1) := by decide +kernel
theorem dX6_reason_37 : decode cX6_reason 37 = .ok (.iconst 2, 1) := by decide +kernel
theorem dX6_reason_38 : decode cX6_reason 38 = .ok (.invokevirtual 149, 3) := by decide +kernel
theorem dX6_reason_41 : decode cX6_reason 41 = .ok (.ireturn, 1) := by decide +kernel
theorem dX6_windowOf_0 : decode cX6_windowOf 0 = .ok (.aload_n 0, 1) := by decide +kernel
theorem dX6_windowOf_1 : decode cX6_windowOf 1 = .ok (.invokevirtual 168, 3) := by decide +kernel
theorem dX6_windowOf_4 : decode cX6_windowOf 4 = .ok (.sipush 900, 3) := by decide +kernel
theorem dX6_windowOf_7 : decode cX6_windowOf 7 = .ok (.iload_n 1, 1) := by decide +kernel
theorem dX6_windowOf_8 : decode cX6_windowOf 8 = .ok (.imul, 1) := by decide +kernel
theorem dX6_windowOf_9 : decode cX6_windowOf 9 = .ok (.istore_n 3, 1) := by decide +kernel
theorem dX6_windowOf_10 : decode cX6_windowOf 10 = .ok (.iconst (-1), 1) := by decide +kernel
theorem dX6_windowOf_11 : decode cX6_windowOf 11 = .ok (.istore 4, 2) := by decide +kernel
theorem dX6_windowOf_13 : decode cX6_windowOf 13 = .ok (.iconst (-1), 1) := by decide +kernel
theorem dX6_windowOf_14 : decode cX6_windowOf 14 = .ok (.istore 5, 2) := by decide +kernel
theorem dX6_windowOf_16 : decode cX6_windowOf 16 = .ok (.iconst 0, 1) := by decide +kernel
theorem dX6_windowOf_17 : decode cX6_windowOf 17 = .ok (.istore 6, 2) := by decide +kernel
theorem dX6_windowOf_19 : decode cX6_windowOf 19 = .ok (.iconst 0, 1) := by decide +kernel
theorem dX6_windowOf_20 : decode cX6_windowOf 20 = .ok (.istore 7, 2) := by decide +kernel
theorem dX6_windowOf_22 : decode cX6_windowOf 22 = .ok (.iconst (-1), 1) := by decide +kernel
theorem dX6_windowOf_23 : decode cX6_windowOf 23 = .ok (.istore 8, 2) := by decide +kernel
theorem dX6_windowOf_25 : decode cX6_windowOf 25 = .ok (.iconst 0, 1) := by decide +kernel
theorem dX6_windowOf_26 : decode cX6_windowOf 26 = .ok (.istore 9, 2) := by decide +kernel
theorem dX6_windowOf_28 : decode cX6_windowOf 28 = .ok (.iload 9, 2) := by decide +kernel
theorem dX6_windowOf_30 : decode cX6_windowOf 30 = .ok (.aload_n 0, 1) := by decide +kernel
theorem dX6_windowOf_31 : decode cX6_windowOf 31 = .ok (.getfield 7, 3) := by decide +kernel
theorem dX6_windowOf_34 : decode cX6_windowOf 34 = .ok (.if_icmp .ge 99, 3) := by decide +kernel
theorem dX6_windowOf_37 : decode cX6_windowOf 37 = .ok (.aload_n 0, 1) := by decide +kernel
theorem dX6_windowOf_38 : decode cX6_windowOf 38 = .ok (.getfield 51, 3) := by decide +kernel
theorem dX6_windowOf_41 : decode cX6_windowOf 41 = .ok (.iload_n 3, 1) := by decide +kernel
theorem dX6_windowOf_42 : decode cX6_windowOf 42 = .ok (.iload 9, 2) := by decide +kernel
theorem dX6_windowOf_44 : decode cX6_windowOf 44 = .ok (.iadd, 1) := by decide +kernel
theorem dX6_windowOf_45 : decode cX6_windowOf 45 = .ok (.iaload, 1) := by decide +kernel
theorem dX6_windowOf_46 : decode cX6_windowOf 46 = .ok (.aload_n 0, 1) := by decide +kernel
theorem dX6_windowOf_47 : decode cX6_windowOf 47 = .ok (.getfield 51, 3) := by decide +kernel
theorem dX6_windowOf_50 : decode cX6_windowOf 50 = .ok (.iload_n 3, 1) := by decide +kernel
theorem dX6_windowOf_51 : decode cX6_windowOf 51 = .ok (.iload 7, 2) := by decide +kernel
theorem dX6_windowOf_53 : decode cX6_windowOf 53 = .ok (.iadd, 1) := by decide +kernel
theorem dX6_windowOf_54 : decode cX6_windowOf 54 = .ok (.iaload, 1) := by decide +kernel
theorem dX6_windowOf_55 : decode cX6_windowOf 55 = .ok (.if_icmp .le 7, 3) := by decide +kernel
theorem dX6_windowOf_58 : decode cX6_windowOf 58 = .ok (.iload 9, 2) := by decide +kernel
theorem dX6_windowOf_60 : decode cX6_windowOf 60 = .ok (.istore 7, 2) := by decide +kernel
theorem dX6_windowOf_62 : decode cX6_windowOf 62 = .ok (.aload_n 0, 1) := by decide +kernel
theorem dX6_windowOf_63 : decode cX6_windowOf 63 = .ok (.getfield 54, 3) := by decide +kernel
theorem dX6_windowOf_66 : decode cX6_windowOf 66 = .ok (.iload_n 3, 1) := by decide +kernel
theorem dX6_windowOf_67 : decode cX6_windowOf 67 = .ok (.iload 9, 2) := by decide +kernel
theorem dX6_windowOf_69 : decode cX6_windowOf 69 = .ok (.iadd, 1) := by decide +kernel
theorem dX6_windowOf_70 : decode cX6_windowOf 70 = .ok (.iaload, 1) := by decide +kernel
theorem dX6_windowOf_71 : decode cX6_windowOf 71 = .ok (.aload_n 0, 1) := by decide +kernel
theorem dX6_windowOf_72 : decode cX6_windowOf 72 = .ok (.getfield 36, 3) := by decide +kernel
theorem dX6_windowOf_75 : decode cX6_windowOf 75 = .ok (.iload_n 1, 1) := by decide +kernel
theorem dX6_windowOf_76 : decode cX6_windowOf 76 = .ok (.iaload, 1) := by decide +kernel
theorem dX6_windowOf_77 : decode cX6_windowOf 77 = .ok (.if_icmp .lt 13, 3) := by decide +kernel
theorem dX6_windowOf_80 : decode cX6_windowOf 80 = .ok (.iload 8, 2) := by decide +kernel
theorem dX6_windowOf_82 : decode cX6_windowOf 82 = .ok (.iconst (-1), 1) := by decide +kernel
theorem dX6_windowOf_83 : decode cX6_windowOf 83 = .ok (.if_icmp .ne 7, 3) := by decide +kernel
theorem dX6_windowOf_86 : decode cX6_windowOf 86 = .ok (.iload 9, 2) := by decide +kernel
theorem dX6_windowOf_88 : decode cX6_windowOf 88 = .ok (.istore 8, 2) := by decide +kernel
theorem dX6_windowOf_90 : decode cX6_windowOf 90 = .ok (.aload_n 0, 1) := by decide +kernel
theorem dX6_windowOf_91 : decode cX6_windowOf 91 = .ok (.getfield 54, 3) := by decide +kernel
theorem dX6_windowOf_94 : decode cX6_windowOf 94 = .ok (.iload_n 3, 1) := by decide +kernel
theorem dX6_windowOf_95 : decode cX6_windowOf 95 = .ok (.iload 9, 2) := by decide +kernel
theorem dX6_windowOf_97 : decode cX6_windowOf 97 = .ok (.iadd, 1) := by decide +kernel
theorem dX6_windowOf_98 : decode cX6_windowOf 98 = .ok (.iaload, 1) := by decide +kernel
theorem dX6_windowOf_99 : decode cX6_windowOf 99 = .ok (.ifCond .ne 6, 3) := by decide +kernel
theorem dX6_windowOf_102 : decode cX6_windowOf 102 = .ok (.goto 25, 3) := by decide +kernel
theorem dX6_windowOf_105 : decode cX6_windowOf 105 = .ok (.iload 4, 2) := by decide +kernel
theorem dX6_windowOf_107 : decode cX6_windowOf 107 = .ok (.iconst (-1), 1) := by decide +kernel
theorem dX6_windowOf_108 : decode cX6_windowOf 108 = .ok (.if_icmp .ne 8, 3) := by decide +kernel
theorem dX6_windowOf_111 : decode cX6_windowOf 111 = .ok (.iload 9, 2) := by decide +kernel
theorem dX6_windowOf_113 : decode cX6_windowOf 113 = .ok (.goto 5, 3) := by decide +kernel
theorem dX6_windowOf_116 : decode cX6_windowOf 116 = .ok (.iload 4, 2) := by decide +kernel
theorem dX6_windowOf_118 : decode cX6_windowOf 118 = .ok (.istore 4, 2) := by decide +kernel
theorem dX6_windowOf_120 : decode cX6_windowOf 120 = .ok (.iload 9, 2) := by decide +kernel
theorem dX6_windowOf_122 : decode cX6_windowOf 122 = .ok (.istore 5, 2) := by decide +kernel
theorem dX6_windowOf_124 : decode cX6_windowOf 124 = .ok (.iinc 6 1, 3) := by decide +kernel
theorem dX6_windowOf_127 : decode cX6_windowOf 127 = .ok (.iinc 9 1, 3) := by decide +kernel
theorem dX6_windowOf_130 : decode cX6_windowOf 130 = .ok (.goto (-102), 3) := by decide +kernel
theorem dX6_windowOf_133 : decode cX6_windowOf 133 = .ok (.iload_n 2, 1) := by decide +kernel
theorem dX6_windowOf_134 : decode cX6_windowOf 134 = .ok (.ifCond .ne 8, 3) := by decide +kernel
theorem dX6_windowOf_137 : decode cX6_windowOf 137 = .ok (.iload 4, 2) := by decide +kernel
theorem dX6_windowOf_139 : decode cX6_windowOf 139 = .ok (.goto 35, 3) := by decide +kernel
theorem dX6_windowOf_142 : decode cX6_windowOf 142 = .ok (.iload_n 2, 1) := by decide +kernel
theorem dX6_windowOf_143 : decode cX6_windowOf 143 = .ok (.iconst 1, 1) := by decide +kernel
theorem dX6_windowOf_144 : decode cX6_windowOf 144 = .ok (.if_icmp .ne 8, 3) := by decide +kernel
theorem dX6_windowOf_147 : decode cX6_windowOf 147 = .ok (.iload 5, 2) := by decide +kernel
theorem dX6_windowOf_149 : decode cX6_windowOf 149 = .ok (.goto 25, 3) := by decide +kernel
theorem dX6_windowOf_152 : decode cX6_windowOf 152 = .ok (.iload_n 2, 1) := by decide +kernel
theorem dX6_windowOf_153 : decode cX6_windowOf 153 = .ok (.iconst 2, 1) := by decide +kernel
theorem dX6_windowOf_154 : decode cX6_windowOf 154 = .ok (.if_icmp .ne 8, 3) := by decide +kernel
theorem dX6_windowOf_157 : decode cX6_windowOf 157 = .ok (.iload 6, 2) := by decide +kernel
theorem dX6_windowOf_159 : decode cX6_windowOf 159 = .ok (.goto 15, 3) := by decide +kernel
theorem dX6_windowOf_162 : decode cX6_windowOf 162 = .ok (.iload_n 2, 1) := by decide +kernel
theorem dX6_windowOf_163 : decode cX6_windowOf 163 = .ok (.iconst 3, 1) := by decide +kernel
theorem dX6_windowOf_164 : decode cX6_windowOf 164 = .ok (.if_icmp .ne 8, 3) := by decide +kernel
theorem dX6_windowOf_167 : decode cX6_windowOf 167 = .ok (.iload 7, 2) := by decide +kernel
theorem dX6_windowOf_169 : decode cX6_windowOf 169 = .ok (.goto 5, 3) := by decide +kernel
theorem dX6_windowOf_172 : decode cX6_windowOf 172 = .ok (.iload 8, 2) := by decide +kernel
theorem dX6_windowOf_174 : decode cX6_windowOf 174 = .ok (.ireturn, 1) := by decide +kernel
theorem dX6_window_0 : decode cX6_window 0 = .ok (.aload_n 0, 1) := by decide +kernel
theorem dX6_window_1 : decode cX6_window 1 = .ok (.iconst 0, 1) := by decide +kernel
theorem dX6_window_2 : decode cX6_window 2 = .ok (.putfield 60, 3) := by decide +kernel
theorem dX6_window_5 : decode cX6_window 5 = .ok (.aload_n 0, 1) := by decide +kernel
theorem dX6_window_6 : decode cX6_window 6 = .ok (.iload_n 1, 1) := by decide +kernel
theorem dX6_window_7 : decode cX6_window 7 = .ok (.invokevirtual 162, 3) := by decide +kernel
theorem dX6_window_10 : decode cX6_window 10 = .ok (.ifCond .eq 21, 3) := by decide +kernel
theorem dX6_window_13 : decode cX6_window 13 = .ok (.iload_n 2, 1) := by decide +kernel
theorem dX6_window_14 : decode cX6_window 14 = .ok (.iconst 0, 1) := by decide +kernel
theorem dX6_window_15 : decode cX6_window 15 = .ok (.iconst 4, 1) := by decide +kernel
theorem dX6_window_16 : decode cX6_window 16 = .ok (.invokestatic 66, 3) := by decide +kernel
theorem dX6_window_19 : decode cX6_window 19 = .ok (.ifCond .eq 12, 3) := by decide +kernel
theorem dX6_window_22 : decode cX6_window 22 = .ok (.aload_n 0, 1) := by decide +kernel
theorem dX6_window_23 : decode cX6_window 23 = .ok (.iload_n 1, 1) := by decide +kernel
theorem dX6_window_24 : decode cX6_window 24 = .ok (.iload_n 2, 1) := by decide +kernel
theorem dX6_window_25 : decode cX6_window 25 = .ok (.invokevirtual 171, 3) := by decide +kernel
theorem dX6_window_28 : decode cX6_window 28 = .ok (.goto 8, 3) := by decide +kernel
theorem dX6_window_31 : decode cX6_window 31 = .ok (.aload_n 0, 1) := by decide +kernel
theorem dX6_window_32 : decode cX6_window 32 = .ok (.iconst 1, 1) := by decide +kernel
theorem dX6_window_33 : decode cX6_window 33 = .ok (.invokevirtual 149, 3) := by decide +kernel
theorem dX6_window_36 : decode cX6_window 36 = .ok (.ireturn, 1) := by decide +kernel
theorem dX6_isOpen_0 : decode cX6_isOpen 0 = .ok (.aload_n 0, 1) := by decide +kernel
theorem dX6_isOpen_1 : decode cX6_isOpen 1 = .ok (.aload_n 0, 1) := by decide +kernel
theorem dX6_isOpen_2 : decode cX6_isOpen 2 = .ok (.iload_n 1, 1) := by decide +kernel
theorem dX6_isOpen_3 : decode cX6_isOpen 3 = .ok (.invokevirtual 162, 3) := by decide +kernel
theorem dX6_isOpen_6 : decode cX6_isOpen 6 = .ok (.ifCond .eq 7, 3) := by decide +kernel
theorem dX6_isOpen_9 : decode cX6_isOpen 9 = .ok (.iconst 0, 1) := by decide +kernel
theorem dX6_isOpen_10 : decode cX6_isOpen 10 = .ok (.goto 4, 3) := by decide +kernel
theorem dX6_isOpen_13 : decode cX6_isOpen 13 = .ok (.iconst 1, 1) := by decide +kernel
theorem dX6_isOpen_14 : decode cX6_isOpen 14 = .ok (.putfield 60, 3) := by decide +kernel
theorem dX6_isOpen_17 : decode cX6_isOpen 17 = .ok (.aload_n 0, 1) := by decide +kernel
theorem dX6_isOpen_18 : decode cX6_isOpen 18 = .ok (.getfield 60, 3) := by decide +kernel
theorem dX6_isOpen_21 : decode cX6_isOpen 21 = .ok (.ifCond .ne 15, 3) := by decide +kernel
theorem dX6_isOpen_24 : decode cX6_isOpen 24 = .ok (.aload_n 0, 1) := by decide +kernel
theorem dX6_isOpen_25 : decode cX6_isOpen 25 = .ok (.iload_n 1, 1) := by decide +kernel
theorem dX6_isOpen_26 : decode cX6_isOpen 26 = .ok (.invokevirtual 136, 3) := by decide +kernel
theorem dX6_isOpen_29 : decode cX6_isOpen 29 = .ok (.ifCond .eq 7, 3) := by decide +kernel
theorem dX6_isOpen_32 : decode cX6_isOpen 32 = .ok (.iconst 1, 1) := by decide +kernel
theorem dX6_isOpen_33 : decode cX6_isOpen 33 = .ok (.goto 4, 3) := by decide +kernel
theorem dX6_isOpen_36 : decode cX6_isOpen 36 = .ok (.iconst 0, 1) := by decide +kernel
theorem dX6_isOpen_37 : decode cX6_isOpen 37 = .ok (.ireturn, 1) := by decide +kernel
theorem dX6_count_0 : decode cX6_count 0 = .ok (.aload_n 0, 1) := by decide +kernel
theorem dX6_count_1 : decode cX6_count 1 = .ok (.iconst 0, 1) := by decide +kernel
theorem dX6_count_2 : decode cX6_count 2 = .ok (.putfield 60, 3) := by decide +kernel
theorem dX6_count_5 : decode cX6_count 5 = .ok (.iload_n 1, 1) := by decide +kernel
theorem dX6_count_6 : decode cX6_count 6 = .ok (.iconst 0, 1) := by decide +kernel
theorem dX6_count_7 : decode cX6_count 7 = .ok (.iconst 3, 1) := by decide +kernel
theorem dX6_count_8 : decode cX6_count 8 = .ok (.invokestatic 66, 3) := by decide +kernel
theorem dX6_count_11 : decode cX6_count 11 = .ok (.ifCond .ne 9, 3) := by decide +kernel
theorem dX6_count_14 : decode cX6_count 14 = .ok (.aload_n 0, 1) := by decide +kernel
theorem dX6_count_15 : decode cX6_count 15 = .ok (.iconst 1, 1) := by decide +kernel
theorem dX6_count_16 : decode cX6_count 16 = .ok (.invokevirtual 149, 3) := by decide +kernel
theorem dX6_count_19 : decode cX6_count 19 = .ok (.ireturn, 1) := by decide +kernel
theorem dX6_count_20 : decode cX6_count 20 = .ok (.iconst 0, 1) := by decide +kernel
theorem dX6_count_21 : decode cX6_count 21 = .ok (.istore_n 2, 1) := by decide +kernel
theorem dX6_count_22 : decode cX6_count 22 = .ok (.iconst 0, 1) := by decide +kernel
theorem dX6_count_23 : decode cX6_count 23 = .ok (.istore_n 3, 1) := by decide +kernel
theorem dX6_count_24 : decode cX6_count 24 = .ok (.iload_n 3, 1) := by decide +kernel
theorem dX6_count_25 : decode cX6_count 25 = .ok (.aload_n 0, 1) := by decide +kernel
theorem dX6_count_26 : decode cX6_count 26 = .ok (.getfield 63, 3) := by decide +kernel
theorem dX6_count_29 : decode cX6_count 29 = .ok (.if_icmp .ge 75, 3) := by decide +kernel
theorem dX6_count_32 : decode cX6_count 32 = .ok (.iload_n 2, 1) := by decide +kernel
theorem dX6_count_33 : decode cX6_count 33 = .ok (.iload_n 1, 1) := by decide +kernel
theorem dX6_count_34 : decode cX6_count 34 = .ok (.ifCond .ne 7, 3) := by decide +kernel
theorem dX6_count_37 : decode cX6_count 37 = .ok (.iconst 1, 1) := by decide +kernel
theorem dX6_count_38 : decode cX6_count 38 = .ok (.goto 58, 3) := by decide +kernel
theorem dX6_count_41 : decode cX6_count 41 = .ok (.iload_n 1, 1) := by decide +kernel
theorem dX6_count_42 : decode cX6_count 42 = .ok (.iconst 1, 1) := by decide +kernel
theorem dX6_count_43 : decode cX6_count 43 = .ok (.if_icmp .ne 19, 3) := by decide +kernel
theorem dX6_count_46 : decode cX6_count 46 = .ok (.aload_n 0, 1) := by decide +kernel
theorem dX6_count_47 : decode cX6_count 47 = .ok (.iload_n 3, 1) := by decide +kernel
theorem dX6_count_48 : decode cX6_count 48 = .ok (.invokevirtual 136, 3) := by decide +kernel
theorem dX6_count_51 : decode cX6_count 51 = .ok (.ifCond .eq 7, 3) := by decide +kernel
theorem dX6_count_54 : decode cX6_count 54 = .ok (.iconst 1, 1) := by decide +kernel
theorem dX6_count_55 : decode cX6_count 55 = .ok (.goto 41, 3) := by decide +kernel
theorem dX6_count_58 : decode cX6_count 58 = .ok (.iconst 0, 1) := by decide +kernel
theorem dX6_count_59 : decode cX6_count 59 = .ok (.goto 37, 3) := by decide +kernel
theorem dX6_count_62 : decode cX6_count 62 = .ok (.iload_n 1, 1) := by decide +kernel
theorem dX6_count_63 : decode cX6_count 63 = .ok (.iconst 2, 1) := by decide +kernel
theorem dX6_count_64 : decode cX6_count 64 = .ok (.if_icmp .ne 26, 3) := by decide +kernel
theorem dX6_count_67 : decode cX6_count 67 = .ok (.aload_n 0, 1) := by decide +kernel
theorem dX6_count_68 : decode cX6_count 68 = .ok (.getfield 45, 3) := by decide +kernel
theorem dX6_count_71 : decode cX6_count 71 = .ok (.iload_n 3, 1) := by decide +kernel
theorem dX6_count_72 : decode cX6_count 72 = .ok (.iaload, 1) := by decide +kernel
theorem dX6_count_73 : decode cX6_count 73 = .ok (.aload_n 0, 1) := by decide +kernel
theorem dX6_count_74 : decode cX6_count 74 = .ok (.getfield 39, 3) := by decide +kernel
theorem dX6_count_77 : decode cX6_count 77 = .ok (.iload_n 3, 1) := by decide +kernel
theorem dX6_count_78 : decode cX6_count 78 = .ok (.iaload, 1) := by decide +kernel
theorem dX6_count_79 : decode cX6_count 79 = .ok (.if_icmp .lt 7, 3) := by decide +kernel
theorem dX6_count_82 : decode cX6_count 82 = .ok (.iconst 1, 1) := by decide +kernel
theorem dX6_count_83 : decode cX6_count 83 = .ok (.goto 13, 3) := by decide +kernel
theorem dX6_count_86 : decode cX6_count 86 = .ok (.iconst 0, 1) := by decide +kernel
theorem dX6_count_87 : decode cX6_count 87 = .ok (.goto 9, 3) := by decide +kernel
theorem dX6_count_90 : decode cX6_count 90 = .ok (.aload_n 0, 1) := by decide +kernel
theorem dX6_count_91 : decode cX6_count 91 = .ok (.getfield 45, 3) := by decide +kernel
theorem dX6_count_94 : decode cX6_count 94 = .ok (.iload_n 3, 1) := by decide +kernel
theorem dX6_count_95 : decode cX6_count 95 = .ok (.iaload, 1) := by decide +kernel
theorem dX6_count_96 : decode cX6_count 96 = .ok (.iadd, 1) := by decide +kernel
theorem dX6_count_97 : decode cX6_count 97 = .ok (.istore_n 2, 1) := by decide +kernel
theorem dX6_count_98 : decode cX6_count 98 = .ok (.iinc 3 1, 3) := by decide +kernel
theorem dX6_count_101 : decode cX6_count 101 = .ok (.goto (-77), 3) := by decide +kernel
theorem dX6_count_104 : decode cX6_count 104 = .ok (.iload_n 2, 1) := by decide +kernel
theorem dX6_count_105 : decode cX6_count 105 = .ok (.ireturn, 1) := by decide +kernel
theorem dX6_visits_0 : decode cX6_visits 0 = .ok (.aload_n 0, 1) := by decide +kernel
theorem dX6_visits_1 : decode cX6_visits 1 = .ok (.iconst 0, 1) := by decide +kernel
theorem dX6_visits_2 : decode cX6_visits 2 = .ok (.putfield 60, 3) := by decide +kernel
theorem dX6_visits_5 : decode cX6_visits 5 = .ok (.aload_n 0, 1) := by decide +kernel
theorem dX6_visits_6 : decode cX6_visits 6 = .ok (.invokevirtual 168, 3) := by decide +kernel
theorem dX6_visits_9 : decode cX6_visits 9 = .ok (.aload_n 0, 1) := by decide +kernel
theorem dX6_visits_10 : decode cX6_visits 10 = .ok (.getfield 133, 3) := by decide +kernel
theorem dX6_visits_13 : decode cX6_visits 13 = .ok (.ireturn, 1) := by decide +kernel
theorem dX6_visit_0 : decode cX6_visit 0 = .ok (.aload_n 0, 1) := by decide +kernel
theorem dX6_visit_1 : decode cX6_visit 1 = .ok (.iconst 0, 1) := by decide +kernel
theorem dX6_visit_2 : decode cX6_visit 2 = .ok (.putfield 60, 3) := by decide +kernel
theorem dX6_visit_5 : decode cX6_visit 5 = .ok (.aload_n 0, 1) := by decide +kernel
theorem dX6_visit_6 : decode cX6_visit 6 = .ok (.invokevirtual 168, 3) := by decide +kernel
theorem dX6_visit_9 : decode cX6_visit 9 = .ok (.iload_n 1, 1) := by decide +kernel
theorem dX6_visit_10 : decode cX6_visit 10 = .ok (.iconst 0, 1) := by decide +kernel
theorem dX6_visit_11 : decode cX6_visit 11 = .ok (.aload_n 0, 1) := by decide +kernel
theorem dX6_visit_12 : decode cX6_visit 12 = .ok (.getfield 133, 3) := by decide +kernel
theorem dX6_visit_15 : decode cX6_visit 15 = .ok (.iconst 1, 1) := by decide +kernel
theorem dX6_visit_16 : decode cX6_visit 16 = .ok (.isub, 1) := by decide +kernel
theorem dX6_visit_17 : decode cX6_visit 17 = .ok (.invokestatic 66, 3) := by decide +kernel
theorem dX6_visit_20 : decode cX6_visit 20 = .ok (.ifCond .eq 25, 3) := by decide +kernel
theorem dX6_visit_23 : decode cX6_visit 23 = .ok (.iload_n 2, 1) := by decide +kernel
theorem dX6_visit_24 : decode cX6_visit 24 = .ok (.iconst 0, 1) := by decide +kernel
theorem dX6_visit_25 : decode cX6_visit 25 = .ok (.iconst 3, 1) := by decide +kernel
theorem dX6_visit_26 : decode cX6_visit 26 = .ok (.invokestatic 66, 3) := by decide +kernel
theorem dX6_visit_29 : decode cX6_visit 29 = .ok (.ifCond .eq 16, 3) := by decide +kernel
theorem dX6_visit_32 : decode cX6_visit 32 = .ok (.aload_n 0, 1) := by decide +kernel
theorem dX6_visit_33 : decode cX6_visit 33 = .ok (.getfield 57, 3) := by decide +kernel
theorem dX6_visit_36 : decode cX6_visit 36 = .ok (.iconst 4, 1) := by decide +kernel
theorem dX6_visit_37 : decode cX6_visit 37 = .ok (.iload_n 1, 1) := by decide +kernel
theorem dX6_visit_38 : decode cX6_visit 38 = .ok (.imul, 1) := by decide +kernel
theorem dX6_visit_39 : decode cX6_visit 39 = .ok (.iload_n 2, 1) := by decide +kernel
theorem dX6_visit_40 : decode cX6_visit 40 = .ok (.iadd, 1) := by decide +kernel
theorem dX6_visit_41 : decode cX6_visit 41 = .ok (.iaload, 1) := by decide +kernel
theorem dX6_visit_42 : decode cX6_visit 42 = .ok (.goto 8, 3) := by decide +kernel
theorem dX6_visit_45 : decode cX6_visit 45 = .ok (.aload_n 0, 1) := by decide +kernel
theorem dX6_visit_46 : decode cX6_visit 46 = .ok (.iconst 1, 1) := by decide +kernel
theorem dX6_visit_47 : decode cX6_visit 47 = .ok (.invokevirtual 149, 3) := by decide +kernel
theorem dX6_visit_50 : decode cX6_visit 50 = .ok (.ireturn, 1) := by decide +kernel
theorem dX6_use_0 : decode cX6_use 0 = .ok (.aload_n 0, 1) := by decide +kernel
theorem dX6_use_1 : decode cX6_use 1 = .ok (.iconst 0, 1) := by decide +kernel
theorem dX6_use_2 : decode cX6_use 2 = .ok (.putfield 60, 3) := by decide +kernel
theorem dX6_use_5 : decode cX6_use 5 = .ok (.aload_n 0, 1) := by decide +kernel
theorem dX6_use_6 : decode cX6_use 6 = .ok (.invokevirtual 168, 3) := by decide +kernel
theorem dX6_use_9 : decode cX6_use 9 = .ok (.iconst 0, 1) := by decide +kernel
theorem dX6_use_10 : decode cX6_use 10 = .ok (.istore_n 1, 1) := by decide +kernel
theorem dX6_use_11 : decode cX6_use 11 = .ok (.iconst 0, 1) := by decide +kernel
theorem dX6_use_12 : decode cX6_use 12 = .ok (.istore_n 2, 1) := by decide +kernel
theorem dX6_use_13 : decode cX6_use 13 = .ok (.iload_n 2, 1) := by decide +kernel
theorem dX6_use_14 : decode cX6_use 14 = .ok (.aload_n 0, 1) := by decide +kernel
theorem dX6_use_15 : decode cX6_use 15 = .ok (.getfield 133, 3) := by decide +kernel
theorem dX6_use_18 : decode cX6_use 18 = .ok (.if_icmp .ge 25, 3) := by decide +kernel
theorem dX6_use_21 : decode cX6_use 21 = .ok (.iload_n 1, 1) := by decide +kernel
theorem dX6_use_22 : decode cX6_use 22 = .ok (.aload_n 0, 1) := by decide +kernel
theorem dX6_use_23 : decode cX6_use 23 = .ok (.getfield 36, 3) := by decide +kernel
theorem dX6_use_26 : decode cX6_use 26 = .ok (.aload_n 0, 1) := by decide +kernel
theorem dX6_use_27 : decode cX6_use 27 = .ok (.getfield 57, 3) := by decide +kernel
theorem dX6_use_30 : decode cX6_use 30 = .ok (.iconst 4, 1) := by decide +kernel
theorem dX6_use_31 : decode cX6_use 31 = .ok (.iload_n 2, 1) := by decide +kernel
theorem dX6_use_32 : decode cX6_use 32 = .ok (.imul, 1) := by decide +kernel
theorem dX6_use_33 : decode cX6_use 33 = .ok (.iaload, 1) := by decide +kernel
theorem dX6_use_34 : decode cX6_use 34 = .ok (.iaload, 1) := by decide +kernel
theorem dX6_use_35 : decode cX6_use 35 = .ok (.iadd, 1) := by decide +kernel
theorem dX6_use_36 : decode cX6_use 36 = .ok (.istore_n 1, 1) := by decide +kernel
theorem dX6_use_37 : decode cX6_use 37 = .ok (.iinc 2 1, 3) := by decide +kernel
theorem dX6_use_40 : decode cX6_use 40 = .ok (.goto (-27), 3) := by decide +kernel
theorem dX6_use_43 : decode cX6_use 43 = .ok (.iload_n 1, 1) := by decide +kernel
theorem dX6_use_44 : decode cX6_use 44 = .ok (.i2d, 1) := by decide +kernel
theorem dX6_use_45 : decode cX6_use 45 = .ok (.aload_n 0, 1) := by decide +kernel
theorem dX6_use_46 : decode cX6_use 46 = .ok (.getfield 7, 3) := by decide +kernel
theorem dX6_use_49 : decode cX6_use 49 = .ok (.i2d, 1) := by decide +kernel
theorem dX6_use_50 : decode cX6_use 50 = .ok (.ddiv, 1) := by decide +kernel
theorem dX6_use_51 : decode cX6_use 51 = .ok (.dreturn, 1) := by decide +kernel
theorem dX6_nextNight_0 : decode cX6_nextNight 0 = .ok (.aload_n 0, 1) := by decide +kernel
theorem dX6_nextNight_1 : decode cX6_nextNight 1 = .ok (.dup, 1) := by decide +kernel
theorem dX6_nextNight_2 : decode cX6_nextNight 2 = .ok (.getfield 87, 3) := by decide +kernel
theorem dX6_nextNight_5 : decode cX6_nextNight 5 = .ok (.iconst 1, 1) := by decide +kernel
theorem dX6_nextNight_6 : decode cX6_nextNight 6 = .ok (.iadd, 1) := by decide +kernel
theorem dX6_nextNight_7 : decode cX6_nextNight 7 = .ok (.putfield 87, 3) := by decide +kernel
theorem dX6_nextNight_10 : decode cX6_nextNight 10 = .ok (.aload_n 0, 1) := by decide +kernel
theorem dX6_nextNight_11 : decode cX6_nextNight 11 = .ok (.aload_n 0, 1) := by decide +kernel
theorem dX6_nextNight_12 : decode cX6_nextNight 12 = .ok (.getfield 100, 3) := by decide +kernel
theorem dX6_nextNight_15 : decode cX6_nextNight 15 = .ok (.bipush 49, 2) := by decide +kernel
theorem dX6_nextNight_17 : decode cX6_nextNight 17 = .ok (.iadd, 1) := by decide +kernel
theorem dX6_nextNight_18 : decode cX6_nextNight 18 = .ok (.sipush 1440, 3) := by decide +kernel
theorem dX6_nextNight_21 : decode cX6_nextNight 21 = .ok (.irem, 1) := by decide +kernel
theorem dX6_nextNight_22 : decode cX6_nextNight 22 = .ok (.putfield 100, 3) := by decide +kernel
theorem dX6_nextNight_25 : decode cX6_nextNight 25 = .ok (.aload_n 0, 1) := by decide +kernel
theorem dX6_nextNight_26 : decode cX6_nextNight 26 = .ok (.aload_n 0, 1) := by decide +kernel
theorem dX6_nextNight_27 : decode cX6_nextNight 27 = .ok (.getfield 97, 3) := by decide +kernel
theorem dX6_nextNight_30 : decode cX6_nextNight 30 = .ok (.iconst 1, 1) := by decide +kernel
theorem dX6_nextNight_31 : decode cX6_nextNight 31 = .ok (.iadd, 1) := by decide +kernel
theorem dX6_nextNight_32 : decode cX6_nextNight 32 = .ok (.bipush 30, 2) := by decide +kernel
theorem dX6_nextNight_34 : decode cX6_nextNight 34 = .ok (.irem, 1) := by decide +kernel
theorem dX6_nextNight_35 : decode cX6_nextNight 35 = .ok (.putfield 97, 3) := by decide +kernel
theorem dX6_nextNight_38 : decode cX6_nextNight 38 = .ok (.aload_n 0, 1) := by decide +kernel
theorem dX6_nextNight_39 : decode cX6_nextNight 39 = .ok (.iconst 0, 1) := by decide +kernel
theorem dX6_nextNight_40 : decode cX6_nextNight 40 = .ok (.putfield 159, 3) := by decide +kernel
theorem dX6_nextNight_43 : decode cX6_nextNight 43 = .ok (.iconst 0, 1) := by decide +kernel
theorem dX6_nextNight_44 : decode cX6_nextNight 44 = .ok (.istore_n 1, 1) := by decide +kernel
theorem dX6_nextNight_45 : decode cX6_nextNight 45 = .ok (.iload_n 1, 1) := by decide +kernel
theorem dX6_nextNight_46 : decode cX6_nextNight 46 = .ok (.sipush 900, 3) := by decide +kernel
theorem dX6_nextNight_49 : decode cX6_nextNight 49 = .ok (.if_icmp .ge 16, 3) := by decide +kernel
theorem dX6_nextNight_52 : decode cX6_nextNight 52 = .ok (.aload_n 0, 1) := by decide +kernel
theorem dX6_nextNight_53 : decode cX6_nextNight 53 = .ok (.getfield 16, 3) := by decide +kernel
theorem dX6_nextNight_56 : decode cX6_nextNight 56 = .ok (.iload_n 1, 1) := by decide +kernel
theorem dX6_nextNight_57 : decode cX6_nextNight 57 = .ok (.iconst 0, 1) := by decide +kernel
theorem dX6_nextNight_58 : decode cX6_nextNight 58 = .ok (.bastore, 1) := by decide +kernel
theorem dX6_nextNight_59 : decode cX6_nextNight 59 = .ok (.iinc 1 1, 3) := by decide +kernel
theorem dX6_nextNight_62 : decode cX6_nextNight 62 = .ok (.goto (-17), 3) := by decide +kernel
theorem dX6_nextNight_65 : decode cX6_nextNight 65 = .ok (.aload_n 0, 1) := by decide +kernel
theorem dX6_nextNight_66 : decode cX6_nextNight 66 = .ok (.iconst 0, 1) := by decide +kernel
theorem dX6_nextNight_67 : decode cX6_nextNight 67 = .ok (.putfield 123, 3) := by decide +kernel
theorem dX6_nextNight_70 : decode cX6_nextNight 70 = .ok (.return_, 1) := by decide +kernel
theorem dX6_observe_0 : decode cX6_observe 0 = .ok (.aload_n 0, 1) := by decide +kernel
theorem dX6_observe_1 : decode cX6_observe 1 = .ok (.iconst 0, 1) := by decide +kernel
theorem dX6_observe_2 : decode cX6_observe 2 = .ok (.putfield 60, 3) := by decide +kernel
theorem dX6_observe_5 : decode cX6_observe 5 = .ok (.aload_n 0, 1) := by decide +kernel
theorem dX6_observe_6 : decode cX6_observe 6 = .ok (.getfield 87, 3) := by decide +kernel
theorem dX6_observe_9 : decode cX6_observe 9 = .ok (.bipush 60, 2) := by decide +kernel
theorem dX6_observe_11 : decode cX6_observe 11 = .ok (.if_icmp .ne 9, 3) := by decide +kernel
theorem dX6_observe_14 : decode cX6_observe 14 = .ok (.aload_n 0, 1) := by decide +kernel
theorem dX6_observe_15 : decode cX6_observe 15 = .ok (.iconst 1, 1) := by decide +kernel
theorem dX6_observe_16 : decode cX6_observe 16 = .ok (.invokevirtual 149, 3) := by decide +kernel
theorem dX6_observe_19 : decode cX6_observe 19 = .ok (.ireturn, 1) := by decide +kernel
theorem dX6_observe_20 : decode cX6_observe 20 = .ok (.aload_n 0, 1) := by decide +kernel
theorem dX6_observe_21 : decode cX6_observe 21 = .ok (.invokevirtual 168, 3) := by decide +kernel
theorem dX6_observe_24 : decode cX6_observe 24 = .ok (.aload_n 0, 1) := by decide +kernel
theorem dX6_observe_25 : decode cX6_observe 25 = .ok (.getfield 133, 3) := by decide +kernel
theorem dX6_observe_28 : decode cX6_observe 28 = .ok (.istore_n 1, 1) := by decide +kernel
theorem dX6_observe_29 : decode cX6_observe 29 = .ok (.iconst 0, 1) := by decide +kernel
theorem dX6_observe_30 : decode cX6_observe 30 = .ok (.istore_n 2, 1) := by decide +kernel
theorem dX6_observe_31 : decode cX6_observe 31 = .ok (.iload_n 2, 1) := by decide +kernel
theorem dX6_observe_32 : decode cX6_observe 32 = .ok (.iload_n 1, 1) := by decide +kernel
theorem dX6_observe_33 : decode cX6_observe 33 = .ok (.if_icmp .ge 43, 3) := by decide +kernel
theorem dX6_observe_36 : decode cX6_observe 36 = .ok (.aload_n 0, 1) := by decide +kernel
theorem dX6_observe_37 : decode cX6_observe 37 = .ok (.getfield 45, 3) := by decide +kernel
theorem dX6_observe_40 : decode cX6_observe 40 = .ok (.aload_n 0, 1) := by decide +kernel
theorem dX6_observe_41 : decode cX6_observe 41 = .ok (.getfield 57, 3) := by decide +kernel
theorem dX6_observe_44 : decode cX6_observe 44 = .ok (.iconst 4, 1) := by decide +kernel
theorem dX6_observe_45 : decode cX6_observe 45 = .ok (.iload_n 2, 1) := by decide +kernel
theorem dX6_observe_46 : decode cX6_observe 46 = .ok (.imul, 1) := by decide +kernel
theorem dX6_observe_47 : decode cX6_observe 47 = .ok (.iaload, 1) := by decide +kernel
theorem dX6_observe_48 : decode cX6_observe 48 = .ok (.dup2, 1) := by decide +kernel
theorem dX6_observe_49 : decode cX6_observe 49 = .ok (.iaload, 1) := by decide +kernel
theorem dX6_observe_50 : decode cX6_observe 50 = .ok (.iconst 1, 1) := by decide +kernel
theorem dX6_observe_51 : decode cX6_observe 51 = .ok (.iadd, 1) := by decide +kernel
theorem dX6_observe_52 : decode cX6_observe 52 = .ok (.iastore, 1) := by decide +kernel
theorem dX6_observe_53 : decode cX6_observe 53 = .ok (.aload_n 0, 1) := by decide +kernel
theorem dX6_observe_54 : decode cX6_observe 54 = .ok (.getfield 48, 3) := by decide +kernel
theorem dX6_observe_57 : decode cX6_observe 57 = .ok (.aload_n 0, 1) := by decide +kernel
theorem dX6_observe_58 : decode cX6_observe 58 = .ok (.getfield 57, 3) := by decide +kernel
theorem dX6_observe_61 : decode cX6_observe 61 = .ok (.iconst 4, 1) := by decide +kernel
theorem dX6_observe_62 : decode cX6_observe 62 = .ok (.iload_n 2, 1) := by decide +kernel
theorem dX6_observe_63 : decode cX6_observe 63 = .ok (.imul, 1) := by decide +kernel
theorem dX6_observe_64 : decode cX6_observe 64 = .ok (.iaload, 1) := by decide +kernel
theorem dX6_observe_65 : decode cX6_observe 65 = .ok (.aload_n 0, 1) := by decide +kernel
theorem dX6_observe_66 : decode cX6_observe 66 = .ok (.getfield 87, 3) := by decide +kernel
theorem dX6_observe_69 : decode cX6_observe 69 = .ok (.iastore, 1) := by decide +kernel
theorem dX6_observe_70 : decode cX6_observe 70 = .ok (.iinc 2 1, 3) := by decide +kernel
theorem dX6_observe_73 : decode cX6_observe 73 = .ok (.goto (-42), 3) := by decide +kernel
theorem dX6_observe_76 : decode cX6_observe 76 = .ok (.aload_n 0, 1) := by decide +kernel
theorem dX6_observe_77 : decode cX6_observe 77 = .ok (.invokevirtual 174, 3) := by decide +kernel
theorem dX6_observe_80 : decode cX6_observe 80 = .ok (.iload_n 1, 1) := by decide +kernel
theorem dX6_observe_81 : decode cX6_observe 81 = .ok (.ireturn, 1) := by decide +kernel
theorem dX6_pass_0 : decode cX6_pass 0 = .ok (.aload_n 0, 1) := by decide +kernel
theorem dX6_pass_1 : decode cX6_pass 1 = .ok (.iconst 0, 1) := by decide +kernel
theorem dX6_pass_2 : decode cX6_pass 2 = .ok (.putfield 60, 3) := by decide +kernel
theorem dX6_pass_5 : decode cX6_pass 5 = .ok (.iload_n 1, 1) := by decide +kernel
theorem dX6_pass_6 : decode cX6_pass 6 = .ok (.iconst 1, 1) := by decide +kernel
theorem dX6_pass_7 : decode cX6_pass 7 = .ok (.bipush 60, 2) := by decide +kernel
theorem dX6_pass_9 : decode cX6_pass 9 = .ok (.invokestatic 66, 3) := by decide +kernel
theorem dX6_pass_12 : decode cX6_pass 12 = .ok (.ifCond .eq 14, 3) := by decide +kernel
theorem dX6_pass_15 : decode cX6_pass 15 = .ok (.aload_n 0, 1) := by decide +kernel
theorem dX6_pass_16 : decode cX6_pass 16 = .ok (.getfield 87, 3) := by decide +kernel
theorem dX6_pass_19 : decode cX6_pass 19 = .ok (.iload_n 1, 1) := by decide +kernel
theorem dX6_pass_20 : decode cX6_pass 20 = .ok (.iadd, 1) := by decide +kernel
theorem dX6_pass_21 : decode cX6_pass 21 = .ok (.bipush 60, 2) := by decide +kernel
theorem dX6_pass_23 : decode cX6_pass 23 = .ok (.if_icmp .le 9, 3) := by decide +kernel
theorem dX6_pass_26 : decode cX6_pass 26 = .ok (.aload_n 0, 1) := by decide +kernel
theorem dX6_pass_27 : decode cX6_pass 27 = .ok (.iconst 1, 1) := by decide +kernel
theorem dX6_pass_28 : decode cX6_pass 28 = .ok (.invokevirtual 149, 3) := by decide +kernel
theorem dX6_pass_31 : decode cX6_pass 31 = .ok (.ireturn, 1) := by decide +kernel
theorem dX6_pass_32 : decode cX6_pass 32 = .ok (.iconst 0, 1) := by decide +kernel
theorem dX6_pass_33 : decode cX6_pass 33 = .ok (.istore_n 2, 1) := by decide +kernel
theorem dX6_pass_34 : decode cX6_pass 34 = .ok (.iload_n 2, 1) := by decide +kernel
theorem dX6_pass_35 : decode cX6_pass 35 = .ok (.iload_n 1, 1) := by decide +kernel
theorem dX6_pass_36 : decode cX6_pass 36 = .ok (.if_icmp .ge 13, 3) := by decide +kernel
theorem dX6_pass_39 : decode cX6_pass 39 = .ok (.aload_n 0, 1) := by decide +kernel
theorem dX6_pass_40 : decode cX6_pass 40 = .ok (.invokevirtual 174, 3) := by decide +kernel
theorem dX6_pass_43 : decode cX6_pass 43 = .ok (.iinc 2 1, 3) := by decide +kernel
theorem dX6_pass_46 : decode cX6_pass 46 = .ok (.goto (-12), 3) := by decide +kernel
theorem dX6_pass_49 : decode cX6_pass 49 = .ok (.aload_n 0, 1) := by decide +kernel
theorem dX6_pass_50 : decode cX6_pass 50 = .ok (.getfield 87, 3) := by decide +kernel
theorem dX6_pass_53 : decode cX6_pass 53 = .ok (.ireturn, 1) := by decide +kernel
theorem dX6_night_0 : decode cX6_night 0 = .ok (.aload_n 0, 1) := by decide +kernel
theorem dX6_night_1 : decode cX6_night 1 = .ok (.iconst 0, 1) := by decide +kernel
theorem dX6_night_2 : decode cX6_night 2 = .ok (.putfield 60, 3) := by decide +kernel
theorem dX6_night_5 : decode cX6_night 5 = .ok (.aload_n 0, 1) := by decide +kernel
theorem dX6_night_6 : decode cX6_night 6 = .ok (.getfield 87, 3) := by decide +kernel
theorem dX6_night_9 : decode cX6_night 9 = .ok (.ireturn, 1) := by decide +kernel
theorem dX6_light_0 : decode cX6_light 0 = .ok (.aload_n 0, 1) := by decide +kernel
theorem dX6_light_1 : decode cX6_light 1 = .ok (.iconst 0, 1) := by decide +kernel
theorem dX6_light_2 : decode cX6_light 2 = .ok (.putfield 60, 3) := by decide +kernel
theorem dX6_light_5 : decode cX6_light 5 = .ok (.aload_n 0, 1) := by decide +kernel
theorem dX6_light_6 : decode cX6_light 6 = .ok (.invokevirtual 119, 3) := by decide +kernel
theorem dX6_light_9 : decode cX6_light 9 = .ok (.ireturn, 1) := by decide +kernel
theorem dX6_digest_0 : decode cX6_digest 0 = .ok (.aload_n 0, 1) := by decide +kernel
theorem dX6_digest_1 : decode cX6_digest 1 = .ok (.iconst 0, 1) := by decide +kernel
theorem dX6_digest_2 : decode cX6_digest 2 = .ok (.putfield 60, 3) := by decide +kernel
theorem dX6_digest_5 : decode cX6_digest 5 = .ok (.aload_n 0, 1) := by decide +kernel
theorem dX6_digest_6 : decode cX6_digest 6 = .ok (.invokevirtual 168, 3) := by decide +kernel
theorem dX6_digest_9 : decode cX6_digest 9 = .ok (.bipush 8, 2) := by decide +kernel
theorem dX6_digest_11 : decode cX6_digest 11 = .ok (.newarray .int, 2) := by decide +kernel
theorem dX6_digest_13 : decode cX6_digest 13 = .ok (.dup, 1) := by decide +kernel
theorem dX6_digest_14 : decode cX6_digest 14 = .ok (.iconst 0, 1) := by decide +kernel
theorem dX6_digest_15 : decode cX6_digest 15 = .ok (.aload_n 0, 1) := by decide +kernel
theorem dX6_digest_16 : decode cX6_digest 16 = .ok (.getfield 87, 3) := by decide +kernel
theorem dX6_digest_19 : decode cX6_digest 19 = .ok (.iastore, 1) := by decide +kernel
theorem dX6_digest_20 : decode cX6_digest 20 = .ok (.dup, 1) := by decide +kernel
theorem dX6_digest_21 : decode cX6_digest 21 = .ok (.iconst 1, 1) := by decide +kernel
theorem dX6_digest_22 : decode cX6_digest 22 = .ok (.aload_n 0, 1) := by decide +kernel
theorem dX6_digest_23 : decode cX6_digest 23 = .ok (.getfield 7, 3) := by decide +kernel
theorem dX6_digest_26 : decode cX6_digest 26 = .ok (.iastore, 1) := by decide +kernel
theorem dX6_digest_27 : decode cX6_digest 27 = .ok (.dup, 1) := by decide +kernel
theorem dX6_digest_28 : decode cX6_digest 28 = .ok (.iconst 2, 1) := by decide +kernel
theorem dX6_digest_29 : decode cX6_digest 29 = .ok (.aload_n 0, 1) := by decide +kernel
theorem dX6_digest_30 : decode cX6_digest 30 = .ok (.getfield 13, 3) := by decide +kernel
theorem dX6_digest_33 : decode cX6_digest 33 = .ok (.iastore, 1) := by decide +kernel
theorem dX6_digest_34 : decode cX6_digest 34 = .ok (.dup, 1) := by decide +kernel
theorem dX6_digest_35 : decode cX6_digest 35 = .ok (.iconst 3, 1) := by decide +kernel
theorem dX6_digest_36 : decode cX6_digest 36 = .ok (.aload_n 0, 1) := by decide +kernel
theorem dX6_digest_37 : decode cX6_digest 37 = .ok (.getfield 84, 3) := by decide +kernel
theorem dX6_digest_40 : decode cX6_digest 40 = .ok (.iastore, 1) := by decide +kernel
theorem dX6_digest_41 : decode cX6_digest 41 = .ok (.dup, 1) := by decide +kernel
theorem dX6_digest_42 : decode cX6_digest 42 = .ok (.iconst 4, 1) := by decide +kernel
theorem dX6_digest_43 : decode cX6_digest 43 = .ok (.aload_n 0, 1) := by decide +kernel
theorem dX6_digest_44 : decode cX6_digest 44 = .ok (.getfield 100, 3) := by decide +kernel
theorem dX6_digest_47 : decode cX6_digest 47 = .ok (.iastore, 1) := by decide +kernel
theorem dX6_digest_48 : decode cX6_digest 48 = .ok (.dup, 1) := by decide +kernel
theorem dX6_digest_49 : decode cX6_digest 49 = .ok (.iconst 5, 1) := by decide +kernel
theorem dX6_digest_50 : decode cX6_digest 50 = .ok (.aload_n 0, 1) := by decide +kernel
theorem dX6_digest_51 : decode cX6_digest 51 = .ok (.getfield 103, 3) := by decide +kernel
theorem dX6_digest_54 : decode cX6_digest 54 = .ok (.iastore, 1) := by decide +kernel
theorem dX6_digest_55 : decode cX6_digest 55 = .ok (.dup, 1) := by decide +kernel
theorem dX6_digest_56 : decode cX6_digest 56 = .ok (.bipush 6, 2) := by decide +kernel
theorem dX6_digest_58 : decode cX6_digest 58 = .ok (.aload_n 0, 1) := by decide +kernel
theorem dX6_digest_59 : decode cX6_digest 59 = .ok (.getfield 97, 3) := by decide +kernel
theorem dX6_digest_62 : decode cX6_digest 62 = .ok (.iastore, 1) := by decide +kernel
theorem dX6_digest_63 : decode cX6_digest 63 = .ok (.dup, 1) := by decide +kernel
theorem dX6_digest_64 : decode cX6_digest 64 = .ok (.bipush 7, 2) := by decide +kernel
theorem dX6_digest_66 : decode cX6_digest 66 = .ok (.aload_n 0, 1) := by decide +kernel
theorem dX6_digest_67 : decode cX6_digest 67 = .ok (.getfield 63, 3) := by decide +kernel
theorem dX6_digest_70 : decode cX6_digest 70 = .ok (.iastore, 1) := by decide +kernel
theorem dX6_digest_71 : decode cX6_digest 71 = .ok (.astore_n 1, 1) := by decide +kernel
theorem dX6_digest_72 : decode cX6_digest 72 = .ok (.ldc2_w 177, 3) := by decide +kernel
theorem dX6_digest_75 : decode cX6_digest 75 = .ok (.lstore_n 2, 1) := by decide +kernel
theorem dX6_digest_76 : decode cX6_digest 76 = .ok (.aload_n 1, 1) := by decide +kernel
theorem dX6_digest_77 : decode cX6_digest 77 = .ok (.astore 4, 2) := by decide +kernel
theorem dX6_digest_79 : decode cX6_digest 79 = .ok (.aload 4, 2) := by decide +kernel
theorem dX6_digest_81 : decode cX6_digest 81 = .ok (.arraylength, 1) := by decide +kernel
theorem dX6_digest_82 : decode cX6_digest 82 = .ok (.istore 5, 2) := by decide +kernel
theorem dX6_digest_84 : decode cX6_digest 84 = .ok (.iconst 0, 1) := by decide +kernel
theorem dX6_digest_85 : decode cX6_digest 85 = .ok (.istore 6, 2) := by decide +kernel
theorem dX6_digest_87 : decode cX6_digest 87 = .ok (.iload 6, 2) := by decide +kernel
theorem dX6_digest_89 : decode cX6_digest 89 = .ok (.iload 5, 2) := by decide +kernel
theorem dX6_digest_91 : decode cX6_digest 91 = .ok (.if_icmp .ge 26, 3) := by decide +kernel
theorem dX6_digest_94 : decode cX6_digest 94 = .ok (.aload 4, 2) := by decide +kernel
theorem dX6_digest_96 : decode cX6_digest 96 = .ok (.iload 6, 2) := by decide +kernel
theorem dX6_digest_98 : decode cX6_digest 98 = .ok (.iaload, 1) := by decide +kernel
theorem dX6_digest_99 : decode cX6_digest 99 = .ok (.istore 7, 2) := by decide +kernel
theorem dX6_digest_101 : decode cX6_digest 101 = .ok (.lload_n 2, 1) := by decide +kernel
theorem dX6_digest_102 : decode cX6_digest 102 = .ok (.ldc2_w 179, 3) := by decide +kernel
theorem dX6_digest_105 : decode cX6_digest 105 = .ok (.lmul, 1) := by decide +kernel
theorem dX6_digest_106 : decode cX6_digest 106 = .ok (.iload 7, 2) := by decide +kernel
theorem dX6_digest_108 : decode cX6_digest 108 = .ok (.i2l, 1) := by decide +kernel
theorem dX6_digest_109 : decode cX6_digest 109 = .ok (.ladd, 1) := by decide +kernel
theorem dX6_digest_110 : decode cX6_digest 110 = .ok (.lstore_n 2, 1) := by decide +kernel
theorem dX6_digest_111 : decode cX6_digest 111 = .ok (.iinc 6 1, 3) := by decide +kernel
theorem dX6_digest_114 : decode cX6_digest 114 = .ok (.goto (-27), 3) := by decide +kernel
theorem dX6_digest_117 : decode cX6_digest 117 = .ok (.iconst 0, 1) := by decide +kernel
theorem dX6_digest_118 : decode cX6_digest 118 = .ok (.istore 4, 2) := by decide +kernel
theorem dX6_digest_120 : decode cX6_digest 120 = .ok (.iload 4, 2) := by decide +kernel
theorem dX6_digest_122 : decode cX6_digest 122 = .ok (.aload_n 0, 1) := by decide +kernel
theorem dX6_digest_123 : decode cX6_digest 123 = .ok (.getfield 63, 3) := by decide +kernel
theorem dX6_digest_126 : decode cX6_digest 126 = .ok (.if_icmp .ge 72, 3) := by decide +kernel
theorem dX6_digest_129 : decode cX6_digest 129 = .ok (.iconst 0, 1) := by decide +kernel
theorem dX6_digest_130 : decode cX6_digest 130 = .ok (.istore 5, 2) := by decide +kernel
theorem dX6_digest_132 : decode cX6_digest 132 = .ok (.iload 5, 2) := by decide +kernel
theorem dX6_digest_134 : decode cX6_digest 134 = .ok (.bipush 10, 2) := by decide +kernel
theorem dX6_digest_136 : decode cX6_digest 136 = .ok (.if_icmp .ge 25, 3) := by decide +kernel
theorem dX6_digest_139 : decode cX6_digest 139 = .ok (.lload_n 2, 1) := by decide +kernel
theorem dX6_digest_140 : decode cX6_digest 140 = .ok (.ldc2_w 179, 3) := by decide +kernel
theorem dX6_digest_143 : decode cX6_digest 143 = .ok (.lmul, 1) := by decide +kernel
theorem dX6_digest_144 : decode cX6_digest 144 = .ok (.aload_n 0, 1) := by decide +kernel
theorem dX6_digest_145 : decode cX6_digest 145 = .ok (.iload 4, 2) := by decide +kernel
theorem dX6_digest_147 : decode cX6_digest 147 = .ok (.iload 5, 2) := by decide +kernel
theorem dX6_digest_149 : decode cX6_digest 149 = .ok (.invokevirtual 165, 3) := by decide +kernel
theorem dX6_digest_152 : decode cX6_digest 152 = .ok (.i2l, 1) := by decide +kernel
theorem dX6_digest_153 : decode cX6_digest 153 = .ok (.ladd, 1) := by decide +kernel
theorem dX6_digest_154 : decode cX6_digest 154 = .ok (.lstore_n 2, 1) := by decide +kernel
theorem dX6_digest_155 : decode cX6_digest 155 = .ok (.iinc 5 1, 3) := by decide +kernel
theorem dX6_digest_158 : decode cX6_digest 158 = .ok (.goto (-26), 3) := by decide +kernel
theorem dX6_digest_161 : decode cX6_digest 161 = .ok (.iconst 0, 1) := by decide +kernel
theorem dX6_digest_162 : decode cX6_digest 162 = .ok (.istore 5, 2) := by decide +kernel
theorem dX6_digest_164 : decode cX6_digest 164 = .ok (.iload 5, 2) := by decide +kernel
theorem dX6_digest_166 : decode cX6_digest 166 = .ok (.iconst 5, 1) := by decide +kernel
theorem dX6_digest_167 : decode cX6_digest 167 = .ok (.if_icmp .ge 25, 3) := by decide +kernel
theorem dX6_digest_170 : decode cX6_digest 170 = .ok (.lload_n 2, 1) := by decide +kernel
theorem dX6_digest_171 : decode cX6_digest 171 = .ok (.ldc2_w 179, 3) := by decide +kernel
theorem dX6_digest_174 : decode cX6_digest 174 = .ok (.lmul, 1) := by decide +kernel
theorem dX6_digest_175 : decode cX6_digest 175 = .ok (.aload_n 0, 1) := by decide +kernel
theorem dX6_digest_176 : decode cX6_digest 176 = .ok (.iload 4, 2) := by decide +kernel
theorem dX6_digest_178 : decode cX6_digest 178 = .ok (.iload 5, 2) := by decide +kernel
theorem dX6_digest_180 : decode cX6_digest 180 = .ok (.invokevirtual 171, 3) := by decide +kernel
theorem dX6_digest_183 : decode cX6_digest 183 = .ok (.i2l, 1) := by decide +kernel
theorem dX6_digest_184 : decode cX6_digest 184 = .ok (.ladd, 1) := by decide +kernel
theorem dX6_digest_185 : decode cX6_digest 185 = .ok (.lstore_n 2, 1) := by decide +kernel
theorem dX6_digest_186 : decode cX6_digest 186 = .ok (.iinc 5 1, 3) := by decide +kernel
theorem dX6_digest_189 : decode cX6_digest 189 = .ok (.goto (-25), 3) := by decide +kernel
theorem dX6_digest_192 : decode cX6_digest 192 = .ok (.iinc 4 1, 3) := by decide +kernel
theorem dX6_digest_195 : decode cX6_digest 195 = .ok (.goto (-75), 3) := by decide +kernel
theorem dX6_digest_198 : decode cX6_digest 198 = .ok (.lload_n 2, 1) := by decide +kernel
theorem dX6_digest_199 : decode cX6_digest 199 = .ok (.ldc2_w 179, 3) := by decide +kernel
theorem dX6_digest_202 : decode cX6_digest 202 = .ok (.lmul, 1) := by decide +kernel
theorem dX6_digest_203 : decode cX6_digest 203 = .ok (.aload_n 0, 1) := by decide +kernel
theorem dX6_digest_204 : decode cX6_digest 204 = .ok (.getfield 133, 3) := by decide +kernel
theorem dX6_digest_207 : decode cX6_digest 207 = .ok (.i2l, 1) := by decide +kernel
theorem dX6_digest_208 : decode cX6_digest 208 = .ok (.ladd, 1) := by decide +kernel
theorem dX6_digest_209 : decode cX6_digest 209 = .ok (.lstore_n 2, 1) := by decide +kernel
theorem dX6_digest_210 : decode cX6_digest 210 = .ok (.iconst 0, 1) := by decide +kernel
theorem dX6_digest_211 : decode cX6_digest 211 = .ok (.istore 4, 2) := by decide +kernel
theorem dX6_digest_213 : decode cX6_digest 213 = .ok (.iload 4, 2) := by decide +kernel
theorem dX6_digest_215 : decode cX6_digest 215 = .ok (.iconst 4, 1) := by decide +kernel
theorem dX6_digest_216 : decode cX6_digest 216 = .ok (.aload_n 0, 1) := by decide +kernel
theorem dX6_digest_217 : decode cX6_digest 217 = .ok (.getfield 133, 3) := by decide +kernel
theorem dX6_digest_220 : decode cX6_digest 220 = .ok (.imul, 1) := by decide +kernel
theorem dX6_digest_221 : decode cX6_digest 221 = .ok (.if_icmp .ge 24, 3) := by decide +kernel
theorem dX6_digest_224 : decode cX6_digest 224 = .ok (.lload_n 2, 1) := by decide +kernel
theorem dX6_digest_225 : decode cX6_digest 225 = .ok (.ldc2_w 179, 3) := by decide +kernel
theorem dX6_digest_228 : decode cX6_digest 228 = .ok (.lmul, 1) := by decide +kernel
theorem dX6_digest_229 : decode cX6_digest 229 = .ok (.aload_n 0, 1) := by decide +kernel
theorem dX6_digest_230 : decode cX6_digest 230 = .ok (.getfield 57, 3) := by decide +kernel
theorem dX6_digest_233 : decode cX6_digest 233 = .ok (.iload 4, 2) := by decide +kernel
theorem dX6_digest_235 : decode cX6_digest 235 = .ok (.iaload, 1) := by decide +kernel
theorem dX6_digest_236 : decode cX6_digest 236 = .ok (.i2l, 1) := by decide +kernel
theorem dX6_digest_237 : decode cX6_digest 237 = .ok (.ladd, 1) := by decide +kernel
theorem dX6_digest_238 : decode cX6_digest 238 = .ok (.lstore_n 2, 1) := by decide +kernel
theorem dX6_digest_239 : decode cX6_digest 239 = .ok (.iinc 4 1, 3) := by decide +kernel
theorem dX6_digest_242 : decode cX6_digest 242 = .ok (.goto (-29), 3) := by decide +kernel
theorem dX6_digest_245 : decode cX6_digest 245 = .ok (.lload_n 2, 1) := by decide +kernel
theorem dX6_digest_246 : decode cX6_digest 246 = .ok (.lreturn, 1) := by decide +kernel
theorem dJ9_floorMod_7cf53_0 : decode cJ9_floorMod_7cf53 0 = .ok (.iload_n 0, 1) := by decide +kernel
theorem dJ9_floorMod_7cf53_1 : decode cJ9_floorMod_7cf53 1 = .ok (.iload_n 1, 1) := by decide +kernel
theorem dJ9_floorMod_7cf53_2 : decode cJ9_floorMod_7cf53 2 = .ok (.irem, 1) := by decide +kernel
theorem dJ9_floorMod_7cf53_3 : decode cJ9_floorMod_7cf53 3 = .ok (.istore_n 2, 1) := by decide +kernel
theorem dJ9_floorMod_7cf53_4 : decode cJ9_floorMod_7cf53 4 = .ok (.iload_n 0, 1) := by decide +kernel
theorem dJ9_floorMod_7cf53_5 : decode cJ9_floorMod_7cf53 5 = .ok (.iload_n 1, 1) := by decide +kernel
theorem dJ9_floorMod_7cf53_6 : decode cJ9_floorMod_7cf53 6 = .ok (.ixor, 1) := by decide +kernel
theorem dJ9_floorMod_7cf53_7 : decode cJ9_floorMod_7cf53 7 = .ok (.ifCond .ge 11, 3) := by decide +kernel
theorem dJ9_floorMod_7cf53_10 : decode cJ9_floorMod_7cf53 10 = .ok (.iload_n 2, 1) := by decide +kernel
theorem dJ9_floorMod_7cf53_11 : decode cJ9_floorMod_7cf53 11 = .ok (.ifCond .eq 7, 3) := by decide +kernel
theorem dJ9_floorMod_7cf53_14 : decode cJ9_floorMod_7cf53 14 = .ok (.iload_n 2, 1) := by decide +kernel
theorem dJ9_floorMod_7cf53_15 : decode cJ9_floorMod_7cf53 15 = .ok (.iload_n 1, 1) := by decide +kernel
theorem dJ9_floorMod_7cf53_16 : decode cJ9_floorMod_7cf53 16 = .ok (.iadd, 1) := by decide +kernel
theorem dJ9_floorMod_7cf53_17 : decode cJ9_floorMod_7cf53 17 = .ok (.ireturn, 1) := by decide +kernel
theorem dJ9_floorMod_7cf53_18 : decode cJ9_floorMod_7cf53 18 = .ok (.iload_n 2, 1) := by decide +kernel
theorem dJ9_floorMod_7cf53_19 : decode cJ9_floorMod_7cf53 19 = .ok (.ireturn, 1) := by decide +kernel
theorem dJ9_abs_0f7a4_0 : decode cJ9_abs_0f7a4 0 = .ok (.iload_n 0, 1) := by decide +kernel
theorem dJ9_abs_0f7a4_1 : decode cJ9_abs_0f7a4 1 = .ok (.ifCond .ge 8, 3) := by decide +kernel
theorem dJ9_abs_0f7a4_4 : decode cJ9_abs_0f7a4 4 = .ok (.iload_n 0, 1) := by decide +kernel
theorem dJ9_abs_0f7a4_5 : decode cJ9_abs_0f7a4 5 = .ok (.ineg, 1) := by decide +kernel
theorem dJ9_abs_0f7a4_6 : decode cJ9_abs_0f7a4 6 = .ok (.goto 4, 3) := by decide +kernel
theorem dJ9_abs_0f7a4_9 : decode cJ9_abs_0f7a4 9 = .ok (.iload_n 0, 1) := by decide +kernel
theorem dJ9_abs_0f7a4_10 : decode cJ9_abs_0f7a4 10 = .ok (.ireturn, 1) := by decide +kernel
theorem dJ9_max_7cf53_0 : decode cJ9_max_7cf53 0 = .ok (.iload_n 0, 1) := by decide +kernel
theorem dJ9_max_7cf53_1 : decode cJ9_max_7cf53 1 = .ok (.iload_n 1, 1) := by decide +kernel
theorem dJ9_max_7cf53_2 : decode cJ9_max_7cf53 2 = .ok (.if_icmp .lt 7, 3) := by decide +kernel
theorem dJ9_max_7cf53_5 : decode cJ9_max_7cf53 5 = .ok (.iload_n 0, 1) := by decide +kernel
theorem dJ9_max_7cf53_6 : decode cJ9_max_7cf53 6 = .ok (.goto 4, 3) := by decide +kernel
theorem dJ9_max_7cf53_9 : decode cJ9_max_7cf53 9 = .ok (.iload_n 1, 1) := by decide +kernel
theorem dJ9_max_7cf53_10 : decode cJ9_max_7cf53 10 = .ok (.ireturn, 1) := by decide +kernel
theorem dJ9_min_7cf53_0 : decode cJ9_min_7cf53 0 = .ok (.iload_n 0, 1) := by decide +kernel
theorem dJ9_min_7cf53_1 : decode cJ9_min_7cf53 1 = .ok (.iload_n 1, 1) := by decide +kernel
theorem dJ9_min_7cf53_2 : decode cJ9_min_7cf53 2 = .ok (.if_icmp .gt 7, 3) := by decide +kernel
theorem dJ9_min_7cf53_5 : decode cJ9_min_7cf53 5 = .ok (.iload_n 0, 1) := by decide +kernel
theorem dJ9_min_7cf53_6 : decode cJ9_min_7cf53 6 = .ok (.goto 4, 3) := by decide +kernel
theorem dJ9_min_7cf53_9 : decode cJ9_min_7cf53 9 = .ok (.iload_n 1, 1) := by decide +kernel
theorem dJ9_min_7cf53_10 : decode cJ9_min_7cf53 10 = .ok (.ireturn, 1) := by decide +kernel
theorem dJxa1e45_init_da8c8_0 : decode cJxa1e45_init_da8c8 0 = .ok (.aload_n 0, 1) := by decide +kernel
theorem dJxa1e45_init_da8c8_1 : decode cJxa1e45_init_da8c8 1 = .ok (.invokespecial 1, 3) := by decide +kernel
theorem dJxa1e45_init_da8c8_4 : decode cJxa1e45_init_da8c8 4 = .ok (.return_, 1) := by decide +kernel
theorem dJxc12de_init_da8c8_0 : decode cJxc12de_init_da8c8 0 = .ok (.aload_n 0, 1) := by decide +kernel
theorem dJxc12de_init_da8c8_1 : decode cJxc12de_init_da8c8 1 = .ok (.invokespecial 1, 3) := by decide +kernel
theorem dJxc12de_init_da8c8_4 : decode cJxc12de_init_da8c8 4 = .ok (.aload_n 0, 1) := by decide +kernel
theorem dJxc12de_init_da8c8_5 : decode cJxc12de_init_da8c8 5 = .ok (.iconst 0, 1) := by decide +kernel
theorem dJxc12de_init_da8c8_6 : decode cJxc12de_init_da8c8 6 = .ok (.putfield 7, 3) := by decide +kernel
theorem dJxc12de_init_da8c8_9 : decode cJxc12de_init_da8c8 9 = .ok (.return_, 1) := by decide +kernel
theorem dJx4a65c_init_da8c8_0 : decode cJx4a65c_init_da8c8 0 = .ok (.aload_n 0, 1) := by decide +kernel
theorem dJx4a65c_init_da8c8_1 : decode cJx4a65c_init_da8c8 1 = .ok (.invokespecial 1, 3) := by decide +kernel
theorem dJx4a65c_init_da8c8_4 : decode cJx4a65c_init_da8c8 4 = .ok (.aload_n 0, 1) := by decide +kernel
theorem dJx4a65c_init_da8c8_5 : decode cJx4a65c_init_da8c8 5 = .ok (.getstatic 39, 3) := by decide +kernel
theorem dJx4a65c_init_da8c8_8 : decode cJx4a65c_init_da8c8 8 = .ok (.putfield 9, 3) := by decide +kernel
theorem dJx4a65c_init_da8c8_11 : decode cJx4a65c_init_da8c8 11 = .ok (.return_, 1) := by decide +kernel
theorem dJx4a65c_grow_92f84_0 : decode cJx4a65c_grow_92f84 0 = .ok (.aload_n 0, 1) := by decide +kernel
theorem dJx4a65c_grow_92f84_1 : decode cJx4a65c_grow_92f84 1 = .ok (.getfield 9, 3) := by decide +kernel
theorem dJx4a65c_grow_92f84_4 : decode cJx4a65c_grow_92f84 4 = .ok (.arraylength, 1) := by decide +kernel
theorem dJx4a65c_grow_92f84_5 : decode cJx4a65c_grow_92f84 5 = .ok (.istore_n 2, 1) := by decide +kernel
theorem dJx4a65c_grow_92f84_6 : decode cJx4a65c_grow_92f84 6 = .ok (.iload_n 2, 1) := by decide +kernel
theorem dJx4a65c_grow_92f84_7 : decode cJx4a65c_grow_92f84 7 = .ok (.ifCond .gt 13, 3) := by decide +kernel
theorem dJx4a65c_grow_92f84_10 : decode cJx4a65c_grow_92f84 10 = .ok (.aload_n 0, 1) := by decide +kernel
theorem dJx4a65c_grow_92f84_11 : decode cJx4a65c_grow_92f84 11 = .ok (.getfield 9, 3) := by decide +kernel
theorem dJx4a65c_grow_92f84_14 : decode cJx4a65c_grow_92f84 14 = .ok (.getstatic 39, 3) := by decide +kernel
theorem dJx4a65c_grow_92f84_17 : decode cJx4a65c_grow_92f84 17 = .ok (.if_acmp .eq 28, 3) := by decide +kernel
theorem dJx4a65c_grow_92f84_20 : decode cJx4a65c_grow_92f84 20 = .ok (.iload_n 2, 1) := by decide +kernel
theorem dJx4a65c_grow_92f84_21 : decode cJx4a65c_grow_92f84 21 = .ok (.iload_n 1, 1) := by decide +kernel
theorem dJx4a65c_grow_92f84_22 : decode cJx4a65c_grow_92f84 22 = .ok (.iload_n 2, 1) := by decide +kernel
theorem dJx4a65c_grow_92f84_23 : decode cJx4a65c_grow_92f84 23 = .ok (.isub, 1) := by decide +kernel
theorem dJx4a65c_grow_92f84_24 : decode cJx4a65c_grow_92f84 24 = .ok (.iload_n 2, 1) := by decide +kernel
theorem dJx4a65c_grow_92f84_25 : decode cJx4a65c_grow_92f84 25 = .ok (.iconst 1, 1) := by decide +kernel
theorem dJx4a65c_grow_92f84_26 : decode cJx4a65c_grow_92f84 26 = .ok (.ishr, 1) := by decide +kernel
theorem dJx4a65c_grow_92f84_27 : decode cJx4a65c_grow_92f84 27 = .ok (.invokestatic 73, 3) := by decide +kernel
theorem dJx4a65c_grow_92f84_30 : decode cJx4a65c_grow_92f84 30 = .ok (.istore_n 3, 1) := by decide +kernel
theorem dJx4a65c_grow_92f84_31 : decode cJx4a65c_grow_92f84 31 = .ok (.aload_n 0, 1) := by decide +kernel
theorem dJx4a65c_grow_92f84_32 : decode cJx4a65c_grow_92f84 32 = .ok (.aload_n 0, 1) := by decide +kernel
theorem dJx4a65c_grow_92f84_33 : decode cJx4a65c_grow_92f84 33 = .ok (.getfield 9, 3) := by decide +kernel
theorem dJx4a65c_grow_92f84_36 : decode cJx4a65c_grow_92f84 36 = .ok (.iload_n 3, 1) := by decide +kernel
theorem dJx4a65c_grow_92f84_37 : decode cJx4a65c_grow_92f84 37 = .ok (.invokestatic 66, 3) := by decide +kernel
theorem dJx4a65c_grow_92f84_40 : decode cJx4a65c_grow_92f84 40 = .ok (.dup_x1, 1) := by decide +kernel
theorem dJx4a65c_grow_92f84_41 : decode cJx4a65c_grow_92f84 41 = .ok (.putfield 9, 3) := by decide +kernel
theorem dJx4a65c_grow_92f84_44 : decode cJx4a65c_grow_92f84 44 = .ok (.areturn, 1) := by decide +kernel
theorem dJx4a65c_grow_92f84_45 : decode cJx4a65c_grow_92f84 45 = .ok (.aload_n 0, 1) := by decide +kernel
theorem dJx4a65c_grow_92f84_46 : decode cJx4a65c_grow_92f84 46 = .ok (.bipush 10, 2) := by decide +kernel
theorem dJx4a65c_grow_92f84_48 : decode cJx4a65c_grow_92f84 48 = .ok (.iload_n 1, 1) := by decide +kernel
theorem dJx4a65c_grow_92f84_49 : decode cJx4a65c_grow_92f84 49 = .ok (.invokestatic 79, 3) := by decide +kernel
theorem dJx4a65c_grow_92f84_52 : decode cJx4a65c_grow_92f84 52 = .ok (.anewarray 7, 3) := by decide +kernel
theorem dJx4a65c_grow_92f84_55 : decode cJx4a65c_grow_92f84 55 = .ok (.dup_x1, 1) := by decide +kernel
theorem dJx4a65c_grow_92f84_56 : decode cJx4a65c_grow_92f84 56 = .ok (.putfield 9, 3) := by decide +kernel
theorem dJx4a65c_grow_92f84_59 : decode cJx4a65c_grow_92f84 59 = .ok (.areturn, 1) := by decide +kernel
theorem dJx4a65c_grow_d5877_0 : decode cJx4a65c_grow_d5877 0 = .ok (.aload_n 0, 1) := by decide +kernel
theorem dJx4a65c_grow_d5877_1 : decode cJx4a65c_grow_d5877 1 = .ok (.aload_n 0, 1) := by decide +kernel
theorem dJx4a65c_grow_d5877_2 : decode cJx4a65c_grow_d5877 2 = .ok (.getfield 48, 3) := by decide +kernel
theorem dJx4a65c_grow_d5877_5 : decode cJx4a65c_grow_d5877 5 = .ok (.iconst 1, 1) := by decide +kernel
theorem dJx4a65c_grow_d5877_6 : decode cJx4a65c_grow_d5877 6 = .ok (.iadd, 1) := by decide +kernel
theorem dJx4a65c_grow_d5877_7 : decode cJx4a65c_grow_d5877 7 = .ok (.invokevirtual 69, 3) := by decide +kernel
theorem dJx4a65c_grow_d5877_10 : decode cJx4a65c_grow_d5877 10 = .ok (.areturn, 1) := by decide +kernel
theorem dJx4a65c_size_8abf5_0 : decode cJx4a65c_size_8abf5 0 = .ok (.aload_n 0, 1) := by decide +kernel
theorem dJx4a65c_size_8abf5_1 : decode cJx4a65c_size_8abf5 1 = .ok (.getfield 48, 3) := by decide +kernel
theorem dJx4a65c_size_8abf5_4 : decode cJx4a65c_size_8abf5 4 = .ok (.ireturn, 1) := by decide +kernel
theorem dJx4a65c_elementData_915e3_0 : decode cJx4a65c_elementData_915e3 0 = .ok (.aload_n 0, 1) := by decide +kernel
theorem dJx4a65c_elementData_915e3_1 : decode cJx4a65c_elementData_915e3 1 = .ok (.getfield 9, 3) := by decide +kernel
theorem dJx4a65c_elementData_915e3_4 : decode cJx4a65c_elementData_915e3 4 = .ok (.iload_n 1, 1) := by decide +kernel
theorem dJx4a65c_elementData_915e3_5 : decode cJx4a65c_elementData_915e3 5 = .ok (.aaload, 1) := by decide +kernel
theorem dJx4a65c_elementData_915e3_6 : decode cJx4a65c_elementData_915e3 6 = .ok (.areturn, 1) := by decide +kernel
theorem dJx4a65c_get_915e3_0 : decode cJx4a65c_get_915e3 0 = .ok (.iload_n 1, 1) := by decide +kernel
theorem dJx4a65c_get_915e3_1 : decode cJx4a65c_get_915e3 1 = .ok (.aload_n 0, 1) := by decide +kernel
theorem dJx4a65c_get_915e3_2 : decode cJx4a65c_get_915e3 2 = .ok (.getfield 48, 3) := by decide +kernel
theorem dJx4a65c_get_915e3_5 : decode cJx4a65c_get_915e3 5 = .ok (.invokestatic 118, 3) := by decide +kernel
theorem dJx4a65c_get_915e3_8 : decode cJx4a65c_get_915e3 8 = .ok (.pop, 1) := by decide +kernel
theorem dJx4a65c_get_915e3_9 : decode cJx4a65c_get_915e3 9 = .ok (.aload_n 0, 1) := by decide +kernel
theorem dJx4a65c_get_915e3_10 : decode cJx4a65c_get_915e3 10 = .ok (.iload_n 1, 1) := by decide +kernel
theorem dJx4a65c_get_915e3_11 : decode cJx4a65c_get_915e3 11 = .ok (.invokevirtual 123, 3) := by decide +kernel
theorem dJx4a65c_get_915e3_14 : decode cJx4a65c_get_915e3 14 = .ok (.areturn, 1) := by decide +kernel
theorem dJx4a65c_add_72be8_0 : decode cJx4a65c_add_72be8 0 = .ok (.iload_n 3, 1) := by decide +kernel
theorem dJx4a65c_add_72be8_1 : decode cJx4a65c_add_72be8 1 = .ok (.aload_n 2, 1) := by decide +kernel
theorem dJx4a65c_add_72be8_2 : decode cJx4a65c_add_72be8 2 = .ok (.arraylength, 1) := by decide +kernel
theorem dJx4a65c_add_72be8_3 : decode cJx4a65c_add_72be8 3 = .ok (.if_icmp .ne 8, 3) := by decide +kernel
theorem dJx4a65c_add_72be8_6 : decode cJx4a65c_add_72be8 6 = .ok (.aload_n 0, 1) := by decide +kernel
theorem dJx4a65c_add_72be8_7 : decode cJx4a65c_add_72be8 7 = .ok (.invokevirtual 129, 3) := by decide +kernel
theorem dJx4a65c_add_72be8_10 : decode cJx4a65c_add_72be8 10 = .ok (.astore_n 2, 1) := by decide +kernel
theorem dJx4a65c_add_72be8_11 : decode cJx4a65c_add_72be8 11 = .ok (.aload_n 2, 1) := by decide +kernel
theorem dJx4a65c_add_72be8_12 : decode cJx4a65c_add_72be8 12 = .ok (.iload_n 3, 1) := by decide +kernel
theorem dJx4a65c_add_72be8_13 : decode cJx4a65c_add_72be8 13 = .ok (.aload_n 1, 1) := by decide +kernel
theorem dJx4a65c_add_72be8_14 : decode cJx4a65c_add_72be8 14 = .ok (.aastore, 1) := by decide +kernel
theorem dJx4a65c_add_72be8_15 : decode cJx4a65c_add_72be8 15 = .ok (.aload_n 0, 1) := by decide +kernel
theorem dJx4a65c_add_72be8_16 : decode cJx4a65c_add_72be8 16 = .ok (.iload_n 3, 1) := by decide +kernel
theorem dJx4a65c_add_72be8_17 : decode cJx4a65c_add_72be8 17 = .ok (.iconst 1, 1) := by decide +kernel
theorem dJx4a65c_add_72be8_18 : decode cJx4a65c_add_72be8 18 = .ok (.iadd, 1) := by decide +kernel
theorem dJx4a65c_add_72be8_19 : decode cJx4a65c_add_72be8 19 = .ok (.putfield 48, 3) := by decide +kernel
theorem dJx4a65c_add_72be8_22 : decode cJx4a65c_add_72be8 22 = .ok (.return_, 1) := by decide +kernel
theorem dJx4a65c_add_9ea2d_0 : decode cJx4a65c_add_9ea2d 0 = .ok (.aload_n 0, 1) := by decide +kernel
theorem dJx4a65c_add_9ea2d_1 : decode cJx4a65c_add_9ea2d 1 = .ok (.dup, 1) := by decide +kernel
theorem dJx4a65c_add_9ea2d_2 : decode cJx4a65c_add_9ea2d 2 = .ok (.getfield 63, 3) := by decide +kernel
theorem dJx4a65c_add_9ea2d_5 : decode cJx4a65c_add_9ea2d 5 = .ok (.iconst 1, 1) := by decide +kernel
theorem dJx4a65c_add_9ea2d_6 : decode cJx4a65c_add_9ea2d 6 = .ok (.iadd, 1) := by decide +kernel
theorem dJx4a65c_add_9ea2d_7 : decode cJx4a65c_add_9ea2d 7 = .ok (.putfield 63, 3) := by decide +kernel
theorem dJx4a65c_add_9ea2d_10 : decode cJx4a65c_add_9ea2d 10 = .ok (.aload_n 0, 1) := by decide +kernel
theorem dJx4a65c_add_9ea2d_11 : decode cJx4a65c_add_9ea2d 11 = .ok (.aload_n 1, 1) := by decide +kernel
theorem dJx4a65c_add_9ea2d_12 : decode cJx4a65c_add_9ea2d 12 = .ok (.aload_n 0, 1) := by decide +kernel
theorem dJx4a65c_add_9ea2d_13 : decode cJx4a65c_add_9ea2d 13 = .ok (.getfield 9, 3) := by decide +kernel
theorem dJx4a65c_add_9ea2d_16 : decode cJx4a65c_add_9ea2d 16 = .ok (.aload_n 0, 1) := by decide +kernel
theorem dJx4a65c_add_9ea2d_17 : decode cJx4a65c_add_9ea2d 17 = .ok (.getfield 48, 3) := by decide +kernel
theorem dJx4a65c_add_9ea2d_20 : decode cJx4a65c_add_9ea2d 20 = .ok (.invokevirtual 131, 3) := by decide +kernel
theorem dJx4a65c_add_9ea2d_23 : decode cJx4a65c_add_9ea2d 23 = .ok (.iconst 1, 1) := by decide +kernel
theorem dJx4a65c_add_9ea2d_24 : decode cJx4a65c_add_9ea2d 24 = .ok (.ireturn, 1) := by decide +kernel
theorem dJ7_fill_53178_0 : decode cJ7_fill_53178 0 = .ok (.iconst 0, 1) := by decide +kernel
theorem dJ7_fill_53178_1 : decode cJ7_fill_53178 1 = .ok (.istore_n 2, 1) := by decide +kernel
theorem dJ7_fill_53178_2 : decode cJ7_fill_53178 2 = .ok (.aload_n 0, 1) := by decide +kernel
theorem dJ7_fill_53178_3 : decode cJ7_fill_53178 3 = .ok (.arraylength, 1) := by decide +kernel
theorem dJ7_fill_53178_4 : decode cJ7_fill_53178 4 = .ok (.istore_n 3, 1) := by decide +kernel
theorem dJ7_fill_53178_5 : decode cJ7_fill_53178 5 = .ok (.iload_n 2, 1) := by decide +kernel
theorem dJ7_fill_53178_6 : decode cJ7_fill_53178 6 = .ok (.iload_n 3, 1) := by decide +kernel
theorem dJ7_fill_53178_7 : decode cJ7_fill_53178 7 = .ok (.if_icmp .ge 13, 3) := by decide +kernel
theorem dJ7_fill_53178_10 : decode cJ7_fill_53178 10 = .ok (.aload_n 0, 1) := by decide +kernel
theorem dJ7_fill_53178_11 : decode cJ7_fill_53178 11 = .ok (.iload_n 2, 1) := by decide +kernel
theorem dJ7_fill_53178_12 : decode cJ7_fill_53178 12 = .ok (.iload_n 1, 1) := by decide +kernel
theorem dJ7_fill_53178_13 : decode cJ7_fill_53178 13 = .ok (.iastore, 1) := by decide +kernel
theorem dJ7_fill_53178_14 : decode cJ7_fill_53178 14 = .ok (.iinc 2 1, 3) := by decide +kernel
theorem dJ7_fill_53178_17 : decode cJ7_fill_53178 17 = .ok (.goto (-12), 3) := by decide +kernel
theorem dJ7_fill_53178_20 : decode cJ7_fill_53178 20 = .ok (.return_, 1) := by decide +kernel
theorem dJ7_copyOf_1904c_0 : decode cJ7_copyOf_1904c 0 = .ok (.aload_n 0, 1) := by decide +kernel
theorem dJ7_copyOf_1904c_1 : decode cJ7_copyOf_1904c 1 = .ok (.iload_n 1, 1) := by decide +kernel
theorem dJ7_copyOf_1904c_2 : decode cJ7_copyOf_1904c 2 = .ok (.aload_n 0, 1) := by decide +kernel
theorem dJ7_copyOf_1904c_3 : decode cJ7_copyOf_1904c 3 = .ok (.invokevirtual 86, 3) := by decide +kernel
theorem dJ7_copyOf_1904c_6 : decode cJ7_copyOf_1904c 6 = .ok (.invokestatic 300, 3) := by decide +kernel
theorem dJ7_copyOf_1904c_9 : decode cJ7_copyOf_1904c 9 = .ok (.areturn, 1) := by decide +kernel
theorem dJ7_copyOf_6403c_0 : decode cJ7_copyOf_6403c 0 = .ok (.aload_n 2, 1) := by decide +kernel
theorem dJ7_copyOf_6403c_1 : decode cJ7_copyOf_6403c 1 = .ok (.ldc 110, 2) := by decide +kernel
theorem dJ7_copyOf_6403c_3 : decode cJ7_copyOf_6403c 3 = .ok (.if_acmp .ne 10, 3) := by decide +kernel
theorem dJ7_copyOf_6403c_6 : decode cJ7_copyOf_6403c 6 = .ok (.iload_n 1, 1) := by decide +kernel
theorem dJ7_copyOf_6403c_7 : decode cJ7_copyOf_6403c 7 = .ok (.anewarray 2, 3) := by decide +kernel
theorem dJ7_copyOf_6403c_10 : decode cJ7_copyOf_6403c 10 = .ok (.goto 14, 3) := by decide +kernel
theorem dJ7_copyOf_6403c_13 : decode cJ7_copyOf_6403c 13 = .ok (.aload_n 2, 1) := by decide +kernel
theorem dJ7_copyOf_6403c_14 : decode cJ7_copyOf_6403c 14 = .ok (.invokevirtual 90, 3) := by decide +kernel
theorem dJ7_copyOf_6403c_17 : decode cJ7_copyOf_6403c 17 = .ok (.iload_n 1, 1) := by decide +kernel
theorem dJ7_copyOf_6403c_18 : decode cJ7_copyOf_6403c 18 = .ok (.invokestatic 95, 3) := by decide +kernel
theorem dJ7_copyOf_6403c_21 : decode cJ7_copyOf_6403c 21 = .ok (.checkcast 110, 3) := by decide +kernel
theorem dJ7_copyOf_6403c_24 : decode cJ7_copyOf_6403c 24 = .ok (.astore_n 3, 1) := by decide +kernel
theorem dJ7_copyOf_6403c_25 : decode cJ7_copyOf_6403c 25 = .ok (.aload_n 0, 1) := by decide +kernel
theorem dJ7_copyOf_6403c_26 : decode cJ7_copyOf_6403c 26 = .ok (.iconst 0, 1) := by decide +kernel
theorem dJ7_copyOf_6403c_27 : decode cJ7_copyOf_6403c 27 = .ok (.aload_n 3, 1) := by decide +kernel
theorem dJ7_copyOf_6403c_28 : decode cJ7_copyOf_6403c 28 = .ok (.iconst 0, 1) := by decide +kernel
theorem dJ7_copyOf_6403c_29 : decode cJ7_copyOf_6403c 29 = .ok (.aload_n 0, 1) := by decide +kernel
theorem dJ7_copyOf_6403c_30 : decode cJ7_copyOf_6403c 30 = .ok (.arraylength, 1) := by decide +kernel
theorem dJ7_copyOf_6403c_31 : decode cJ7_copyOf_6403c 31 = .ok (.iload_n 1, 1) := by decide +kernel
theorem dJ7_copyOf_6403c_32 : decode cJ7_copyOf_6403c 32 = .ok (.invokestatic 304, 3) := by decide +kernel
theorem dJ7_copyOf_6403c_35 : decode cJ7_copyOf_6403c 35 = .ok (.invokestatic 150, 3) := by decide +kernel
theorem dJ7_copyOf_6403c_38 : decode cJ7_copyOf_6403c 38 = .ok (.aload_n 3, 1) := by decide +kernel
theorem dJ7_copyOf_6403c_39 : decode cJ7_copyOf_6403c 39 = .ok (.areturn, 1) := by decide +kernel
theorem dJ15_checkIndex_7cf53_0 : decode cJ15_checkIndex_7cf53 0 = .ok (.iload_n 0, 1) := by decide +kernel
theorem dJ15_checkIndex_7cf53_1 : decode cJ15_checkIndex_7cf53 1 = .ok (.iload_n 1, 1) := by decide +kernel
theorem dJ15_checkIndex_7cf53_2 : decode cJ15_checkIndex_7cf53 2 = .ok (.aconst_null, 1) := by decide +kernel
theorem dJ15_checkIndex_7cf53_3 : decode cJ15_checkIndex_7cf53 3 = .ok (.invokestatic 105, 3) := by decide +kernel
theorem dJ15_checkIndex_7cf53_6 : decode cJ15_checkIndex_7cf53 6 = .ok (.ireturn, 1) := by decide +kernel
theorem dJ8_newLength_cabcc_0 : decode cJ8_newLength_cabcc 0 = .ok (.iload_n 0, 1) := by decide +kernel
theorem dJ8_newLength_cabcc_1 : decode cJ8_newLength_cabcc 1 = .ok (.iload_n 1, 1) := by decide +kernel
theorem dJ8_newLength_cabcc_2 : decode cJ8_newLength_cabcc 2 = .ok (.iload_n 2, 1) := by decide +kernel
theorem dJ8_newLength_cabcc_3 : decode cJ8_newLength_cabcc 3 = .ok (.invokestatic 194, 3) := by decide +kernel
theorem dJ8_newLength_cabcc_6 : decode cJ8_newLength_cabcc 6 = .ok (.iadd, 1) := by decide +kernel
theorem dJ8_newLength_cabcc_7 : decode cJ8_newLength_cabcc 7 = .ok (.istore_n 3, 1) := by decide +kernel
theorem dJ8_newLength_cabcc_8 : decode cJ8_newLength_cabcc 8 = .ok (.iconst 0, 1) := by decide +kernel
theorem dJ8_newLength_cabcc_9 : decode cJ8_newLength_cabcc 9 = .ok (.iload_n 3, 1) := by decide +kernel
theorem dJ8_newLength_cabcc_10 : decode cJ8_newLength_cabcc 10 = .ok (.if_icmp .ge 11, 3) := by decide +kernel
theorem dJ8_newLength_cabcc_13 : decode cJ8_newLength_cabcc 13 = .ok (.iload_n 3, 1) := by decide +kernel
theorem dJ8_newLength_cabcc_14 : decode cJ8_newLength_cabcc 14 = .ok (.ldc 200, 2) := by decide +kernel
theorem dJ8_newLength_cabcc_16 : decode cJ8_newLength_cabcc 16 = .ok (.if_icmp .gt 5, 3) := by decide +kernel
theorem dJ8_newLength_cabcc_19 : decode cJ8_newLength_cabcc 19 = .ok (.iload_n 3, 1) := by decide +kernel
theorem dJ8_newLength_cabcc_20 : decode cJ8_newLength_cabcc 20 = .ok (.ireturn, 1) := by decide +kernel
theorem dJ8_newLength_cabcc_21 : decode cJ8_newLength_cabcc 21 = .ok (.iload_n 0, 1) := by decide +kernel
theorem dJ8_newLength_cabcc_22 : decode cJ8_newLength_cabcc 22 = .ok (.iload_n 1, 1) := by decide +kernel
theorem dJ8_newLength_cabcc_23 : decode cJ8_newLength_cabcc 23 = .ok (.invokestatic 201, 3) := by decide +kernel
theorem dJ8_newLength_cabcc_26 : decode cJ8_newLength_cabcc 26 = .ok (.ireturn, 1) := by decide +kernel
theorem dJ8_hugeLength_7cf53_0 : decode cJ8_hugeLength_7cf53 0 = .ok (.iload_n 0, 1) := by decide +kernel
theorem dJ8_hugeLength_7cf53_1 : decode cJ8_hugeLength_7cf53 1 = .ok (.iload_n 1, 1) := by decide +kernel
theorem dJ8_hugeLength_7cf53_2 : decode cJ8_hugeLength_7cf53 2 = .ok (.iadd, 1) := by decide +kernel
theorem dJ8_hugeLength_7cf53_3 : decode cJ8_hugeLength_7cf53 3 = .ok (.istore_n 2, 1) := by decide +kernel
theorem dJ8_hugeLength_7cf53_4 : decode cJ8_hugeLength_7cf53 4 = .ok (.iload_n 2, 1) := by decide +kernel
theorem dJ8_hugeLength_7cf53_5 : decode cJ8_hugeLength_7cf53 5 = .ok (.ifCond .ge 44, 3) := by decide +kernel
theorem dJ8_hugeLength_7cf53_8 : decode cJ8_hugeLength_7cf53 8 = .ok (.new 204, 3) := by decide +kernel
theorem dJ8_hugeLength_7cf53_11 : decode cJ8_hugeLength_7cf53 11 = .ok (.dup, 1) := by decide +kernel
theorem dJ8_hugeLength_7cf53_12 : decode cJ8_hugeLength_7cf53 12 = .ok (.new 89, 3) := by decide +kernel
theorem dJ8_hugeLength_7cf53_15 : decode cJ8_hugeLength_7cf53 15 = .ok (.dup, 1) := by decide +kernel
theorem dJ8_hugeLength_7cf53_16 : decode cJ8_hugeLength_7cf53 16 = .ok (.invokespecial 91, 3) := by decide +kernel
theorem dJ8_hugeLength_7cf53_19 : decode cJ8_hugeLength_7cf53 19 = .ok (.ldc 206, 2) := by decide +kernel
theorem dJ8_hugeLength_7cf53_21 : decode cJ8_hugeLength_7cf53 21 = .ok (.invokevirtual 94, 3) := by decide +kernel
theorem dJ8_hugeLength_7cf53_24 : decode cJ8_hugeLength_7cf53 24 = .ok (.iload_n 0, 1) := by decide +kernel
theorem dJ8_hugeLength_7cf53_25 : decode cJ8_hugeLength_7cf53 25 = .ok (.invokevirtual 98, 3) := by decide +kernel
theorem dJ8_hugeLength_7cf53_28 : decode cJ8_hugeLength_7cf53 28 = .ok (.ldc 208, 2) := by decide +kernel
theorem dJ8_hugeLength_7cf53_30 : decode cJ8_hugeLength_7cf53 30 = .ok (.invokevirtual 94, 3) := by decide +kernel
theorem dJ8_hugeLength_7cf53_33 : decode cJ8_hugeLength_7cf53 33 = .ok (.iload_n 1, 1) := by decide +kernel
theorem dJ8_hugeLength_7cf53_34 : decode cJ8_hugeLength_7cf53 34 = .ok (.invokevirtual 98, 3) := by decide +kernel
theorem dJ8_hugeLength_7cf53_37 : decode cJ8_hugeLength_7cf53 37 = .ok (.ldc 210, 2) := by decide +kernel
theorem dJ8_hugeLength_7cf53_39 : decode cJ8_hugeLength_7cf53 39 = .ok (.invokevirtual 94, 3) := by decide +kernel
theorem dJ8_hugeLength_7cf53_42 : decode cJ8_hugeLength_7cf53 42 = .ok (.invokevirtual 101, 3) := by decide +kernel
theorem dJ8_hugeLength_7cf53_45 : decode cJ8_hugeLength_7cf53 45 = .ok (.invokespecial 212, 3) := by decide +kernel
theorem dJ8_hugeLength_7cf53_48 : decode cJ8_hugeLength_7cf53 48 = .ok (.athrow, 1) := by decide +kernel
theorem dJ8_hugeLength_7cf53_49 : decode cJ8_hugeLength_7cf53 49 = .ok (.iload_n 2, 1) := by decide +kernel
theorem dJ8_hugeLength_7cf53_50 : decode cJ8_hugeLength_7cf53 50 = .ok (.ldc 200, 2) := by decide +kernel
theorem dJ8_hugeLength_7cf53_52 : decode cJ8_hugeLength_7cf53 52 = .ok (.if_icmp .gt 6, 3) := by decide +kernel
theorem dJ8_hugeLength_7cf53_55 : decode cJ8_hugeLength_7cf53 55 = .ok (.ldc 200, 2) := by decide +kernel
theorem dJ8_hugeLength_7cf53_57 : decode cJ8_hugeLength_7cf53 57 = .ok (.ireturn, 1) := by decide +kernel
theorem dJ8_hugeLength_7cf53_58 : decode cJ8_hugeLength_7cf53 58 = .ok (.iload_n 2, 1) := by decide +kernel
theorem dJ8_hugeLength_7cf53_59 : decode cJ8_hugeLength_7cf53 59 = .ok (.ireturn, 1) := by decide +kernel
theorem dJ3_checkIndex_8e157_0 : decode cJ3_checkIndex_8e157 0 = .ok (.iload_n 0, 1) := by decide +kernel
theorem dJ3_checkIndex_8e157_1 : decode cJ3_checkIndex_8e157 1 = .ok (.ifCond .lt 8, 3) := by decide +kernel
theorem dJ3_checkIndex_8e157_4 : decode cJ3_checkIndex_8e157 4 = .ok (.iload_n 0, 1) := by decide +kernel
theorem dJ3_checkIndex_8e157_5 : decode cJ3_checkIndex_8e157 5 = .ok (.iload_n 1, 1) := by decide +kernel
theorem dJ3_checkIndex_8e157_6 : decode cJ3_checkIndex_8e157 6 = .ok (.if_icmp .lt 10, 3) := by decide +kernel
theorem dJ3_checkIndex_8e157_9 : decode cJ3_checkIndex_8e157 9 = .ok (.aload_n 2, 1) := by decide +kernel
theorem dJ3_checkIndex_8e157_10 : decode cJ3_checkIndex_8e157 10 = .ok (.iload_n 0, 1) := by decide +kernel
theorem dJ3_checkIndex_8e157_11 : decode cJ3_checkIndex_8e157 11 = .ok (.iload_n 1, 1) := by decide +kernel
theorem dJ3_checkIndex_8e157_12 : decode cJ3_checkIndex_8e157 12 = .ok (.invokestatic 95, 3) := by decide +kernel
theorem dJ3_checkIndex_8e157_15 : decode cJ3_checkIndex_8e157 15 = .ok (.athrow, 1) := by decide +kernel
theorem dJ3_checkIndex_8e157_16 : decode cJ3_checkIndex_8e157 16 = .ok (.iload_n 0, 1) := by decide +kernel
theorem dJ3_checkIndex_8e157_17 : decode cJ3_checkIndex_8e157 17 = .ok (.ireturn, 1) := by decide +kernel
theorem dL_setSite_0 : decode cL_setSite 0 = .ok (.aload_n 3, 1) := by decide +kernel
theorem dL_setSite_1 : decode cL_setSite 1 = .ok (.iconst 0, 1) := by decide +kernel
theorem dL_setSite_2 : decode cL_setSite 2 = .ok (.aload_n 0, 1) := by decide +kernel
theorem dL_setSite_3 : decode cL_setSite 3 = .ok (.iload_n 1, 1) := by decide +kernel
theorem dL_setSite_4 : decode cL_setSite 4 = .ok (.iload_n 2, 1) := by decide +kernel
theorem dL_setSite_5 : decode cL_setSite 5 = .ok (.invokevirtual 7, 3) := by decide +kernel
theorem dL_setSite_8 : decode cL_setSite 8 = .ok (.i2l, 1) := by decide +kernel
theorem dL_setSite_9 : decode cL_setSite 9 = .ok (.lastore, 1) := by decide +kernel
theorem dL_setSite_10 : decode cL_setSite 10 = .ok (.goto 7, 3) := by decide +kernel
theorem dL_setSite_13 : decode cL_setSite 13 = .ok (.astore 4, 2) := by decide +kernel
theorem dL_setSite_15 : decode cL_setSite 15 = .ok (.iconst 1, 1) := by decide +kernel
theorem dL_setSite_16 : decode cL_setSite 16 = .ok (.ireturn, 1) := by decide +kernel
theorem dL_setSite_17 : decode cL_setSite 17 = .ok (.iconst 0, 1) := by decide +kernel
theorem dL_setSite_18 : decode cL_setSite 18 = .ok (.ireturn, 1) := by decide +kernel
theorem dL_setLength_0 : decode cL_setLength 0 = .ok (.aload_n 2, 1) := by decide +kernel
theorem dL_setLength_1 : decode cL_setLength 1 = .ok (.iconst 0, 1) := by decide +kernel
theorem dL_setLength_2 : decode cL_setLength 2 = .ok (.aload_n 0, 1) := by decide +kernel
theorem dL_setLength_3 : decode cL_setLength 3 = .ok (.iload_n 1, 1) := by decide +kernel
theorem dL_setLength_4 : decode cL_setLength 4 = .ok (.invokevirtual 15, 3) := by decide +kernel
theorem dL_setLength_7 : decode cL_setLength 7 = .ok (.i2l, 1) := by decide +kernel
theorem dL_setLength_8 : decode cL_setLength 8 = .ok (.lastore, 1) := by decide +kernel
theorem dL_setLength_9 : decode cL_setLength 9 = .ok (.goto 6, 3) := by decide +kernel
theorem dL_setLength_12 : decode cL_setLength 12 = .ok (.astore_n 3, 1) := by decide +kernel
theorem dL_setLength_13 : decode cL_setLength 13 = .ok (.iconst 1, 1) := by decide +kernel
theorem dL_setLength_14 : decode cL_setLength 14 = .ok (.ireturn, 1) := by decide +kernel
theorem dL_setLength_15 : decode cL_setLength 15 = .ok (.iconst 0, 1) := by decide +kernel
theorem dL_setLength_16 : decode cL_setLength 16 = .ok (.ireturn, 1) := by decide +kernel
theorem dL_setMoon_0 : decode cL_setMoon 0 = .ok (.aload 4, 2) := by decide +kernel
theorem dL_setMoon_2 : decode cL_setMoon 2 = .ok (.iconst 0, 1) := by decide +kernel
theorem dL_setMoon_3 : decode cL_setMoon 3 = .ok (.aload_n 0, 1) := by decide +kernel
theorem dL_setMoon_4 : decode cL_setMoon 4 = .ok (.iload_n 1, 1) := by decide +kernel
theorem dL_setMoon_5 : decode cL_setMoon 5 = .ok (.iload_n 2, 1) := by decide +kernel
theorem dL_setMoon_6 : decode cL_setMoon 6 = .ok (.iload_n 3, 1) := by decide +kernel
theorem dL_setMoon_7 : decode cL_setMoon 7 = .ok (.invokevirtual 19, 3) := by decide +kernel
theorem dL_setMoon_10 : decode cL_setMoon 10 = .ok (.i2l, 1) := by decide +kernel
theorem dL_setMoon_11 : decode cL_setMoon 11 = .ok (.lastore, 1) := by decide +kernel
theorem dL_setMoon_12 : decode cL_setMoon 12 = .ok (.goto 7, 3) := by decide +kernel
theorem dL_setMoon_15 : decode cL_setMoon 15 = .ok (.astore 5, 2) := by decide +kernel
theorem dL_setMoon_17 : decode cL_setMoon 17 = .ok (.iconst 1, 1) := by decide +kernel
theorem dL_setMoon_18 : decode cL_setMoon 18 = .ok (.ireturn, 1) := by decide +kernel
theorem dL_setMoon_19 : decode cL_setMoon 19 = .ok (.iconst 0, 1) := by decide +kernel
theorem dL_setMoon_20 : decode cL_setMoon 20 = .ok (.ireturn, 1) := by decide +kernel
theorem dL_addClouds_0 : decode cL_addClouds 0 = .ok (.aload_n 3, 1) := by decide +kernel
theorem dL_addClouds_1 : decode cL_addClouds 1 = .ok (.iconst 0, 1) := by decide +kernel
theorem dL_addClouds_2 : decode cL_addClouds 2 = .ok (.aload_n 0, 1) := by decide +kernel
theorem dL_addClouds_3 : decode cL_addClouds 3 = .ok (.iload_n 1, 1) := by decide +kernel
theorem dL_addClouds_4 : decode cL_addClouds 4 = .ok (.iload_n 2, 1) := by decide +kernel
theorem dL_addClouds_5 : decode cL_addClouds 5 = .ok (.invokevirtual 23, 3) := by decide +kernel
theorem dL_addClouds_8 : decode cL_addClouds 8 = .ok (.i2l, 1) := by decide +kernel
theorem dL_addClouds_9 : decode cL_addClouds 9 = .ok (.lastore, 1) := by decide +kernel
theorem dL_addClouds_10 : decode cL_addClouds 10 = .ok (.goto 11, 3) := by decide +kernel
theorem dL_addClouds_13 : decode cL_addClouds 13 = .ok (.astore 4, 2) := by decide +kernel
theorem dL_addClouds_15 : decode cL_addClouds 15 = .ok (.iconst 1, 1) := by decide +kernel
theorem dL_addClouds_16 : decode cL_addClouds 16 = .ok (.ireturn, 1) := by decide +kernel
theorem dL_addClouds_17 : decode cL_addClouds 17 = .ok (.astore 4, 2) := by decide +kernel
theorem dL_addClouds_19 : decode cL_addClouds 19 = .ok (.iconst 2, 1) := by decide +kernel
theorem dL_addClouds_20 : decode cL_addClouds 20 = .ok (.ireturn, 1) := by decide +kernel
theorem dL_addClouds_21 : decode cL_addClouds 21 = .ok (.iconst 0, 1) := by decide +kernel
theorem dL_addClouds_22 : decode cL_addClouds 22 = .ok (.ireturn, 1) := by decide +kernel
theorem dL_sine_0 : decode cL_sine 0 = .ok (.aload_n 2, 1) := by decide +kernel
theorem dL_sine_1 : decode cL_sine 1 = .ok (.iconst 0, 1) := by decide +kernel
theorem dL_sine_2 : decode cL_sine 2 = .ok (.aload_n 0, 1) := by decide +kernel
theorem dL_sine_3 : decode cL_sine 3 = .ok (.iload_n 1, 1) := by decide +kernel
theorem dL_sine_4 : decode cL_sine 4 = .ok (.invokevirtual 28, 3) := by decide +kernel
theorem dL_sine_7 : decode cL_sine 7 = .ok (.i2l, 1) := by decide +kernel
theorem dL_sine_8 : decode cL_sine 8 = .ok (.lastore, 1) := by decide +kernel
theorem dL_sine_9 : decode cL_sine 9 = .ok (.goto 6, 3) := by decide +kernel
theorem dL_sine_12 : decode cL_sine 12 = .ok (.astore_n 3, 1) := by decide +kernel
theorem dL_sine_13 : decode cL_sine 13 = .ok (.iconst 1, 1) := by decide +kernel
theorem dL_sine_14 : decode cL_sine 14 = .ok (.ireturn, 1) := by decide +kernel
theorem dL_sine_15 : decode cL_sine 15 = .ok (.iconst 0, 1) := by decide +kernel
theorem dL_sine_16 : decode cL_sine 16 = .ok (.ireturn, 1) := by decide +kernel
theorem dL_addTarget_0 : decode cL_addTarget 0 = .ok (.aload 6, 2) := by decide +kernel
theorem dL_addTarget_2 : decode cL_addTarget 2 = .ok (.iconst 0, 1) := by decide +kernel
theorem dL_addTarget_3 : decode cL_addTarget 3 = .ok (.aload_n 0, 1) := by decide +kernel
theorem dL_addTarget_4 : decode cL_addTarget 4 = .ok (.iload_n 1, 1) := by decide +kernel
theorem dL_addTarget_5 : decode cL_addTarget 5 = .ok (.iload_n 2, 1) := by decide +kernel
theorem dL_addTarget_6 : decode cL_addTarget 6 = .ok (.iload_n 3, 1) := by decide +kernel
theorem dL_addTarget_7 : decode cL_addTarget 7 = .ok (.iload 4, 2) := by decide +kernel
theorem dL_addTarget_9 : decode cL_addTarget 9 = .ok (.iload 5, 2) := by decide +kernel
theorem dL_addTarget_11 : decode cL_addTarget 11 = .ok (.invokevirtual 31, 3) := by decide +kernel
theorem dL_addTarget_14 : decode cL_addTarget 14 = .ok (.i2l, 1) := by decide +kernel
theorem dL_addTarget_15 : decode cL_addTarget 15 = .ok (.lastore, 1) := by decide +kernel
theorem dL_addTarget_16 : decode cL_addTarget 16 = .ok (.goto 11, 3) := by decide +kernel
theorem dL_addTarget_19 : decode cL_addTarget 19 = .ok (.astore 7, 2) := by decide +kernel
theorem dL_addTarget_21 : decode cL_addTarget 21 = .ok (.iconst 1, 1) := by decide +kernel
theorem dL_addTarget_22 : decode cL_addTarget 22 = .ok (.ireturn, 1) := by decide +kernel
theorem dL_addTarget_23 : decode cL_addTarget 23 = .ok (.astore 7, 2) := by decide +kernel
theorem dL_addTarget_25 : decode cL_addTarget 25 = .ok (.iconst 2, 1) := by decide +kernel
theorem dL_addTarget_26 : decode cL_addTarget 26 = .ok (.ireturn, 1) := by decide +kernel
theorem dL_addTarget_27 : decode cL_addTarget 27 = .ok (.iconst 0, 1) := by decide +kernel
theorem dL_addTarget_28 : decode cL_addTarget 28 = .ok (.ireturn, 1) := by decide +kernel
theorem dL_want_0 : decode cL_want 0 = .ok (.aload 5, 2) := by decide +kernel
theorem dL_want_2 : decode cL_want 2 = .ok (.iconst 0, 1) := by decide +kernel
theorem dL_want_3 : decode cL_want 3 = .ok (.aload_n 0, 1) := by decide +kernel
theorem dL_want_4 : decode cL_want 4 = .ok (.iload_n 1, 1) := by decide +kernel
theorem dL_want_5 : decode cL_want 5 = .ok (.iload_n 2, 1) := by decide +kernel
theorem dL_want_6 : decode cL_want 6 = .ok (.iload_n 3, 1) := by decide +kernel
theorem dL_want_7 : decode cL_want 7 = .ok (.iload 4, 2) := by decide +kernel
theorem dL_want_9 : decode cL_want 9 = .ok (.invokevirtual 35, 3) := by decide +kernel
theorem dL_want_12 : decode cL_want 12 = .ok (.i2l, 1) := by decide +kernel
theorem dL_want_13 : decode cL_want 13 = .ok (.lastore, 1) := by decide +kernel
theorem dL_want_14 : decode cL_want 14 = .ok (.goto 11, 3) := by decide +kernel
theorem dL_want_17 : decode cL_want 17 = .ok (.astore 6, 2) := by decide +kernel
theorem dL_want_19 : decode cL_want 19 = .ok (.iconst 1, 1) := by decide +kernel
theorem dL_want_20 : decode cL_want 20 = .ok (.ireturn, 1) := by decide +kernel
theorem dL_want_21 : decode cL_want 21 = .ok (.astore 6, 2) := by decide +kernel
theorem dL_want_23 : decode cL_want 23 = .ok (.iconst 2, 1) := by decide +kernel
theorem dL_want_24 : decode cL_want 24 = .ok (.ireturn, 1) := by decide +kernel
theorem dL_want_25 : decode cL_want 25 = .ok (.iconst 0, 1) := by decide +kernel
theorem dL_want_26 : decode cL_want 26 = .ok (.ireturn, 1) := by decide +kernel
theorem dL_target_0 : decode cL_target 0 = .ok (.aload_n 3, 1) := by decide +kernel
theorem dL_target_1 : decode cL_target 1 = .ok (.iconst 0, 1) := by decide +kernel
theorem dL_target_2 : decode cL_target 2 = .ok (.aload_n 0, 1) := by decide +kernel
theorem dL_target_3 : decode cL_target 3 = .ok (.iload_n 1, 1) := by decide +kernel
theorem dL_target_4 : decode cL_target 4 = .ok (.iload_n 2, 1) := by decide +kernel
theorem dL_target_5 : decode cL_target 5 = .ok (.invokevirtual 41, 3) := by decide +kernel
theorem dL_target_8 : decode cL_target 8 = .ok (.i2l, 1) := by decide +kernel
theorem dL_target_9 : decode cL_target 9 = .ok (.lastore, 1) := by decide +kernel
theorem dL_target_10 : decode cL_target 10 = .ok (.goto 7, 3) := by decide +kernel
theorem dL_target_13 : decode cL_target 13 = .ok (.astore 4, 2) := by decide +kernel
theorem dL_target_15 : decode cL_target 15 = .ok (.iconst 1, 1) := by decide +kernel
theorem dL_target_16 : decode cL_target 16 = .ok (.ireturn, 1) := by decide +kernel
theorem dL_target_17 : decode cL_target 17 = .ok (.iconst 0, 1) := by decide +kernel
theorem dL_target_18 : decode cL_target 18 = .ok (.ireturn, 1) := by decide +kernel
theorem dL_height_0 : decode cL_height 0 = .ok (.aload_n 3, 1) := by decide +kernel
theorem dL_height_1 : decode cL_height 1 = .ok (.iconst 0, 1) := by decide +kernel
theorem dL_height_2 : decode cL_height 2 = .ok (.aload_n 0, 1) := by decide +kernel
theorem dL_height_3 : decode cL_height 3 = .ok (.iload_n 1, 1) := by decide +kernel
theorem dL_height_4 : decode cL_height 4 = .ok (.iload_n 2, 1) := by decide +kernel
theorem dL_height_5 : decode cL_height 5 = .ok (.invokevirtual 44, 3) := by decide +kernel
theorem dL_height_8 : decode cL_height 8 = .ok (.i2l, 1) := by decide +kernel
theorem dL_height_9 : decode cL_height 9 = .ok (.lastore, 1) := by decide +kernel
theorem dL_height_10 : decode cL_height 10 = .ok (.goto 11, 3) := by decide +kernel
theorem dL_height_13 : decode cL_height 13 = .ok (.astore 4, 2) := by decide +kernel
theorem dL_height_15 : decode cL_height 15 = .ok (.iconst 1, 1) := by decide +kernel
theorem dL_height_16 : decode cL_height 16 = .ok (.ireturn, 1) := by decide +kernel
theorem dL_height_17 : decode cL_height 17 = .ok (.astore 4, 2) := by decide +kernel
theorem dL_height_19 : decode cL_height 19 = .ok (.iconst 2, 1) := by decide +kernel
theorem dL_height_20 : decode cL_height 20 = .ok (.ireturn, 1) := by decide +kernel
theorem dL_height_21 : decode cL_height 21 = .ok (.iconst 0, 1) := by decide +kernel
theorem dL_height_22 : decode cL_height 22 = .ok (.ireturn, 1) := by decide +kernel
theorem dL_nearness_0 : decode cL_nearness 0 = .ok (.aload_n 3, 1) := by decide +kernel
theorem dL_nearness_1 : decode cL_nearness 1 = .ok (.iconst 0, 1) := by decide +kernel
theorem dL_nearness_2 : decode cL_nearness 2 = .ok (.aload_n 0, 1) := by decide +kernel
theorem dL_nearness_3 : decode cL_nearness 3 = .ok (.iload_n 1, 1) := by decide +kernel
theorem dL_nearness_4 : decode cL_nearness 4 = .ok (.iload_n 2, 1) := by decide +kernel
theorem dL_nearness_5 : decode cL_nearness 5 = .ok (.invokevirtual 47, 3) := by decide +kernel
theorem dL_nearness_8 : decode cL_nearness 8 = .ok (.i2l, 1) := by decide +kernel
theorem dL_nearness_9 : decode cL_nearness 9 = .ok (.lastore, 1) := by decide +kernel
theorem dL_nearness_10 : decode cL_nearness 10 = .ok (.goto 7, 3) := by decide +kernel
theorem dL_nearness_13 : decode cL_nearness 13 = .ok (.astore 4, 2) := by decide +kernel
theorem dL_nearness_15 : decode cL_nearness 15 = .ok (.iconst 1, 1) := by decide +kernel
theorem dL_nearness_16 : decode cL_nearness 16 = .ok (.ireturn, 1) := by decide +kernel
theorem dL_nearness_17 : decode cL_nearness 17 = .ok (.iconst 0, 1) := by decide +kernel
theorem dL_nearness_18 : decode cL_nearness 18 = .ok (.ireturn, 1) := by decide +kernel
theorem dL_moonNearness_0 : decode cL_moonNearness 0 = .ok (.aload_n 2, 1) := by decide +kernel
theorem dL_moonNearness_1 : decode cL_moonNearness 1 = .ok (.iconst 0, 1) := by decide +kernel
theorem dL_moonNearness_2 : decode cL_moonNearness 2 = .ok (.aload_n 0, 1) := by decide +kernel
theorem dL_moonNearness_3 : decode cL_moonNearness 3 = .ok (.iload_n 1, 1) := by decide +kernel
theorem dL_moonNearness_4 : decode cL_moonNearness 4 = .ok (.invokevirtual 50, 3) := by decide +kernel
theorem dL_moonNearness_7 : decode cL_moonNearness 7 = .ok (.i2l, 1) := by decide +kernel
theorem dL_moonNearness_8 : decode cL_moonNearness 8 = .ok (.lastore, 1) := by decide +kernel
theorem dL_moonNearness_9 : decode cL_moonNearness 9 = .ok (.goto 6, 3) := by decide +kernel
theorem dL_moonNearness_12 : decode cL_moonNearness 12 = .ok (.astore_n 3, 1) := by decide +kernel
theorem dL_moonNearness_13 : decode cL_moonNearness 13 = .ok (.iconst 1, 1) := by decide +kernel
theorem dL_moonNearness_14 : decode cL_moonNearness 14 = .ok (.ireturn, 1) := by decide +kernel
theorem dL_moonNearness_15 : decode cL_moonNearness 15 = .ok (.iconst 0, 1) := by decide +kernel
theorem dL_moonNearness_16 : decode cL_moonNearness 16 = .ok (.ireturn, 1) := by decide +kernel
theorem dL_moonHeight_0 : decode cL_moonHeight 0 = .ok (.aload_n 2, 1) := by decide +kernel
theorem dL_moonHeight_1 : decode cL_moonHeight 1 = .ok (.iconst 0, 1) := by decide +kernel
theorem dL_moonHeight_2 : decode cL_moonHeight 2 = .ok (.aload_n 0, 1) := by decide +kernel
theorem dL_moonHeight_3 : decode cL_moonHeight 3 = .ok (.iload_n 1, 1) := by decide +kernel
theorem dL_moonHeight_4 : decode cL_moonHeight 4 = .ok (.invokevirtual 53, 3) := by decide +kernel
theorem dL_moonHeight_7 : decode cL_moonHeight 7 = .ok (.i2l, 1) := by decide +kernel
theorem dL_moonHeight_8 : decode cL_moonHeight 8 = .ok (.lastore, 1) := by decide +kernel
theorem dL_moonHeight_9 : decode cL_moonHeight 9 = .ok (.goto 6, 3) := by decide +kernel
theorem dL_moonHeight_12 : decode cL_moonHeight 12 = .ok (.astore_n 3, 1) := by decide +kernel
theorem dL_moonHeight_13 : decode cL_moonHeight 13 = .ok (.iconst 1, 1) := by decide +kernel
theorem dL_moonHeight_14 : decode cL_moonHeight 14 = .ok (.ireturn, 1) := by decide +kernel
theorem dL_moonHeight_15 : decode cL_moonHeight 15 = .ok (.iconst 0, 1) := by decide +kernel
theorem dL_moonHeight_16 : decode cL_moonHeight 16 = .ok (.ireturn, 1) := by decide +kernel
theorem dL_reason_0 : decode cL_reason 0 = .ok (.aload_n 3, 1) := by decide +kernel
theorem dL_reason_1 : decode cL_reason 1 = .ok (.iconst 0, 1) := by decide +kernel
theorem dL_reason_2 : decode cL_reason 2 = .ok (.aload_n 0, 1) := by decide +kernel
theorem dL_reason_3 : decode cL_reason 3 = .ok (.iload_n 1, 1) := by decide +kernel
theorem dL_reason_4 : decode cL_reason 4 = .ok (.iload_n 2, 1) := by decide +kernel
theorem dL_reason_5 : decode cL_reason 5 = .ok (.invokevirtual 56, 3) := by decide +kernel
theorem dL_reason_8 : decode cL_reason 8 = .ok (.i2l, 1) := by decide +kernel
theorem dL_reason_9 : decode cL_reason 9 = .ok (.lastore, 1) := by decide +kernel
theorem dL_reason_10 : decode cL_reason 10 = .ok (.goto 11, 3) := by decide +kernel
theorem dL_reason_13 : decode cL_reason 13 = .ok (.astore 4, 2) := by decide +kernel
theorem dL_reason_15 : decode cL_reason 15 = .ok (.iconst 1, 1) := by decide +kernel
theorem dL_reason_16 : decode cL_reason 16 = .ok (.ireturn, 1) := by decide +kernel
theorem dL_reason_17 : decode cL_reason 17 = .ok (.astore 4, 2) := by decide +kernel
theorem dL_reason_19 : decode cL_reason 19 = .ok (.iconst 2, 1) := by decide +kernel
theorem dL_reason_20 : decode cL_reason 20 = .ok (.ireturn, 1) := by decide +kernel
theorem dL_reason_21 : decode cL_reason 21 = .ok (.iconst 0, 1) := by decide +kernel
theorem dL_reason_22 : decode cL_reason 22 = .ok (.ireturn, 1) := by decide +kernel
theorem dL_window_0 : decode cL_window 0 = .ok (.aload_n 3, 1) := by decide +kernel
theorem dL_window_1 : decode cL_window 1 = .ok (.iconst 0, 1) := by decide +kernel
theorem dL_window_2 : decode cL_window 2 = .ok (.aload_n 0, 1) := by decide +kernel
theorem dL_window_3 : decode cL_window 3 = .ok (.iload_n 1, 1) := by decide +kernel
theorem dL_window_4 : decode cL_window 4 = .ok (.iload_n 2, 1) := by decide +kernel
theorem dL_window_5 : decode cL_window 5 = .ok (.invokevirtual 59, 3) := by decide +kernel
theorem dL_window_8 : decode cL_window 8 = .ok (.i2l, 1) := by decide +kernel
theorem dL_window_9 : decode cL_window 9 = .ok (.lastore, 1) := by decide +kernel
theorem dL_window_10 : decode cL_window 10 = .ok (.goto 7, 3) := by decide +kernel
theorem dL_window_13 : decode cL_window 13 = .ok (.astore 4, 2) := by decide +kernel
theorem dL_window_15 : decode cL_window 15 = .ok (.iconst 1, 1) := by decide +kernel
theorem dL_window_16 : decode cL_window 16 = .ok (.ireturn, 1) := by decide +kernel
theorem dL_window_17 : decode cL_window 17 = .ok (.iconst 0, 1) := by decide +kernel
theorem dL_window_18 : decode cL_window 18 = .ok (.ireturn, 1) := by decide +kernel
theorem dL_isOpen_0 : decode cL_isOpen 0 = .ok (.aload_n 2, 1) := by decide +kernel
theorem dL_isOpen_1 : decode cL_isOpen 1 = .ok (.iconst 0, 1) := by decide +kernel
theorem dL_isOpen_2 : decode cL_isOpen 2 = .ok (.aload_n 0, 1) := by decide +kernel
theorem dL_isOpen_3 : decode cL_isOpen 3 = .ok (.iload_n 1, 1) := by decide +kernel
theorem dL_isOpen_4 : decode cL_isOpen 4 = .ok (.invokevirtual 62, 3) := by decide +kernel
theorem dL_isOpen_7 : decode cL_isOpen 7 = .ok (.ifCond .eq 7, 3) := by decide +kernel
theorem dL_isOpen_10 : decode cL_isOpen 10 = .ok (.lconst 1, 1) := by decide +kernel
theorem dL_isOpen_11 : decode cL_isOpen 11 = .ok (.goto 4, 3) := by decide +kernel
theorem dL_isOpen_14 : decode cL_isOpen 14 = .ok (.lconst 0, 1) := by decide +kernel
theorem dL_isOpen_15 : decode cL_isOpen 15 = .ok (.lastore, 1) := by decide +kernel
theorem dL_isOpen_16 : decode cL_isOpen 16 = .ok (.goto 6, 3) := by decide +kernel
theorem dL_isOpen_19 : decode cL_isOpen 19 = .ok (.astore_n 3, 1) := by decide +kernel
theorem dL_isOpen_20 : decode cL_isOpen 20 = .ok (.iconst 1, 1) := by decide +kernel
theorem dL_isOpen_21 : decode cL_isOpen 21 = .ok (.ireturn, 1) := by decide +kernel
theorem dL_isOpen_22 : decode cL_isOpen 22 = .ok (.iconst 0, 1) := by decide +kernel
theorem dL_isOpen_23 : decode cL_isOpen 23 = .ok (.ireturn, 1) := by decide +kernel
theorem dL_count_0 : decode cL_count 0 = .ok (.aload_n 2, 1) := by decide +kernel
theorem dL_count_1 : decode cL_count 1 = .ok (.iconst 0, 1) := by decide +kernel
theorem dL_count_2 : decode cL_count 2 = .ok (.aload_n 0, 1) := by decide +kernel
theorem dL_count_3 : decode cL_count 3 = .ok (.iload_n 1, 1) := by decide +kernel
theorem dL_count_4 : decode cL_count 4 = .ok (.invokevirtual 66, 3) := by decide +kernel
theorem dL_count_7 : decode cL_count 7 = .ok (.i2l, 1) := by decide +kernel
theorem dL_count_8 : decode cL_count 8 = .ok (.lastore, 1) := by decide +kernel
theorem dL_count_9 : decode cL_count 9 = .ok (.goto 6, 3) := by decide +kernel
theorem dL_count_12 : decode cL_count 12 = .ok (.astore_n 3, 1) := by decide +kernel
theorem dL_count_13 : decode cL_count 13 = .ok (.iconst 1, 1) := by decide +kernel
theorem dL_count_14 : decode cL_count 14 = .ok (.ireturn, 1) := by decide +kernel
theorem dL_count_15 : decode cL_count 15 = .ok (.iconst 0, 1) := by decide +kernel
theorem dL_count_16 : decode cL_count 16 = .ok (.ireturn, 1) := by decide +kernel
theorem dL_visit_0 : decode cL_visit 0 = .ok (.aload_n 3, 1) := by decide +kernel
theorem dL_visit_1 : decode cL_visit 1 = .ok (.iconst 0, 1) := by decide +kernel
theorem dL_visit_2 : decode cL_visit 2 = .ok (.aload_n 0, 1) := by decide +kernel
theorem dL_visit_3 : decode cL_visit 3 = .ok (.iload_n 1, 1) := by decide +kernel
theorem dL_visit_4 : decode cL_visit 4 = .ok (.iload_n 2, 1) := by decide +kernel
theorem dL_visit_5 : decode cL_visit 5 = .ok (.invokevirtual 69, 3) := by decide +kernel
theorem dL_visit_8 : decode cL_visit 8 = .ok (.i2l, 1) := by decide +kernel
theorem dL_visit_9 : decode cL_visit 9 = .ok (.lastore, 1) := by decide +kernel
theorem dL_visit_10 : decode cL_visit 10 = .ok (.goto 7, 3) := by decide +kernel
theorem dL_visit_13 : decode cL_visit 13 = .ok (.astore 4, 2) := by decide +kernel
theorem dL_visit_15 : decode cL_visit 15 = .ok (.iconst 1, 1) := by decide +kernel
theorem dL_visit_16 : decode cL_visit 16 = .ok (.ireturn, 1) := by decide +kernel
theorem dL_visit_17 : decode cL_visit 17 = .ok (.iconst 0, 1) := by decide +kernel
theorem dL_visit_18 : decode cL_visit 18 = .ok (.ireturn, 1) := by decide +kernel
theorem dL_observe_0 : decode cL_observe 0 = .ok (.aload_n 1, 1) := by decide +kernel
theorem dL_observe_1 : decode cL_observe 1 = .ok (.iconst 0, 1) := by decide +kernel
theorem dL_observe_2 : decode cL_observe 2 = .ok (.aload_n 0, 1) := by decide +kernel
theorem dL_observe_3 : decode cL_observe 3 = .ok (.invokevirtual 72, 3) := by decide +kernel
theorem dL_observe_6 : decode cL_observe 6 = .ok (.i2l, 1) := by decide +kernel
theorem dL_observe_7 : decode cL_observe 7 = .ok (.lastore, 1) := by decide +kernel
theorem dL_observe_8 : decode cL_observe 8 = .ok (.goto 6, 3) := by decide +kernel
theorem dL_observe_11 : decode cL_observe 11 = .ok (.astore_n 2, 1) := by decide +kernel
theorem dL_observe_12 : decode cL_observe 12 = .ok (.iconst 1, 1) := by decide +kernel
theorem dL_observe_13 : decode cL_observe 13 = .ok (.ireturn, 1) := by decide +kernel
theorem dL_observe_14 : decode cL_observe 14 = .ok (.iconst 0, 1) := by decide +kernel
theorem dL_observe_15 : decode cL_observe 15 = .ok (.ireturn, 1) := by decide +kernel
theorem dL_pass_0 : decode cL_pass 0 = .ok (.aload_n 2, 1) := by decide +kernel
theorem dL_pass_1 : decode cL_pass 1 = .ok (.iconst 0, 1) := by decide +kernel
theorem dL_pass_2 : decode cL_pass 2 = .ok (.aload_n 0, 1) := by decide +kernel
theorem dL_pass_3 : decode cL_pass 3 = .ok (.iload_n 1, 1) := by decide +kernel
theorem dL_pass_4 : decode cL_pass 4 = .ok (.invokevirtual 76, 3) := by decide +kernel
theorem dL_pass_7 : decode cL_pass 7 = .ok (.i2l, 1) := by decide +kernel
theorem dL_pass_8 : decode cL_pass 8 = .ok (.lastore, 1) := by decide +kernel
theorem dL_pass_9 : decode cL_pass 9 = .ok (.goto 6, 3) := by decide +kernel
theorem dL_pass_12 : decode cL_pass 12 = .ok (.astore_n 3, 1) := by decide +kernel
theorem dL_pass_13 : decode cL_pass 13 = .ok (.iconst 1, 1) := by decide +kernel
theorem dL_pass_14 : decode cL_pass 14 = .ok (.ireturn, 1) := by decide +kernel
theorem dL_pass_15 : decode cL_pass 15 = .ok (.iconst 0, 1) := by decide +kernel
theorem dL_pass_16 : decode cL_pass 16 = .ok (.ireturn, 1) := by decide +kernel
