/-! leaves: printed by wip/p27/leaves.py -/
set_option maxHeartbeats 4000000 in
set_option maxRecDepth 100000 in
/-- whether a value lies within -/
theorem c_X5_isWithin {G : JG} (S : HS) (v lo hi : Int32) : Ct G yX5_isWithin cX5_isWithin 3 (some .boolean) 0 0 0 0 [.int v, .int lo, .int hi] S (rI (fun r S' => r = bI (lo ≤ v ∧ v ≤ hi) ∧ S' = S)) noX := by
  refine Ct.of (by decide) (Nat.le_of_ble_eq_true rfl) (fun X hC hT hin => ?_)
  refine J_iload_n 0 hC dX5_isWithin_0 rfl rfl ?_
  refine J_iload_n 1 hC dX5_isWithin_1 rfl rfl ?_
  refine J_icmp_lt 14 hC dX5_isWithin_2 (by decide) (fun c2 => ?_) (fun c2 => ?_)
  · refine J_iconst (v := 0) hC dX5_isWithin_14 (by decide) ?_
    exact J_zretI hC dX5_isWithin_15 rfl (Nat.le_of_ble_eq_true rfl) (Nat.le_of_ble_eq_true rfl) ⟨(if_neg (fun z => absurd z.1 (Int32.not_le.mpr c2))).symm, rfl⟩
  · refine J_iload_n 0 hC dX5_isWithin_5 rfl rfl ?_
    refine J_iload_n 2 hC dX5_isWithin_6 rfl rfl ?_
    refine J_icmp_gt 14 hC dX5_isWithin_7 (by decide) (fun c7 => ?_) (fun c7 => ?_)
    · refine J_iconst (v := 0) hC dX5_isWithin_14 (by decide) ?_
      exact J_zretI hC dX5_isWithin_15 rfl (Nat.le_of_ble_eq_true rfl) (Nat.le_of_ble_eq_true rfl) ⟨(if_neg (fun z => absurd z.2 (Int32.not_le.mpr c7))).symm, rfl⟩
    · refine J_iconst (v := 1) hC dX5_isWithin_10 (by decide) ?_
      refine J_goto 15 hC dX5_isWithin_11 (by decide) ?_
      exact J_zretI hC dX5_isWithin_15 rfl (Nat.le_of_ble_eq_true rfl) (Nat.le_of_ble_eq_true rfl) ⟨(if_pos ⟨Int32.not_lt.mp c2, Int32.not_lt.mp c7⟩).symm, rfl⟩

set_option maxHeartbeats 4000000 in
set_option maxRecDepth 100000 in
/-- Math.abs -/
theorem c_J9_abs_0f7a4 {G : JG} (S : HS) (v : Int32) : Ct G yJ9_abs_0f7a4 cJ9_abs_0f7a4 1 (some .int) 0 0 0 0 [.int v] S (rI (fun r S' => r = iabs v ∧ S' = S)) noX := by
  refine Ct.ofF (by decide +kernel) (Nat.le_of_ble_eq_true rfl) (fun X hC hT hin => ?_)
  refine J_iload_n 0 hC dJ9_abs_0f7a4_0 rfl rfl ?_
  refine J_if_ge 9 hC dJ9_abs_0f7a4_1 (by decide) (fun c1 => ?_) (fun c1 => ?_)
  · refine J_iload_n 0 hC dJ9_abs_0f7a4_9 rfl rfl ?_
    exact J_iretI hC dJ9_abs_0f7a4_10 (Nat.le_of_ble_eq_true rfl) (Nat.le_of_ble_eq_true rfl) ⟨(if_pos c1).symm, rfl⟩
  · refine J_iload_n 0 hC dJ9_abs_0f7a4_4 rfl rfl ?_
    refine J_ineg hC dJ9_abs_0f7a4_5 ?_
    refine J_goto 10 hC dJ9_abs_0f7a4_6 (by decide) ?_
    exact J_iretI hC dJ9_abs_0f7a4_10 (Nat.le_of_ble_eq_true rfl) (Nat.le_of_ble_eq_true rfl) ⟨(if_neg c1).symm, rfl⟩

set_option maxHeartbeats 4000000 in
set_option maxRecDepth 100000 in
/-- Math.max -/
theorem c_J9_max_7cf53 {G : JG} (S : HS) (v w : Int32) : Ct G yJ9_max_7cf53 cJ9_max_7cf53 2 (some .int) 0 0 0 0 [.int v, .int w] S (rI (fun r S' => r = (if v < w then w else v) ∧ S' = S)) noX := by
  refine Ct.ofF (by decide +kernel) (Nat.le_of_ble_eq_true rfl) (fun X hC hT hin => ?_)
  refine J_iload_n 0 hC dJ9_max_7cf53_0 rfl rfl ?_
  refine J_iload_n 1 hC dJ9_max_7cf53_1 rfl rfl ?_
  refine J_icmp_lt 9 hC dJ9_max_7cf53_2 (by decide) (fun c2 => ?_) (fun c2 => ?_)
  · refine J_iload_n 1 hC dJ9_max_7cf53_9 rfl rfl ?_
    exact J_iretI hC dJ9_max_7cf53_10 (Nat.le_of_ble_eq_true rfl) (Nat.le_of_ble_eq_true rfl) ⟨(if_pos c2).symm, rfl⟩
  · refine J_iload_n 0 hC dJ9_max_7cf53_5 rfl rfl ?_
    refine J_goto 10 hC dJ9_max_7cf53_6 (by decide) ?_
    exact J_iretI hC dJ9_max_7cf53_10 (Nat.le_of_ble_eq_true rfl) (Nat.le_of_ble_eq_true rfl) ⟨(if_neg c2).symm, rfl⟩

set_option maxHeartbeats 4000000 in
set_option maxRecDepth 100000 in
/-- Math.min -/
theorem c_J9_min_7cf53 {G : JG} (S : HS) (v w : Int32) : Ct G yJ9_min_7cf53 cJ9_min_7cf53 2 (some .int) 0 0 0 0 [.int v, .int w] S (rI (fun r S' => r = (if w < v then w else v) ∧ S' = S)) noX := by
  refine Ct.ofF (by decide +kernel) (Nat.le_of_ble_eq_true rfl) (fun X hC hT hin => ?_)
  refine J_iload_n 0 hC dJ9_min_7cf53_0 rfl rfl ?_
  refine J_iload_n 1 hC dJ9_min_7cf53_1 rfl rfl ?_
  refine J_icmp_gt 9 hC dJ9_min_7cf53_2 (by decide) (fun c2 => ?_) (fun c2 => ?_)
  · refine J_iload_n 1 hC dJ9_min_7cf53_9 rfl rfl ?_
    exact J_iretI hC dJ9_min_7cf53_10 (Nat.le_of_ble_eq_true rfl) (Nat.le_of_ble_eq_true rfl) ⟨(if_pos c2).symm, rfl⟩
  · refine J_iload_n 0 hC dJ9_min_7cf53_5 rfl rfl ?_
    refine J_goto 10 hC dJ9_min_7cf53_6 (by decide) ?_
    exact J_iretI hC dJ9_min_7cf53_10 (Nat.le_of_ble_eq_true rfl) (Nat.le_of_ble_eq_true rfl) ⟨(if_neg c2).symm, rfl⟩

set_option maxHeartbeats 4000000 in
set_option maxRecDepth 100000 in
/-- the sine -/
theorem c_X5_sineOf {G : JG} (S : HS) (d : Int32) : Ct G yX5_sineOf cX5_sineOf 6 (some .int) 0 0 0 0 [.int d] S (rI (fun r S' => r = sn d ∧ S' = S)) noX := by
  refine Ct.of (by decide) (Nat.le_of_ble_eq_true rfl) (fun X hC hT hin => ?_)
  refine J_iload_n 0 hC dX5_sineOf_0 rfl rfl ?_
  refine J_sipush (v := 360) hC dX5_sineOf_1 (by decide) ?_
  refine J_irem hC dX5_sineOf_4 (by decide) ?_
  refine J_sipush (v := 360) hC dX5_sineOf_5 (by decide) ?_
  refine J_iadd hC dX5_sineOf_8 ?_
  refine J_sipush (v := 360) hC dX5_sineOf_9 (by decide) ?_
  refine J_irem hC dX5_sineOf_12 (by decide) ?_
  refine J_istore_n (lv' := [(1, _), (0, _)]) hC dX5_sineOf_13 rfl (by decide) rfl ?_
  refine J_iload_n 0 hC dX5_sineOf_14 rfl rfl ?_
  refine J_sipush (v := 180) hC dX5_sineOf_15 (by decide) ?_
  refine J_irem hC dX5_sineOf_18 (by decide) ?_
  refine J_istore_n (lv' := [(2, _), (1, _), (0, _)]) hC dX5_sineOf_19 rfl (by decide) rfl ?_
  refine J_iload_n 0 hC dX5_sineOf_20 rfl rfl ?_
  refine J_sipush (v := 180) hC dX5_sineOf_21 (by decide) ?_
  refine J_iload_n 0 hC dX5_sineOf_24 rfl rfl ?_
  refine J_isub hC dX5_sineOf_25 ?_
  refine J_imul hC dX5_sineOf_26 ?_
  refine J_istore_n (lv' := [(3, _), (2, _), (1, _), (0, _)]) hC dX5_sineOf_27 rfl (by decide) rfl ?_
  refine J_ldc (v := 40500) hC dX5_sineOf_28 (mG 56 (by decide +kernel) rfl) ?_
  refine J_iload_n 0 hC dX5_sineOf_30 rfl rfl ?_
  refine J_isub hC dX5_sineOf_31 ?_
  refine J_istore (lv' := [(4, _), (3, _), (2, _), (1, _), (0, _)]) hC dX5_sineOf_32 (by decide) rfl ?_
  refine J_iload 0 hC dX5_sineOf_34 rfl ?_
  refine J_if_le 50 hC dX5_sineOf_36 (by decide) (fun c36 => ?_) (fun c36 => ?_)
  · refine J_iconst (v := 0) hC dX5_sineOf_50 (by decide) ?_
    refine J_istore (lv' := [(5, _), (4, _), (3, _), (2, _), (1, _), (0, _)]) hC dX5_sineOf_51 (by decide) rfl ?_
    refine J_iload_n 4 hC dX5_sineOf_53 rfl rfl ?_
    refine J_sipush (v := 180) hC dX5_sineOf_54 (by decide) ?_
    refine J_icmp_ge 65 hC dX5_sineOf_57 (by decide) (fun c57 => ?_) (fun c57 => ?_)
    · refine J_iload 0 hC dX5_sineOf_65 rfl ?_
      refine J_ineg hC dX5_sineOf_67 ?_
      exact J_iretI hC dX5_sineOf_68 (Nat.le_of_ble_eq_true rfl) (Nat.le_of_ble_eq_true rfl) ⟨((if_pos (show 180 ≤ snT d from c57)).trans (congrArg (fun z => -z) (if_pos (show 40500 - snA d ≤ 0 from c36)))).symm, rfl⟩
    · refine J_iload 0 hC dX5_sineOf_60 rfl ?_
      refine J_goto 68 hC dX5_sineOf_62 (by decide) ?_
      exact J_iretI hC dX5_sineOf_68 (Nat.le_of_ble_eq_true rfl) (Nat.le_of_ble_eq_true rfl) ⟨((if_neg (show ¬ 180 ≤ snT d from c57)).trans (if_pos (show 40500 - snA d ≤ 0 from c36))).symm, rfl⟩
  · refine J_sipush (v := 4000) hC dX5_sineOf_39 (by decide) ?_
    refine J_iload_n 1 hC dX5_sineOf_42 rfl rfl ?_
    refine J_imul hC dX5_sineOf_43 ?_
    refine J_iload 0 hC dX5_sineOf_44 rfl ?_
    refine J_idiv hC dX5_sineOf_46 (fun e => c36 (by rw [e]; exact Int32.le_refl 0)) ?_
    refine J_goto 51 hC dX5_sineOf_47 (by decide) ?_
    refine J_istore (lv' := [(5, _), (4, _), (3, _), (2, _), (1, _), (0, _)]) hC dX5_sineOf_51 (by decide) rfl ?_
    refine J_iload_n 4 hC dX5_sineOf_53 rfl rfl ?_
    refine J_sipush (v := 180) hC dX5_sineOf_54 (by decide) ?_
    refine J_icmp_ge 65 hC dX5_sineOf_57 (by decide) (fun c57 => ?_) (fun c57 => ?_)
    · refine J_iload 0 hC dX5_sineOf_65 rfl ?_
      refine J_ineg hC dX5_sineOf_67 ?_
      exact J_iretI hC dX5_sineOf_68 (Nat.le_of_ble_eq_true rfl) (Nat.le_of_ble_eq_true rfl) ⟨((if_pos (show 180 ≤ snT d from c57)).trans (congrArg (fun z => -z) (if_neg (show ¬ 40500 - snA d ≤ 0 from c36)))).symm, rfl⟩
    · refine J_iload 0 hC dX5_sineOf_60 rfl ?_
      refine J_goto 68 hC dX5_sineOf_62 (by decide) ?_
      exact J_iretI hC dX5_sineOf_68 (Nat.le_of_ble_eq_true rfl) (Nat.le_of_ble_eq_true rfl) ⟨((if_neg (show ¬ 180 ≤ snT d from c57)).trans (if_neg (show ¬ 40500 - snA d ≤ 0 from c36))).symm, rfl⟩

set_option maxHeartbeats 4000000 in
set_option maxRecDepth 100000 in
/-- the formula of heights and nearnesses -/
theorem c_X5_closeness {G : JG} (S : HS) (a b : Nat) (w : Int32) (h0 : hK S a = 5) (h1 : hK S b = 5) : Ct G yX5_closeness cX5_closeness 3 (some .int) 0 0 0 0 [.ref a, .ref b, .int w] S (rI (fun r S' => r = cl4 (hI S 2 a) (hI S 3 a) (hI S 2 b) (hI S 3 b) w ∧ S' = S)) noX := by
  refine Ct.of (by decide) (Nat.le_of_ble_eq_true rfl) (fun X hC hT hin => ?_)
  refine J_aload_n 0 hC dX5_closeness_0 rfl rfl ?_
  refine fg_X5_237 hC h0 dX5_closeness_1 ?_
  refine J_aload_n 1 hC dX5_closeness_4 rfl rfl ?_
  refine fg_X5_237 hC h1 dX5_closeness_5 ?_
  refine J_imul hC dX5_closeness_8 ?_
  refine J_aload_n 0 hC dX5_closeness_9 rfl rfl ?_
  refine fg_X5_240 hC h0 dX5_closeness_10 ?_
  refine J_aload_n 1 hC dX5_closeness_13 rfl rfl ?_
  refine fg_X5_240 hC h1 dX5_closeness_14 ?_
  refine J_imul hC dX5_closeness_17 ?_
  refine J_sipush (v := 1000) hC dX5_closeness_18 (by decide) ?_
  refine J_idiv hC dX5_closeness_21 (by decide) ?_
  refine J_iload_n 2 hC dX5_closeness_22 rfl rfl ?_
  refine J_imul hC dX5_closeness_23 ?_
  refine J_iadd hC dX5_closeness_24 ?_
  refine J_sipush (v := 1000) hC dX5_closeness_25 (by decide) ?_
  refine J_idiv hC dX5_closeness_28 (by decide) ?_
  exact J_iretI hC dX5_closeness_29 (Nat.le_of_ble_eq_true rfl) (Nat.le_of_ble_eq_true rfl) ⟨rfl, rfl⟩

set_option maxHeartbeats 4000000 in
set_option maxRecDepth 100000 in
/-- the nearness of two points -/
theorem c_X5_nearnessOf {G : JG} (S : HS) (a b : Nat) (h0 : hK S a = 5) (h1 : hK S b = 5) : Ct G yX5_nearnessOf cX5_nearnessOf 3 (some .int) 2 60 0 0 [.ref a, .ref b] S (rI (fun r S' => r = cl4 (hI S 2 a) (hI S 3 a) (hI S 2 b) (hI S 3 b) (sn (iabs (hI S 0 a - hI S 0 b) / 4 + 90)) ∧ S' = S)) noX := by
  refine Ct.of (by decide) (Nat.le_of_ble_eq_true rfl) (fun X hC hT hin => ?_)
  refine J_aload_n 0 hC dX5_nearnessOf_0 rfl rfl ?_
  refine fg_X5_220 hC h0 dX5_nearnessOf_1 ?_
  refine J_aload_n 1 hC dX5_nearnessOf_4 rfl rfl ?_
  refine fg_X5_220 hC h1 dX5_nearnessOf_5 ?_
  refine J_isub hC dX5_nearnessOf_8 ?_
  refine cl_X5_243 hC (c_J9_abs_0f7a4 S _) (Nat.le_of_ble_eq_true rfl) ⟨⟨Nat.le_of_ble_eq_true rfl, Nat.le_of_ble_eq_true rfl⟩, Nat.le_of_ble_eq_true rfl, Nat.le_of_ble_eq_true rfl⟩ dX5_nearnessOf_9 (fun r9 S9 e9 => ?_)
  obtain ⟨rfl, e9⟩ := e9
  subst S9
  refine J_iconst (v := 4) hC dX5_nearnessOf_12 (by decide) ?_
  refine J_idiv hC dX5_nearnessOf_13 (by decide) ?_
  refine J_istore_n (lv' := [(2, _), (0, _), (1, _)]) hC dX5_nearnessOf_14 rfl (by decide) rfl ?_
  refine J_aload_n 1 hC dX5_nearnessOf_15 rfl rfl ?_
  refine J_aload_n 2 hC dX5_nearnessOf_16 rfl rfl ?_
  refine J_iload_n 0 hC dX5_nearnessOf_17 rfl rfl ?_
  refine J_bipush (v := 90) hC dX5_nearnessOf_18 (by decide) ?_
  refine J_iadd hC dX5_nearnessOf_20 ?_
  refine cl_X5_96 hC (c_X5_sineOf S _) (Nat.le_of_ble_eq_true rfl) ⟨⟨Nat.le_of_ble_eq_true rfl, Nat.le_of_ble_eq_true rfl⟩, Nat.le_of_ble_eq_true rfl, Nat.le_of_ble_eq_true rfl⟩ dX5_nearnessOf_21 (fun r21 S21 e21 => ?_)
  obtain ⟨rfl, e21⟩ := e21
  subst S21
  refine cl_X5_248 hC (c_X5_closeness S a b _ h0 h1) (Nat.le_of_ble_eq_true rfl) ⟨⟨Nat.le_of_ble_eq_true rfl, Nat.le_of_ble_eq_true rfl⟩, Nat.le_of_ble_eq_true rfl, Nat.le_of_ble_eq_true rfl⟩ dX5_nearnessOf_24 (fun r24 S24 e24 => ?_)
  obtain ⟨rfl, e24⟩ := e24
  subst S24
  exact J_iretI hC dX5_nearnessOf_27 (Nat.le_of_ble_eq_true rfl) (Nat.le_of_ble_eq_true rfl) ⟨rfl, rfl⟩

set_option maxHeartbeats 4000000 in
set_option maxRecDepth 100000 in
/-- the height of a point -/
theorem c_X5_heightOf {G : JG} (S : HS) (x z a : Nat) (t : Int32) (h0 : hK S x = 7) (pz : hP S 0 x = some z) (hz : hK S z = 5) (h1 : hK S a = 5) : Ct G yX5_heightOf cX5_heightOf 5 (some .int) 2 60 0 0 [.ref x, .ref a, .int t] S (rI (fun r S' => r = cl4 (hI S 2 z) (hI S 3 z) (hI S 2 a) (hI S 3 a) (sn (angV (hI S 0 z) (hI S 4 x) t (hI S 0 a) + 90)) ∧ S' = S)) noX := by
  refine Ct.of (by decide) (Nat.le_of_ble_eq_true rfl) (fun X hC hT hin => ?_)
  refine J_aload_n 0 hC dX5_heightOf_0 rfl rfl ?_
  refine fg_X5_12 hC h0 pz dX5_heightOf_1 ?_
  refine fg_X5_220 hC hz dX5_heightOf_4 ?_
  refine J_iconst (v := 4) hC dX5_heightOf_7 (by decide) ?_
  refine J_aload_n 0 hC dX5_heightOf_8 rfl rfl ?_
  refine fg_X5_172 hC h0 dX5_heightOf_9 ?_
  refine J_imul hC dX5_heightOf_12 ?_
  refine J_iadd hC dX5_heightOf_13 ?_
  refine J_iload_n 2 hC dX5_heightOf_14 rfl rfl ?_
  refine J_iadd hC dX5_heightOf_15 ?_
  refine J_sipush (v := 1440) hC dX5_heightOf_16 (by decide) ?_
  refine J_irem hC dX5_heightOf_19 (by decide) ?_
  refine J_istore_n (lv' := [(3, _), (0, _), (1, _), (2, _)]) hC dX5_heightOf_20 rfl (by decide) rfl ?_
  refine J_iload_n 0 hC dX5_heightOf_21 rfl rfl ?_
  refine J_aload_n 2 hC dX5_heightOf_22 rfl rfl ?_
  refine fg_X5_220 hC h1 dX5_heightOf_23 ?_
  refine J_isub hC dX5_heightOf_26 ?_
  refine J_sipush (v := 1440) hC dX5_heightOf_27 (by decide) ?_
  refine J_iadd hC dX5_heightOf_30 ?_
  refine J_sipush (v := 1440) hC dX5_heightOf_31 (by decide) ?_
  refine J_irem hC dX5_heightOf_34 (by decide) ?_
  refine J_iconst (v := 4) hC dX5_heightOf_35 (by decide) ?_
  refine J_idiv hC dX5_heightOf_36 (by decide) ?_
  refine J_istore (lv' := [(4, _), (3, _), (0, _), (1, _), (2, _)]) hC dX5_heightOf_37 (by decide) rfl ?_
  refine J_aload_n 2 hC dX5_heightOf_39 rfl rfl ?_
  refine fg_X5_12 hC h0 pz dX5_heightOf_40 ?_
  refine J_aload_n 3 hC dX5_heightOf_43 rfl rfl ?_
  refine J_iload 0 hC dX5_heightOf_44 rfl ?_
  refine J_bipush (v := 90) hC dX5_heightOf_46 (by decide) ?_
  refine J_iadd hC dX5_heightOf_48 ?_
  refine cl_X5_96 hC (c_X5_sineOf S _) (Nat.le_of_ble_eq_true rfl) ⟨⟨Nat.le_of_ble_eq_true rfl, Nat.le_of_ble_eq_true rfl⟩, Nat.le_of_ble_eq_true rfl, Nat.le_of_ble_eq_true rfl⟩ dX5_heightOf_49 (fun r49 S49 e49 => ?_)
  obtain ⟨rfl, e49⟩ := e49
  subst S49
  refine cl_X5_248 hC (c_X5_closeness S z a _ hz h1) (Nat.le_of_ble_eq_true rfl) ⟨⟨Nat.le_of_ble_eq_true rfl, Nat.le_of_ble_eq_true rfl⟩, Nat.le_of_ble_eq_true rfl, Nat.le_of_ble_eq_true rfl⟩ dX5_heightOf_52 (fun r52 S52 e52 => ?_)
  obtain ⟨rfl, e52⟩ := e52
  subst S52
  exact J_iretI hC dX5_heightOf_55 (Nat.le_of_ble_eq_true rfl) (Nat.le_of_ble_eq_true rfl) ⟨rfl, rfl⟩

set_option maxHeartbeats 4000000 in
set_option maxRecDepth 100000 in
/-- the moon's light -/
theorem c_X5_moonLight {G : JG} (S : HS) (x : Nat) (h0 : hK S x = 7) : Ct G yX5_moonLight cX5_moonLight 1 (some .int) 2 60 0 0 [.ref x] S (rI (fun r S' => r = lightV (hI S 2 x) ∧ S' = S)) noX := by
  refine Ct.of (by decide) (Nat.le_of_ble_eq_true rfl) (fun X hC hT hin => ?_)
  refine J_bipush (v := 100) hC dX5_moonLight_0 (by decide) ?_
  refine J_bipush (v := 100) hC dX5_moonLight_2 (by decide) ?_
  refine J_aload_n 0 hC dX5_moonLight_4 rfl rfl ?_
  refine fg_X5_71 hC h0 dX5_moonLight_5 ?_
  refine J_bipush (v := 15) hC dX5_moonLight_8 (by decide) ?_
  refine J_isub hC dX5_moonLight_10 ?_
  refine cl_X5_243 hC (c_J9_abs_0f7a4 S _) (Nat.le_of_ble_eq_true rfl) ⟨⟨Nat.le_of_ble_eq_true rfl, Nat.le_of_ble_eq_true rfl⟩, Nat.le_of_ble_eq_true rfl, Nat.le_of_ble_eq_true rfl⟩ dX5_moonLight_11 (fun r11 S11 e11 => ?_)
  obtain ⟨rfl, e11⟩ := e11
  subst S11
  refine J_imul hC dX5_moonLight_14 ?_
  refine J_bipush (v := 15) hC dX5_moonLight_15 (by decide) ?_
  refine J_idiv hC dX5_moonLight_17 (by decide) ?_
  refine J_isub hC dX5_moonLight_18 ?_
  exact J_iretI hC dX5_moonLight_19 (Nat.le_of_ble_eq_true rfl) (Nat.le_of_ble_eq_true rfl) ⟨rfl, rfl⟩
