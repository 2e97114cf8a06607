/-! the model's small methods: printed by wip/whole/model1.py -/
abbrev isTgD (n : Nat) (t : Int32) : Prop := 0 ≤ t ∧ t ≤ nI n - 1
theorem bI_nar (c : Prop) [Decidable c] : narrow .boolean (.int (bI c)) = .int (bI c) := by
  unfold bI
  split <;> rfl

set_option maxHeartbeats 4000000 in
set_option maxRecDepth 100000 in
/-- thrown -/
theorem c_X6_thrown {G : JG} (S : HS) (y : Nat) (h0 : hK S y = 17) : Ct G yX6_thrown cX6_thrown 1 (some .int) 0 0 0 0 [.ref y] S (rI (fun r S' => r = hI S 0 y ∧ S' = S)) noX := by
  refine Ct.of (by decide) (Nat.le_of_ble_eq_true rfl) (fun X hC hT hin => ?_)
  refine J_aload_n 0 hC dX6_thrown_0 rfl rfl ?_
  refine fg_X6_60 hC h0 dX6_thrown_1 ?_
  exact J_iretI hC dX6_thrown_4 (Nat.le_of_ble_eq_true rfl) (Nat.le_of_ble_eq_true rfl) ⟨rfl, rfl⟩

set_option maxHeartbeats 4000000 in
set_option maxRecDepth 100000 in
/-- no -/
theorem c_X6_no {G : JG} (S : HS) (y : Nat) (v : Int32) (h0 : hK S y = 17) : Ct G yX6_no cX6_no 2 (some .int) 0 0 0 0 [.ref y, .int v] S (rI (fun r S' => r = 0 ∧ S' = sI S 0 y v)) noX := by
  refine Ct.of (by decide) (Nat.le_of_ble_eq_true rfl) (fun X hC hT hin => ?_)
  refine J_aload_n 0 hC dX6_no_0 rfl rfl ?_
  refine J_iload_n 1 hC dX6_no_1 rfl rfl ?_
  refine fp_X6_60 hC h0 dX6_no_2 ?_
  refine J_iconst (v := 0) hC dX6_no_5 (by decide) ?_
  exact J_iretI hC dX6_no_6 (Nat.le_of_ble_eq_true rfl) (Nat.le_of_ble_eq_true rfl) ⟨rfl, rfl⟩

set_option maxHeartbeats 4000000 in
set_option maxRecDepth 100000 in
/-- isPoint -/
theorem c_X6_isPoint {G : JG} (S : HS) (v w : Int32) : Ct G yX6_isPoint cX6_isPoint 2 (some .boolean) 1 40 0 0 [.int v, .int w] S (rI (fun r S' => r = bI ((0 ≤ v ∧ v ≤ 1439) ∧ (-90 ≤ w ∧ w ≤ 90)) ∧ S' = S)) noX := by
  refine Ct.of (by decide) (Nat.le_of_ble_eq_true rfl) (fun X hC hT hin => ?_)
  refine J_iload_n 0 hC dX6_isPoint_0 rfl rfl ?_
  refine J_iconst (v := 0) hC dX6_isPoint_1 (by decide) ?_
  refine J_sipush (v := 1439) hC dX6_isPoint_2 (by decide) ?_
  refine cl_X6_66 hC (c_X6_isIn S _ _ _) (Nat.le_of_ble_eq_true rfl) ⟨⟨Nat.le_of_ble_eq_true rfl, Nat.le_of_ble_eq_true rfl⟩, Nat.le_of_ble_eq_true rfl, Nat.le_of_ble_eq_true rfl⟩ dX6_isPoint_5 (fun r5 S5 e5 => ?_)
  obtain ⟨rfl, e5⟩ := e5
  subst S5
  refine J_if_eq 26 hC dX6_isPoint_8 (by decide) (fun c8 => ?_) (fun c8 => ?_)
  · refine J_iconst (v := 0) hC dX6_isPoint_26 (by decide) ?_
    exact J_zretI hC dX6_isPoint_27 rfl (Nat.le_of_ble_eq_true rfl) (Nat.le_of_ble_eq_true rfl) ⟨(if_neg (fun z => bI_eq c8 z.1)).symm, rfl⟩
  · refine J_iload_n 1 hC dX6_isPoint_11 rfl rfl ?_
    refine J_bipush (v := (-90)) hC dX6_isPoint_12 (by decide) ?_
    refine J_bipush (v := 90) hC dX6_isPoint_14 (by decide) ?_
    refine cl_X6_66 hC (c_X6_isIn S _ _ _) (Nat.le_of_ble_eq_true rfl) ⟨⟨Nat.le_of_ble_eq_true rfl, Nat.le_of_ble_eq_true rfl⟩, Nat.le_of_ble_eq_true rfl, Nat.le_of_ble_eq_true rfl⟩ dX6_isPoint_16 (fun r16 S16 e16 => ?_)
    obtain ⟨rfl, e16⟩ := e16
    subst S16
    refine J_if_eq 26 hC dX6_isPoint_19 (by decide) (fun c19 => ?_) (fun c19 => ?_)
    · refine J_iconst (v := 0) hC dX6_isPoint_26 (by decide) ?_
      exact J_zretI hC dX6_isPoint_27 rfl (Nat.le_of_ble_eq_true rfl) (Nat.le_of_ble_eq_true rfl) ⟨(if_neg (fun z => bI_eq c19 z.2)).symm, rfl⟩
    · refine J_iconst (v := 1) hC dX6_isPoint_22 (by decide) ?_
      refine J_goto 27 hC dX6_isPoint_23 (by decide) ?_
      exact J_zretI hC dX6_isPoint_27 rfl (Nat.le_of_ble_eq_true rfl) (Nat.le_of_ble_eq_true rfl) ⟨(if_pos ⟨bI_ne c8, bI_ne c19⟩).symm, rfl⟩

set_option maxHeartbeats 4000000 in
set_option maxRecDepth 100000 in
/-- isTarget -/
theorem c_X6_isTarget {G : JG} (S : HS) (y : Nat) (B : Nat → Nat) (σ : Sg) (hs : MShp y B S) (hv : MVl y B σ S) (hr : Rng σ) (t : Int32) : Ct G yX6_isTarget cX6_isTarget 2 (some .boolean) 1 40 0 0 [.ref y, .int t] S (rI (fun r S' => r = bI (isTgD (vn σ) t) ∧ S' = S)) noX := by
  refine Ct.of (by decide) (Nat.le_of_ble_eq_true rfl) (fun X hC hT hin => ?_)
  refine J_iload_n 1 hC dX6_isTarget_0 rfl rfl ?_
  refine J_iconst (v := 0) hC dX6_isTarget_1 (by decide) ?_
  refine J_aload_n 0 hC dX6_isTarget_2 rfl rfl ?_
  refine fg_X6_63 hC hs.ky dX6_isTarget_3 ?_
  refine J_topI hv.1.2.2.2.2.2.2.2.2 ?_
  refine J_iconst (v := 1) hC dX6_isTarget_6 (by decide) ?_
  refine J_isub hC dX6_isTarget_7 ?_
  refine cl_X6_66 hC (c_X6_isIn S _ _ _) (Nat.le_of_ble_eq_true rfl) ⟨⟨Nat.le_of_ble_eq_true rfl, Nat.le_of_ble_eq_true rfl⟩, Nat.le_of_ble_eq_true rfl, Nat.le_of_ble_eq_true rfl⟩ dX6_isTarget_8 (fun r8 S8 e8 => ?_)
  obtain ⟨rfl, e8⟩ := e8
  subst S8
  exact J_zretI hC dX6_isTarget_11 (bI_nar _) (Nat.le_of_ble_eq_true rfl) (Nat.le_of_ble_eq_true rfl) ⟨rfl, rfl⟩

set_option maxHeartbeats 4000000 in
set_option maxRecDepth 100000 in
/-- isMinute -/
theorem c_X6_isMinute {G : JG} (S : HS) (y : Nat) (B : Nat → Nat) (σ : Sg) (hs : MShp y B S) (hv : MVl y B σ S) (hr : Rng σ) (t : Int32) : Ct G yX6_isMinute cX6_isMinute 2 (some .boolean) 1 40 0 0 [.ref y, .int t] S (rI (fun r S' => r = bI (0 ≤ t ∧ t ≤ vg σ 2 - 1) ∧ S' = S)) noX := by
  refine Ct.of (by decide) (Nat.le_of_ble_eq_true rfl) (fun X hC hT hin => ?_)
  refine J_iload_n 1 hC dX6_isMinute_0 rfl rfl ?_
  refine J_iconst (v := 0) hC dX6_isMinute_1 (by decide) ?_
  refine J_aload_n 0 hC dX6_isMinute_2 rfl rfl ?_
  refine fg_X6_7 hC hs.ky dX6_isMinute_3 ?_
  refine J_topI hv.1.2.1 ?_
  refine J_iconst (v := 1) hC dX6_isMinute_6 (by decide) ?_
  refine J_isub hC dX6_isMinute_7 ?_
  refine cl_X6_66 hC (c_X6_isIn S _ _ _) (Nat.le_of_ble_eq_true rfl) ⟨⟨Nat.le_of_ble_eq_true rfl, Nat.le_of_ble_eq_true rfl⟩, Nat.le_of_ble_eq_true rfl, Nat.le_of_ble_eq_true rfl⟩ dX6_isMinute_8 (fun r8 S8 e8 => ?_)
  obtain ⟨rfl, e8⟩ := e8
  subst S8
  exact J_zretI hC dX6_isMinute_11 (bI_nar _) (Nat.le_of_ble_eq_true rfl) (Nat.le_of_ble_eq_true rfl) ⟨rfl, rfl⟩

set_option maxHeartbeats 4000000 in
set_option maxRecDepth 100000 in
/-- sineOf -/
theorem c_X6_sineOf {G : JG} (S : HS) (d : Int32) : Ct G yX6_sineOf cX6_sineOf 4 (some .int) 1 40 0 0 [.int d] S (rI (fun r S' => r = sn d ∧ S' = S)) noX := by
  refine Ct.of (by decide) (Nat.le_of_ble_eq_true rfl) (fun X hC hT hin => ?_)
  refine J_iload_n 0 hC dX6_sineOf_0 rfl rfl ?_
  refine J_sipush (v := 360) hC dX6_sineOf_1 (by decide) ?_
  refine cl_X6_70 hC (c_J9_floorMod_7cf53 S _ _ (by decide)) (Nat.le_of_ble_eq_true rfl) ⟨⟨Nat.le_of_ble_eq_true rfl, Nat.le_of_ble_eq_true rfl⟩, Nat.le_of_ble_eq_true rfl, Nat.le_of_ble_eq_true rfl⟩ dX6_sineOf_4 (fun r4 S4 e4 => ?_)
  obtain ⟨rfl, e4⟩ := e4
  subst S4
  refine J_istore_n (lv' := [(1, _), (0, _)]) hC dX6_sineOf_7 rfl (by decide) rfl ?_
  refine J_iload_n 0 hC dX6_sineOf_8 rfl rfl ?_
  refine J_sipush (v := 180) hC dX6_sineOf_9 (by decide) ?_
  refine J_irem hC dX6_sineOf_12 (by decide) ?_
  refine J_istore_n (lv' := [(2, _), (1, _), (0, _)]) hC dX6_sineOf_13 rfl (by decide) rfl ?_
  refine J_sipush (v := 4000) hC dX6_sineOf_14 (by decide) ?_
  refine J_iload_n 0 hC dX6_sineOf_17 rfl rfl ?_
  refine J_imul hC dX6_sineOf_18 ?_
  refine J_sipush (v := 180) hC dX6_sineOf_19 (by decide) ?_
  refine J_iload_n 0 hC dX6_sineOf_22 rfl rfl ?_
  refine J_isub hC dX6_sineOf_23 ?_
  refine J_imul hC dX6_sineOf_24 ?_
  refine J_ldc (v := 40500) hC dX6_sineOf_25 (mG 900 (by decide +kernel) rfl) ?_
  refine J_iload_n 0 hC dX6_sineOf_27 rfl rfl ?_
  refine J_sipush (v := 180) hC dX6_sineOf_28 (by decide) ?_
  refine J_iload_n 0 hC dX6_sineOf_31 rfl rfl ?_
  refine J_isub hC dX6_sineOf_32 ?_
  refine J_imul hC dX6_sineOf_33 ?_
  refine J_isub hC dX6_sineOf_34 ?_
  refine J_idiv hC dX6_sineOf_35 (sn_m d).1 ?_
  refine J_istore_n (lv' := [(3, _), (2, _), (1, _), (0, _)]) hC dX6_sineOf_36 rfl (by decide) rfl ?_
  refine J_iload_n 2 hC dX6_sineOf_37 rfl rfl ?_
  refine J_sipush (v := 180) hC dX6_sineOf_38 (by decide) ?_
  refine J_icmp_ge 48 hC dX6_sineOf_41 (by decide) (fun c41 => ?_) (fun c41 => ?_)
  · refine J_iload_n 0 hC dX6_sineOf_48 rfl rfl ?_
    refine J_ineg hC dX6_sineOf_49 ?_
    exact J_iretI hC dX6_sineOf_50 (Nat.le_of_ble_eq_true rfl) (Nat.le_of_ble_eq_true rfl) ⟨(if_pos c41).symm.trans (sn_m d).2, rfl⟩
  · refine J_iload_n 0 hC dX6_sineOf_44 rfl rfl ?_
    refine J_goto 50 hC dX6_sineOf_45 (by decide) ?_
    exact J_iretI hC dX6_sineOf_50 (Nat.le_of_ble_eq_true rfl) (Nat.le_of_ble_eq_true rfl) ⟨(if_neg c41).symm.trans (sn_m d).2, rfl⟩

set_option maxHeartbeats 4000000 in
set_option maxRecDepth 100000 in
/-- cosineOf -/
theorem c_X6_cosineOf {G : JG} (S : HS) (d : Int32) : Ct G yX6_cosineOf cX6_cosineOf 1 (some .int) 2 80 0 0 [.int d] S (rI (fun r S' => r = sn (d + 90) ∧ S' = S)) noX := by
  refine Ct.of (by decide) (Nat.le_of_ble_eq_true rfl) (fun X hC hT hin => ?_)
  refine J_iload_n 0 hC dX6_cosineOf_0 rfl rfl ?_
  refine J_bipush (v := 90) hC dX6_cosineOf_1 (by decide) ?_
  refine J_iadd hC dX6_cosineOf_3 ?_
  refine cl_X6_77 hC (c_X6_sineOf S _) (Nat.le_of_ble_eq_true rfl) ⟨⟨Nat.le_of_ble_eq_true rfl, Nat.le_of_ble_eq_true rfl⟩, Nat.le_of_ble_eq_true rfl, Nat.le_of_ble_eq_true rfl⟩ dX6_cosineOf_4 (fun r4 S4 e4 => ?_)
  obtain ⟨rfl, e4⟩ := e4
  subst S4
  exact J_iretI hC dX6_cosineOf_7 (Nat.le_of_ble_eq_true rfl) (Nat.le_of_ble_eq_true rfl) ⟨rfl, rfl⟩

set_option maxHeartbeats 4000000 in
set_option maxRecDepth 100000 in
/-- mixed -/
theorem c_X6_mixed {G : JG} (S : HS) (a b w : Int32) : Ct G yX6_mixed cX6_mixed 3 (some .int) 3 120 0 0 [.int a, .int b, .int w] S (rI (fun r S' => r = mx a b w ∧ S' = S)) noX := by
  refine Ct.of (by decide) (Nat.le_of_ble_eq_true rfl) (fun X hC hT hin => ?_)
  refine J_iload_n 0 hC dX6_mixed_0 rfl rfl ?_
  refine cl_X6_77 hC (c_X6_sineOf S _) (Nat.le_of_ble_eq_true rfl) ⟨⟨Nat.le_of_ble_eq_true rfl, Nat.le_of_ble_eq_true rfl⟩, Nat.le_of_ble_eq_true rfl, Nat.le_of_ble_eq_true rfl⟩ dX6_mixed_1 (fun r1 S1 e1 => ?_)
  obtain ⟨rfl, e1⟩ := e1
  subst S1
  refine J_iload_n 1 hC dX6_mixed_4 rfl rfl ?_
  refine cl_X6_77 hC (c_X6_sineOf S _) (Nat.le_of_ble_eq_true rfl) ⟨⟨Nat.le_of_ble_eq_true rfl, Nat.le_of_ble_eq_true rfl⟩, Nat.le_of_ble_eq_true rfl, Nat.le_of_ble_eq_true rfl⟩ dX6_mixed_5 (fun r5 S5 e5 => ?_)
  obtain ⟨rfl, e5⟩ := e5
  subst S5
  refine J_imul hC dX6_mixed_8 ?_
  refine J_iload_n 0 hC dX6_mixed_9 rfl rfl ?_
  refine cl_X6_81 hC (c_X6_cosineOf S _) (Nat.le_of_ble_eq_true rfl) ⟨⟨Nat.le_of_ble_eq_true rfl, Nat.le_of_ble_eq_true rfl⟩, Nat.le_of_ble_eq_true rfl, Nat.le_of_ble_eq_true rfl⟩ dX6_mixed_10 (fun r10 S10 e10 => ?_)
  obtain ⟨rfl, e10⟩ := e10
  subst S10
  refine J_iload_n 1 hC dX6_mixed_13 rfl rfl ?_
  refine cl_X6_81 hC (c_X6_cosineOf S _) (Nat.le_of_ble_eq_true rfl) ⟨⟨Nat.le_of_ble_eq_true rfl, Nat.le_of_ble_eq_true rfl⟩, Nat.le_of_ble_eq_true rfl, Nat.le_of_ble_eq_true rfl⟩ dX6_mixed_14 (fun r14 S14 e14 => ?_)
  obtain ⟨rfl, e14⟩ := e14
  subst S14
  refine J_imul hC dX6_mixed_17 ?_
  refine J_sipush (v := 1000) hC dX6_mixed_18 (by decide) ?_
  refine J_idiv hC dX6_mixed_21 (by decide) ?_
  refine J_iload_n 2 hC dX6_mixed_22 rfl rfl ?_
  refine cl_X6_81 hC (c_X6_cosineOf S _) (Nat.le_of_ble_eq_true rfl) ⟨⟨Nat.le_of_ble_eq_true rfl, Nat.le_of_ble_eq_true rfl⟩, Nat.le_of_ble_eq_true rfl, Nat.le_of_ble_eq_true rfl⟩ dX6_mixed_23 (fun r23 S23 e23 => ?_)
  obtain ⟨rfl, e23⟩ := e23
  subst S23
  refine J_imul hC dX6_mixed_26 ?_
  refine J_iadd hC dX6_mixed_27 ?_
  refine J_sipush (v := 1000) hC dX6_mixed_28 (by decide) ?_
  refine J_idiv hC dX6_mixed_31 (by decide) ?_
  exact J_iretI hC dX6_mixed_32 (Nat.le_of_ble_eq_true rfl) (Nat.le_of_ble_eq_true rfl) ⟨rfl, rfl⟩

set_option maxHeartbeats 4000000 in
set_option maxRecDepth 100000 in
/-- near -/
theorem c_X6_near {G : JG} (S : HS) (a b c d : Int32) : Ct G yX6_near cX6_near 4 (some .int) 4 160 0 0 [.int a, .int b, .int c, .int d] S (rI (fun r S' => r = nearV a b c d ∧ S' = S)) noX := by
  refine Ct.of (by decide) (Nat.le_of_ble_eq_true rfl) (fun X hC hT hin => ?_)
  refine J_iload_n 1 hC dX6_near_0 rfl rfl ?_
  refine J_iload_n 3 hC dX6_near_1 rfl rfl ?_
  refine J_iload_n 0 hC dX6_near_2 rfl rfl ?_
  refine J_iload_n 2 hC dX6_near_3 rfl rfl ?_
  refine J_isub hC dX6_near_4 ?_
  refine cl_X6_94 hC (c_J9_abs_0f7a4 S _) (Nat.le_of_ble_eq_true rfl) ⟨⟨Nat.le_of_ble_eq_true rfl, Nat.le_of_ble_eq_true rfl⟩, Nat.le_of_ble_eq_true rfl, Nat.le_of_ble_eq_true rfl⟩ dX6_near_5 (fun r5 S5 e5 => ?_)
  obtain ⟨rfl, e5⟩ := e5
  subst S5
  refine J_iconst (v := 4) hC dX6_near_8 (by decide) ?_
  refine J_idiv hC dX6_near_9 (by decide) ?_
  refine cl_X6_90 hC (c_X6_mixed S _ _ _) (Nat.le_of_ble_eq_true rfl) ⟨⟨Nat.le_of_ble_eq_true rfl, Nat.le_of_ble_eq_true rfl⟩, Nat.le_of_ble_eq_true rfl, Nat.le_of_ble_eq_true rfl⟩ dX6_near_10 (fun r10 S10 e10 => ?_)
  obtain ⟨rfl, e10⟩ := e10
  subst S10
  exact J_iretI hC dX6_near_13 (Nat.le_of_ble_eq_true rfl) (Nat.le_of_ble_eq_true rfl) ⟨rfl, rfl⟩

set_option maxHeartbeats 4000000 in
set_option maxRecDepth 100000 in
/-- heightOf -/
theorem c_X6_heightOf {G : JG} (S : HS) (y : Nat) (B : Nat → Nat) (σ : Sg) (hs : MShp y B S) (hv : MVl y B σ S) (hr : Rng σ) (a b t : Int32) : Ct G yX6_heightOf cX6_heightOf 5 (some .int) 4 160 0 0 [.ref y, .int a, .int b, .int t] S (rI (fun r S' => r = hgtV σ a b t ∧ S' = S)) noX := by
  refine Ct.of (by decide) (Nat.le_of_ble_eq_true rfl) (fun X hC hT hin => ?_)
  refine J_aload_n 0 hC dX6_heightOf_0 rfl rfl ?_
  refine fg_X6_84 hC hs.ky dX6_heightOf_1 ?_
  refine J_topI hv.1.2.2.2.1 ?_
  refine J_iconst (v := 4) hC dX6_heightOf_4 (by decide) ?_
  refine J_aload_n 0 hC dX6_heightOf_5 rfl rfl ?_
  refine fg_X6_87 hC hs.ky dX6_heightOf_6 ?_
  refine J_topI hv.1.1 ?_
  refine J_imul hC dX6_heightOf_9 ?_
  refine J_iadd hC dX6_heightOf_10 ?_
  refine J_iload_n 3 hC dX6_heightOf_11 rfl rfl ?_
  refine J_iadd hC dX6_heightOf_12 ?_
  refine J_sipush (v := 1440) hC dX6_heightOf_13 (by decide) ?_
  refine J_irem hC dX6_heightOf_16 (by decide) ?_
  refine J_istore (lv' := [(4, _), (0, _), (1, _), (2, _), (3, _)]) hC dX6_heightOf_17 (by decide) rfl ?_
  refine J_aload_n 1 hC dX6_heightOf_19 rfl rfl ?_
  refine fg_X6_13 hC hs.ky dX6_heightOf_20 ?_
  refine J_topI hv.1.2.2.1 ?_
  refine J_iload_n 3 hC dX6_heightOf_23 rfl rfl ?_
  refine J_iload 0 hC dX6_heightOf_24 rfl ?_
  refine J_iload_n 2 hC dX6_heightOf_26 rfl rfl ?_
  refine J_isub hC dX6_heightOf_27 ?_
  refine J_sipush (v := 1440) hC dX6_heightOf_28 (by decide) ?_
  refine J_iadd hC dX6_heightOf_31 ?_
  refine J_sipush (v := 1440) hC dX6_heightOf_32 (by decide) ?_
  refine J_irem hC dX6_heightOf_35 (by decide) ?_
  refine J_iconst (v := 4) hC dX6_heightOf_36 (by decide) ?_
  refine J_idiv hC dX6_heightOf_37 (by decide) ?_
  refine cl_X6_90 hC (c_X6_mixed S _ _ _) (Nat.le_of_ble_eq_true rfl) ⟨⟨Nat.le_of_ble_eq_true rfl, Nat.le_of_ble_eq_true rfl⟩, Nat.le_of_ble_eq_true rfl, Nat.le_of_ble_eq_true rfl⟩ dX6_heightOf_38 (fun r38 S38 e38 => ?_)
  obtain ⟨rfl, e38⟩ := e38
  subst S38
  exact J_iretI hC dX6_heightOf_41 (Nat.le_of_ble_eq_true rfl) (Nat.le_of_ble_eq_true rfl) ⟨rfl, rfl⟩

set_option maxHeartbeats 4000000 in
set_option maxRecDepth 100000 in
/-- lightOf -/
theorem c_X6_lightOf {G : JG} (S : HS) (y : Nat) (B : Nat → Nat) (σ : Sg) (hs : MShp y B S) (hv : MVl y B σ S) (hr : Rng σ) : Ct G yX6_lightOf cX6_lightOf 1 (some .int) 1 40 0 0 [.ref y] S (rI (fun r S' => r = liV σ ∧ S' = S)) noX := by
  refine Ct.of (by decide) (Nat.le_of_ble_eq_true rfl) (fun X hC hT hin => ?_)
  refine J_bipush (v := 100) hC dX6_lightOf_0 (by decide) ?_
  refine J_bipush (v := 100) hC dX6_lightOf_2 (by decide) ?_
  refine J_aload_n 0 hC dX6_lightOf_4 rfl rfl ?_
  refine fg_X6_97 hC hs.ky dX6_lightOf_5 ?_
  refine J_topI hv.1.2.2.2.2.2.2.1 ?_
  refine J_bipush (v := 15) hC dX6_lightOf_8 (by decide) ?_
  refine J_isub hC dX6_lightOf_10 ?_
  refine cl_X6_94 hC (c_J9_abs_0f7a4 S _) (Nat.le_of_ble_eq_true rfl) ⟨⟨Nat.le_of_ble_eq_true rfl, Nat.le_of_ble_eq_true rfl⟩, Nat.le_of_ble_eq_true rfl, Nat.le_of_ble_eq_true rfl⟩ dX6_lightOf_11 (fun r11 S11 e11 => ?_)
  obtain ⟨rfl, e11⟩ := e11
  subst S11
  refine J_imul hC dX6_lightOf_14 ?_
  refine J_bipush (v := 15) hC dX6_lightOf_15 (by decide) ?_
  refine J_idiv hC dX6_lightOf_17 (by decide) ?_
  refine J_isub hC dX6_lightOf_18 ?_
  exact J_iretI hC dX6_lightOf_19 (Nat.le_of_ble_eq_true rfl) (Nat.le_of_ble_eq_true rfl) ⟨rfl, rfl⟩

set_option maxHeartbeats 4000000 in
set_option maxRecDepth 100000 in
/-- moonNear -/
theorem c_X6_moonNear {G : JG} (S : HS) (y : Nat) (B : Nat → Nat) (σ : Sg) (hs : MShp y B S) (hv : MVl y B σ S) (hr : Rng σ) (k : Nat) (hk : k < vn σ) : Ct G yX6_moonNear cX6_moonNear 2 (some .int) 5 200 0 0 [.ref y, .int (nI k)] S (rI (fun r S' => r = mnV σ k ∧ S' = S)) noX := by
  refine Ct.of (by decide) (Nat.le_of_ble_eq_true rfl) (fun X hC hT hin => ?_)
  refine J_aload_n 0 hC dX6_moonNear_0 rfl rfl ?_
  refine fg_X6_20 hC hs.ky (hs.p 11 rfl) dX6_moonNear_1 ?_
  refine J_iload_n 1 hC dX6_moonNear_4 rfl rfl ?_
  refine J_iald hC (hs.k 11 rfl) rfl (inN (hs.n 11 rfl) (vp_in_nI (show k < 20 by have := hr.2.2.2.2.2.2.2.1; omega) (by decide))) dX6_moonNear_5 ?_
  refine J_topI (show _ = vt σ k 0 by rw [nI_clamp (show k < 2147483648 by have := hr.2.2.2.2.2.2.2.1; omega)]; exact hv.t hk (show 0 < 10 by decide)) ?_
  refine J_aload_n 0 hC dX6_moonNear_6 rfl rfl ?_
  refine fg_X6_24 hC hs.ky (hs.p 12 rfl) dX6_moonNear_7 ?_
  refine J_iload_n 1 hC dX6_moonNear_10 rfl rfl ?_
  refine J_iald hC (hs.k 12 rfl) rfl (inN (hs.n 12 rfl) (vp_in_nI (show k < 20 by have := hr.2.2.2.2.2.2.2.1; omega) (by decide))) dX6_moonNear_11 ?_
  refine J_topI (show _ = vt σ k 1 by rw [nI_clamp (show k < 2147483648 by have := hr.2.2.2.2.2.2.2.1; omega)]; exact hv.t hk (show 1 < 10 by decide)) ?_
  refine J_aload_n 0 hC dX6_moonNear_12 rfl rfl ?_
  refine fg_X6_100 hC hs.ky dX6_moonNear_13 ?_
  refine J_topI hv.1.2.2.2.2.1 ?_
  refine J_aload_n 0 hC dX6_moonNear_16 rfl rfl ?_
  refine fg_X6_103 hC hs.ky dX6_moonNear_17 ?_
  refine J_topI hv.1.2.2.2.2.2.1 ?_
  refine cl_X6_106 hC (c_X6_near S _ _ _ _) (Nat.le_of_ble_eq_true rfl) ⟨⟨Nat.le_of_ble_eq_true rfl, Nat.le_of_ble_eq_true rfl⟩, Nat.le_of_ble_eq_true rfl, Nat.le_of_ble_eq_true rfl⟩ dX6_moonNear_20 (fun r20 S20 e20 => ?_)
  obtain ⟨rfl, e20⟩ := e20
  subst S20
  exact J_iretI hC dX6_moonNear_23 (Nat.le_of_ble_eq_true rfl) (Nat.le_of_ble_eq_true rfl) ⟨rfl, rfl⟩

set_option maxHeartbeats 4000000 in
set_option maxRecDepth 100000 in
/-- moonHeightOf -/
theorem c_X6_moonHeightOf {G : JG} (S : HS) (y : Nat) (B : Nat → Nat) (σ : Sg) (hs : MShp y B S) (hv : MVl y B σ S) (hr : Rng σ) (t : Int32) : Ct G yX6_moonHeightOf cX6_moonHeightOf 2 (some .int) 5 200 0 0 [.ref y, .int t] S (rI (fun r S' => r = mhV σ t ∧ S' = S)) noX := by
  refine Ct.of (by decide) (Nat.le_of_ble_eq_true rfl) (fun X hC hT hin => ?_)
  refine J_aload_n 0 hC dX6_moonHeightOf_0 rfl rfl ?_
  refine J_aload_n 0 hC dX6_moonHeightOf_1 rfl rfl ?_
  refine fg_X6_100 hC hs.ky dX6_moonHeightOf_2 ?_
  refine J_topI hv.1.2.2.2.2.1 ?_
  refine J_aload_n 0 hC dX6_moonHeightOf_5 rfl rfl ?_
  refine fg_X6_103 hC hs.ky dX6_moonHeightOf_6 ?_
  refine J_topI hv.1.2.2.2.2.2.1 ?_
  refine J_iload_n 1 hC dX6_moonHeightOf_9 rfl rfl ?_
  refine cl_X6_110 hC (c_X6_heightOf S y B σ hs hv hr _ _ _) hs.ky (Nat.le_of_ble_eq_true rfl) ⟨⟨Nat.le_of_ble_eq_true rfl, Nat.le_of_ble_eq_true rfl⟩, Nat.le_of_ble_eq_true rfl, Nat.le_of_ble_eq_true rfl⟩ dX6_moonHeightOf_10 (fun r10 S10 e10 => ?_)
  obtain ⟨rfl, e10⟩ := e10
  subst S10
  exact J_iretI hC dX6_moonHeightOf_13 (Nat.le_of_ble_eq_true rfl) (Nat.le_of_ble_eq_true rfl) ⟨rfl, rfl⟩

set_option maxHeartbeats 4000000 in
set_option maxRecDepth 100000 in
/-- reasonOf -/
theorem c_X6_reasonOf {G : JG} (S : HS) (y : Nat) (B : Nat → Nat) (σ : Sg) (hs : MShp y B S) (hv : MVl y B σ S) (hr : Rng σ) (k : Nat) (hk : k < vn σ) (u : Nat) (hu : u < 900) : Ct G yX6_reasonOf cX6_reasonOf 3 (some .int) 6 240 0 0 [.ref y, .int (nI k), .int (nI u)] S (rI (fun r S' => r = rsnV σ k (nI u) ∧ S' = S)) noX := by
  refine Ct.of (by decide) (Nat.le_of_ble_eq_true rfl) (fun X hC hT hin => ?_)
  refine J_aload_n 0 hC dX6_reasonOf_0 rfl rfl ?_
  refine fg_X6_16 hC hs.ky (hs.p 9 rfl) dX6_reasonOf_1 ?_
  refine J_iload_n 2 hC dX6_reasonOf_4 rfl rfl ?_
  refine J_zald hC (hs.k 9 rfl) rfl (inN (hs.n 9 rfl) (vp_in_nI hu (by decide))) dX6_reasonOf_5 ?_
  refine J_topI (show _ = zI (cldV σ (nI u)) by rw [nI_clamp (by omega)]; exact hv.2.1 u hu) ?_
  refine J_if_eq 11 hC dX6_reasonOf_6 (by decide) (fun c6 => ?_) (fun c6 => ?_)
  · refine J_aload_n 0 hC dX6_reasonOf_11 rfl rfl ?_
    refine J_aload_n 0 hC dX6_reasonOf_12 rfl rfl ?_
    refine fg_X6_20 hC hs.ky (hs.p 11 rfl) dX6_reasonOf_13 ?_
    refine J_iload_n 1 hC dX6_reasonOf_16 rfl rfl ?_
    refine J_iald hC (hs.k 11 rfl) rfl (inN (hs.n 11 rfl) (vp_in_nI (show k < 20 by have := hr.2.2.2.2.2.2.2.1; omega) (by decide))) dX6_reasonOf_17 ?_
    refine J_topI (show _ = vt σ k 0 by rw [nI_clamp (show k < 2147483648 by have := hr.2.2.2.2.2.2.2.1; omega)]; exact hv.t hk (show 0 < 10 by decide)) ?_
    refine J_aload_n 0 hC dX6_reasonOf_18 rfl rfl ?_
    refine fg_X6_24 hC hs.ky (hs.p 12 rfl) dX6_reasonOf_19 ?_
    refine J_iload_n 1 hC dX6_reasonOf_22 rfl rfl ?_
    refine J_iald hC (hs.k 12 rfl) rfl (inN (hs.n 12 rfl) (vp_in_nI (show k < 20 by have := hr.2.2.2.2.2.2.2.1; omega) (by decide))) dX6_reasonOf_23 ?_
    refine J_topI (show _ = vt σ k 1 by rw [nI_clamp (show k < 2147483648 by have := hr.2.2.2.2.2.2.2.1; omega)]; exact hv.t hk (show 1 < 10 by decide)) ?_
    refine J_iload_n 2 hC dX6_reasonOf_24 rfl rfl ?_
    refine cl_X6_110 hC (c_X6_heightOf S y B σ hs hv hr _ _ _) hs.ky (Nat.le_of_ble_eq_true rfl) ⟨⟨Nat.le_of_ble_eq_true rfl, Nat.le_of_ble_eq_true rfl⟩, Nat.le_of_ble_eq_true rfl, Nat.le_of_ble_eq_true rfl⟩ dX6_reasonOf_25 (fun r25 S25 e25 => ?_)
    obtain ⟨rfl, e25⟩ := e25
    subst S25
    refine J_topI (show _ = thV σ k (nI u) from rfl) ?_
    refine J_aload_n 0 hC dX6_reasonOf_28 rfl rfl ?_
    refine fg_X6_33 hC hs.ky (hs.p 15 rfl) dX6_reasonOf_29 ?_
    refine J_iload_n 1 hC dX6_reasonOf_32 rfl rfl ?_
    refine J_iald hC (hs.k 15 rfl) rfl (inN (hs.n 15 rfl) (vp_in_nI (show k < 20 by have := hr.2.2.2.2.2.2.2.1; omega) (by decide))) dX6_reasonOf_33 ?_
    refine J_topI (show _ = vt σ k 4 by rw [nI_clamp (show k < 2147483648 by have := hr.2.2.2.2.2.2.2.1; omega)]; exact hv.t hk (show 4 < 10 by decide)) ?_
    refine J_icmp_ge 39 hC dX6_reasonOf_34 (by decide) (fun c34 => ?_) (fun c34 => ?_)
    · refine J_aload_n 0 hC dX6_reasonOf_39 rfl rfl ?_
      refine J_iload_n 2 hC dX6_reasonOf_40 rfl rfl ?_
      refine cl_X6_113 hC (c_X6_moonHeightOf S y B σ hs hv hr _) hs.ky (Nat.le_of_ble_eq_true rfl) ⟨⟨Nat.le_of_ble_eq_true rfl, Nat.le_of_ble_eq_true rfl⟩, Nat.le_of_ble_eq_true rfl, Nat.le_of_ble_eq_true rfl⟩ dX6_reasonOf_41 (fun r41 S41 e41 => ?_)
      obtain ⟨rfl, e41⟩ := e41
      subst S41
      refine J_if_le 65 hC dX6_reasonOf_44 (by decide) (fun c44 => ?_) (fun c44 => ?_)
      · refine J_iconst (v := 0) hC dX6_reasonOf_65 (by decide) ?_
        refine J_goto 70 hC dX6_reasonOf_66 (by decide) ?_
        refine J_iretI hC dX6_reasonOf_70 (Nat.le_of_ble_eq_true rfl) (Nat.le_of_ble_eq_true rfl) ?_
        unfold rsnV
        rw [if_neg (zI_eq c6)]
        rw [if_neg (Int32.not_lt.mpr c34)]
        by_cases c9 : mnV σ k ≤ 1000 - 5 * liV σ
        · rw [if_pos c9]; exact ⟨rfl, rfl⟩
        · rw [if_neg c9, if_pos c44]; exact ⟨rfl, rfl⟩
      · refine J_aload_n 0 hC dX6_reasonOf_47 rfl rfl ?_
        refine J_iload_n 1 hC dX6_reasonOf_48 rfl rfl ?_
        refine cl_X6_116 hC (c_X6_moonNear S y B σ hs hv hr k hk) hs.ky (Nat.le_of_ble_eq_true rfl) ⟨⟨Nat.le_of_ble_eq_true rfl, Nat.le_of_ble_eq_true rfl⟩, Nat.le_of_ble_eq_true rfl, Nat.le_of_ble_eq_true rfl⟩ dX6_reasonOf_49 (fun r49 S49 e49 => ?_)
        obtain ⟨rfl, e49⟩ := e49
        subst S49
        refine J_sipush (v := 1000) hC dX6_reasonOf_52 (by decide) ?_
        refine J_iconst (v := 5) hC dX6_reasonOf_55 (by decide) ?_
        refine J_aload_n 0 hC dX6_reasonOf_56 rfl rfl ?_
        refine cl_X6_119 hC (c_X6_lightOf S y B σ hs hv hr) hs.ky (Nat.le_of_ble_eq_true rfl) ⟨⟨Nat.le_of_ble_eq_true rfl, Nat.le_of_ble_eq_true rfl⟩, Nat.le_of_ble_eq_true rfl, Nat.le_of_ble_eq_true rfl⟩ dX6_reasonOf_57 (fun r57 S57 e57 => ?_)
        obtain ⟨rfl, e57⟩ := e57
        subst S57
        refine J_imul hC dX6_reasonOf_60 ?_
        refine J_isub hC dX6_reasonOf_61 ?_
        refine J_icmp_gt 69 hC dX6_reasonOf_62 (by decide) (fun c62 => ?_) (fun c62 => ?_)
        · refine J_iconst (v := 3) hC dX6_reasonOf_69 (by decide) ?_
          refine J_iretI hC dX6_reasonOf_70 (Nat.le_of_ble_eq_true rfl) (Nat.le_of_ble_eq_true rfl) ?_
          unfold rsnV
          rw [if_neg (zI_eq c6)]
          rw [if_neg (Int32.not_lt.mpr c34)]
          rw [if_neg (Int32.not_le.mpr c62), if_neg c44]
          exact ⟨rfl, rfl⟩
        · refine J_iconst (v := 0) hC dX6_reasonOf_65 (by decide) ?_
          refine J_goto 70 hC dX6_reasonOf_66 (by decide) ?_
          refine J_iretI hC dX6_reasonOf_70 (Nat.le_of_ble_eq_true rfl) (Nat.le_of_ble_eq_true rfl) ?_
          unfold rsnV
          rw [if_neg (zI_eq c6)]
          rw [if_neg (Int32.not_lt.mpr c34)]
          rw [if_pos (Int32.not_lt.mp c62)]
          exact ⟨rfl, rfl⟩
    · refine J_iconst (v := 2) hC dX6_reasonOf_37 (by decide) ?_
      refine J_iretI hC dX6_reasonOf_38 (Nat.le_of_ble_eq_true rfl) (Nat.le_of_ble_eq_true rfl) ?_
      unfold rsnV
      rw [if_neg (zI_eq c6)]
      rw [if_pos (Int32.not_le.mp c34)]
      exact ⟨rfl, rfl⟩
  · refine J_iconst (v := 1) hC dX6_reasonOf_9 (by decide) ?_
    exact J_iretI hC dX6_reasonOf_10 (Nat.le_of_ble_eq_true rfl) (Nat.le_of_ble_eq_true rfl) ⟨(if_pos (zI_ne c6)).symm, rfl⟩

set_option maxHeartbeats 4000000 in
set_option maxRecDepth 100000 in
/-- isOpenNow -/
theorem c_X6_isOpenNow {G : JG} (S : HS) (y : Nat) (B : Nat → Nat) (σ : Sg) (hs : MShp y B S) (hv : MVl y B σ S) (hr : Rng σ) (k : Nat) (hk : k < vn σ) : Ct G yX6_isOpenNow cX6_isOpenNow 2 (some .boolean) 0 0 0 0 [.ref y, .int (nI k)] S (rI (fun r S' => r = opI σ k ∧ S' = S)) noX := by
  refine Ct.of (by decide) (Nat.le_of_ble_eq_true rfl) (fun X hC hT hin => ?_)
  refine J_aload_n 0 hC dX6_isOpenNow_0 rfl rfl ?_
  refine fg_X6_45 hC hs.ky (hs.p 19 rfl) dX6_isOpenNow_1 ?_
  refine J_iload_n 1 hC dX6_isOpenNow_4 rfl rfl ?_
  refine J_iald hC (hs.k 19 rfl) rfl (inN (hs.n 19 rfl) (vp_in_nI (show k < 20 by have := hr.2.2.2.2.2.2.2.1; omega) (by decide))) dX6_isOpenNow_5 ?_
  refine J_topI (show _ = vt σ k 8 by rw [nI_clamp (show k < 2147483648 by have := hr.2.2.2.2.2.2.2.1; omega)]; exact hv.t hk (show 8 < 10 by decide)) ?_
  refine J_aload_n 0 hC dX6_isOpenNow_6 rfl rfl ?_
  refine fg_X6_39 hC hs.ky (hs.p 17 rfl) dX6_isOpenNow_7 ?_
  refine J_iload_n 1 hC dX6_isOpenNow_10 rfl rfl ?_
  refine J_iald hC (hs.k 17 rfl) rfl (inN (hs.n 17 rfl) (vp_in_nI (show k < 20 by have := hr.2.2.2.2.2.2.2.1; omega) (by decide))) dX6_isOpenNow_11 ?_
  refine J_topI (show _ = vt σ k 6 by rw [nI_clamp (show k < 2147483648 by have := hr.2.2.2.2.2.2.2.1; omega)]; exact hv.t hk (show 6 < 10 by decide)) ?_
  refine J_icmp_ge 49 hC dX6_isOpenNow_12 (by decide) (fun c12 => ?_) (fun c12 => ?_)
  · refine J_iconst (v := 0) hC dX6_isOpenNow_49 (by decide) ?_
    exact J_zretI hC dX6_isOpenNow_50 rfl (Nat.le_of_ble_eq_true rfl) (Nat.le_of_ble_eq_true rfl) ⟨(if_neg (fun z => absurd z.1 (Int32.not_lt.mpr c12))).symm, rfl⟩
  · refine J_aload_n 0 hC dX6_isOpenNow_15 rfl rfl ?_
    refine fg_X6_48 hC hs.ky (hs.p 20 rfl) dX6_isOpenNow_16 ?_
    refine J_iload_n 1 hC dX6_isOpenNow_19 rfl rfl ?_
    refine J_iald hC (hs.k 20 rfl) rfl (inN (hs.n 20 rfl) (vp_in_nI (show k < 20 by have := hr.2.2.2.2.2.2.2.1; omega) (by decide))) dX6_isOpenNow_20 ?_
    refine J_topI (show _ = vt σ k 9 by rw [nI_clamp (show k < 2147483648 by have := hr.2.2.2.2.2.2.2.1; omega)]; exact hv.t hk (show 9 < 10 by decide)) ?_
    refine J_iconst (v := (-1)) hC dX6_isOpenNow_21 (by decide) ?_
    refine J_icmp_eq 45 hC dX6_isOpenNow_22 (by decide) (fun c22 => ?_) (fun c22 => ?_)
    · refine J_iconst (v := 1) hC dX6_isOpenNow_45 (by decide) ?_
      refine J_goto 50 hC dX6_isOpenNow_46 (by decide) ?_
      exact J_zretI hC dX6_isOpenNow_50 rfl (Nat.le_of_ble_eq_true rfl) (Nat.le_of_ble_eq_true rfl) ⟨(if_pos ⟨Int32.not_le.mp c12, Or.inl ((hr.2.2.2.2.2.2.2.2 k hk).2.2.2.2.2.2.mpr c22)⟩).symm, rfl⟩
    · refine J_aload_n 0 hC dX6_isOpenNow_25 rfl rfl ?_
      refine fg_X6_87 hC hs.ky dX6_isOpenNow_26 ?_
      refine J_topI hv.1.1 ?_
      refine J_aload_n 0 hC dX6_isOpenNow_29 rfl rfl ?_
      refine fg_X6_48 hC hs.ky (hs.p 20 rfl) dX6_isOpenNow_30 ?_
      refine J_iload_n 1 hC dX6_isOpenNow_33 rfl rfl ?_
      refine J_iald hC (hs.k 20 rfl) rfl (inN (hs.n 20 rfl) (vp_in_nI (show k < 20 by have := hr.2.2.2.2.2.2.2.1; omega) (by decide))) dX6_isOpenNow_34 ?_
      refine J_topI (show _ = vt σ k 9 by rw [nI_clamp (show k < 2147483648 by have := hr.2.2.2.2.2.2.2.1; omega)]; exact hv.t hk (show 9 < 10 by decide)) ?_
      refine J_isub hC dX6_isOpenNow_35 ?_
      refine J_aload_n 0 hC dX6_isOpenNow_36 rfl rfl ?_
      refine fg_X6_42 hC hs.ky (hs.p 18 rfl) dX6_isOpenNow_37 ?_
      refine J_iload_n 1 hC dX6_isOpenNow_40 rfl rfl ?_
      refine J_iald hC (hs.k 18 rfl) rfl (inN (hs.n 18 rfl) (vp_in_nI (show k < 20 by have := hr.2.2.2.2.2.2.2.1; omega) (by decide))) dX6_isOpenNow_41 ?_
      refine J_topI (show _ = vt σ k 7 by rw [nI_clamp (show k < 2147483648 by have := hr.2.2.2.2.2.2.2.1; omega)]; exact hv.t hk (show 7 < 10 by decide)) ?_
      refine J_icmp_lt 49 hC dX6_isOpenNow_42 (by decide) (fun c42 => ?_) (fun c42 => ?_)
      · refine J_iconst (v := 0) hC dX6_isOpenNow_49 (by decide) ?_
        exact J_zretI hC dX6_isOpenNow_50 rfl (Nat.le_of_ble_eq_true rfl) (Nat.le_of_ble_eq_true rfl) ⟨(if_neg (fun z => z.2.elim (fun q => c22 ((hr.2.2.2.2.2.2.2.2 k hk).2.2.2.2.2.2.mp q)) (fun q => absurd q (Int32.not_le.mpr c42)))).symm, rfl⟩
      · refine J_iconst (v := 1) hC dX6_isOpenNow_45 (by decide) ?_
        refine J_goto 50 hC dX6_isOpenNow_46 (by decide) ?_
        exact J_zretI hC dX6_isOpenNow_50 rfl (Nat.le_of_ble_eq_true rfl) (Nat.le_of_ble_eq_true rfl) ⟨(if_pos ⟨Int32.not_le.mp c12, Or.inr (Int32.not_lt.mp c42)⟩).symm, rfl⟩

theorem nI_ne1 {n : Nat} (h : n < 2147483648) : ¬ nI n = -1 := fun z => by
  have h1 := nI_pos' h
  rw [z] at h1
  exact absurd h1 (by decide)

set_option maxHeartbeats 4000000 in
set_option maxRecDepth 100000 in
/-- ready -/
theorem c_ready_n {G : JG} (S : HS) (y : Nat) (B : Nat → Nat) (σ : Sg) (hs : MShp y B S) (hv : MVl y B σ S) (hr : Rng σ) (k : Nat) (hk : k < vn σ) (t : Int32) : Ct G yX6_ready cX6_ready 6 (some .int) 5 200 0 0 [.ref y, .int t, .int (-1), .int (nI k)] S (rI (fun r S' => r = t + wtV σ none k ∧ S' = S)) noX := by
  refine Ct.of (by decide) (Nat.le_of_ble_eq_true rfl) (fun X hC hT hin => ?_)
  refine J_iload_n 2 hC dX6_ready_0 rfl rfl ?_
  refine J_iconst (v := (-1)) hC dX6_ready_1 (by decide) ?_
  refine J_icmp_ne 9 hC dX6_ready_2 (by decide) (fun c2 => (c2 rfl).elim) (fun c2 => ?_)
  refine J_iconst (v := 2) hC dX6_ready_5 (by decide) ?_
  refine J_goto 46 hC dX6_ready_6 (by decide) ?_
  refine J_istore (lv' := [(4, _), (0, _), (1, _), (2, _), (3, _)]) hC dX6_ready_46 (by decide) rfl ?_
  refine J_iload_n 3 hC dX6_ready_48 rfl rfl ?_
  refine J_iconst (v := (-1)) hC dX6_ready_49 (by decide) ?_
  refine J_icmp_ne 57 hC dX6_ready_50 (by decide) (fun c50 => (c50 rfl).elim) (fun c50 => ?_)
  refine J_iconst (v := 0) hC dX6_ready_53 (by decide) ?_
  refine J_goto 63 hC dX6_ready_54 (by decide) ?_
  refine J_istore (lv' := [(5, _), (4, _), (0, _), (1, _), (2, _), (3, _)]) hC dX6_ready_63 (by decide) rfl ?_
  refine J_iload_n 3 hC dX6_ready_65 rfl rfl ?_
  refine J_iload 1 hC dX6_ready_66 rfl ?_
  refine J_iadd hC dX6_ready_68 ?_
  refine J_iload 0 hC dX6_ready_69 rfl ?_
  refine J_aload_n 2 hC dX6_ready_71 rfl rfl ?_
  refine fg_X6_27 hC hs.ky (hs.p 13 rfl) dX6_ready_72 ?_
  refine J_iload_n 5 hC dX6_ready_75 rfl rfl ?_
  refine J_iald hC (hs.k 13 rfl) rfl (inN (hs.n 13 rfl) (vp_in_nI (show k < 20 by have := hr.2.2.2.2.2.2.2.1; omega) (by decide))) dX6_ready_76 ?_
  refine J_topI (show _ = vt σ k 2 by rw [nI_clamp (show k < 2147483648 by have := hr.2.2.2.2.2.2.2.1; omega)]; exact hv.t hk (show 2 < 10 by decide)) ?_
  refine J_icmp_ne 84 hC dX6_ready_77 (by decide) (fun c77 => ?_) (fun c77 => ?_)
  · refine J_iconst (v := 3) hC dX6_ready_84 (by decide) ?_
    refine J_iadd hC dX6_ready_85 ?_
    exact J_iretI hC dX6_ready_86 (Nat.le_of_ble_eq_true rfl) (Nat.le_of_ble_eq_true rfl) ⟨by unfold wtV; rw [if_neg (fun z => c77 z.symm)]; exact Int32.add_assoc _ _ _, rfl⟩
  · refine J_iconst (v := 0) hC dX6_ready_80 (by decide) ?_
    refine J_goto 85 hC dX6_ready_81 (by decide) ?_
    refine J_iadd hC dX6_ready_85 ?_
    exact J_iretI hC dX6_ready_86 (Nat.le_of_ble_eq_true rfl) (Nat.le_of_ble_eq_true rfl) ⟨by unfold wtV; rw [if_pos c77.symm]; exact Int32.add_zero _, rfl⟩

set_option maxHeartbeats 4000000 in
set_option maxRecDepth 100000 in
/-- ready -/
theorem c_ready_s {G : JG} (S : HS) (y : Nat) (B : Nat → Nat) (σ : Sg) (hs : MShp y B S) (hv : MVl y B σ S) (hr : Rng σ) (k : Nat) (hk : k < vn σ) (t : Int32) (g : Nat) (hg : g < vn σ) : Ct G yX6_ready cX6_ready 6 (some .int) 5 200 0 0 [.ref y, .int t, .int (nI g), .int (nI k)] S (rI (fun r S' => r = t + wtV σ (some g) k ∧ S' = S)) noX := by
  refine Ct.of (by decide) (Nat.le_of_ble_eq_true rfl) (fun X hC hT hin => ?_)
  refine J_iload_n 2 hC dX6_ready_0 rfl rfl ?_
  refine J_iconst (v := (-1)) hC dX6_ready_1 (by decide) ?_
  refine J_icmp_ne 9 hC dX6_ready_2 (by decide) (fun c2 => ?_) (fun c2 => (nI_ne1 (show g < 2147483648 by have := hr.2.2.2.2.2.2.2.1; omega) c2).elim)
  refine J_iconst (v := 1) hC dX6_ready_9 (by decide) ?_
  refine J_sipush (v := 1000) hC dX6_ready_10 (by decide) ?_
  refine J_aload_n 0 hC dX6_ready_13 rfl rfl ?_
  refine fg_X6_20 hC hs.ky (hs.p 11 rfl) dX6_ready_14 ?_
  refine J_iload_n 2 hC dX6_ready_17 rfl rfl ?_
  refine J_iald hC (hs.k 11 rfl) rfl (inN (hs.n 11 rfl) (vp_in_nI (show g < 20 by have := hr.2.2.2.2.2.2.2.1; omega) (by decide))) dX6_ready_18 ?_
  refine J_topI (show _ = vt σ g 0 by rw [nI_clamp (show g < 2147483648 by have := hr.2.2.2.2.2.2.2.1; omega)]; exact hv.t hg (show 0 < 10 by decide)) ?_
  refine J_aload_n 0 hC dX6_ready_19 rfl rfl ?_
  refine fg_X6_24 hC hs.ky (hs.p 12 rfl) dX6_ready_20 ?_
  refine J_iload_n 2 hC dX6_ready_23 rfl rfl ?_
  refine J_iald hC (hs.k 12 rfl) rfl (inN (hs.n 12 rfl) (vp_in_nI (show g < 20 by have := hr.2.2.2.2.2.2.2.1; omega) (by decide))) dX6_ready_24 ?_
  refine J_topI (show _ = vt σ g 1 by rw [nI_clamp (show g < 2147483648 by have := hr.2.2.2.2.2.2.2.1; omega)]; exact hv.t hg (show 1 < 10 by decide)) ?_
  refine J_aload_n 0 hC dX6_ready_25 rfl rfl ?_
  refine fg_X6_20 hC hs.ky (hs.p 11 rfl) dX6_ready_26 ?_
  refine J_iload_n 3 hC dX6_ready_29 rfl rfl ?_
  refine J_iald hC (hs.k 11 rfl) rfl (inN (hs.n 11 rfl) (vp_in_nI (show k < 20 by have := hr.2.2.2.2.2.2.2.1; omega) (by decide))) dX6_ready_30 ?_
  refine J_topI (show _ = vt σ k 0 by rw [nI_clamp (show k < 2147483648 by have := hr.2.2.2.2.2.2.2.1; omega)]; exact hv.t hk (show 0 < 10 by decide)) ?_
  refine J_aload_n 0 hC dX6_ready_31 rfl rfl ?_
  refine fg_X6_24 hC hs.ky (hs.p 12 rfl) dX6_ready_32 ?_
  refine J_iload_n 3 hC dX6_ready_35 rfl rfl ?_
  refine J_iald hC (hs.k 12 rfl) rfl (inN (hs.n 12 rfl) (vp_in_nI (show k < 20 by have := hr.2.2.2.2.2.2.2.1; omega) (by decide))) dX6_ready_36 ?_
  refine J_topI (show _ = vt σ k 1 by rw [nI_clamp (show k < 2147483648 by have := hr.2.2.2.2.2.2.2.1; omega)]; exact hv.t hk (show 1 < 10 by decide)) ?_
  refine cl_X6_106 hC (c_X6_near S _ _ _ _) (Nat.le_of_ble_eq_true rfl) ⟨⟨Nat.le_of_ble_eq_true rfl, Nat.le_of_ble_eq_true rfl⟩, Nat.le_of_ble_eq_true rfl, Nat.le_of_ble_eq_true rfl⟩ dX6_ready_37 (fun r37 S37 e37 => ?_)
  obtain ⟨rfl, e37⟩ := e37
  subst S37
  refine J_isub hC dX6_ready_40 ?_
  refine J_sipush (v := 250) hC dX6_ready_41 (by decide) ?_
  refine J_idiv hC dX6_ready_44 (by decide) ?_
  refine J_iadd hC dX6_ready_45 ?_
  refine J_istore (lv' := [(4, _), (0, _), (1, _), (2, _), (3, _)]) hC dX6_ready_46 (by decide) rfl ?_
  refine J_iload_n 3 hC dX6_ready_48 rfl rfl ?_
  refine J_iconst (v := (-1)) hC dX6_ready_49 (by decide) ?_
  refine J_icmp_ne 57 hC dX6_ready_50 (by decide) (fun c50 => ?_) (fun c50 => (nI_ne1 (show g < 2147483648 by have := hr.2.2.2.2.2.2.2.1; omega) c50).elim)
  refine J_aload_n 1 hC dX6_ready_57 rfl rfl ?_
  refine fg_X6_27 hC hs.ky (hs.p 13 rfl) dX6_ready_58 ?_
  refine J_iload_n 3 hC dX6_ready_61 rfl rfl ?_
  refine J_iald hC (hs.k 13 rfl) rfl (inN (hs.n 13 rfl) (vp_in_nI (show g < 20 by have := hr.2.2.2.2.2.2.2.1; omega) (by decide))) dX6_ready_62 ?_
  refine J_topI (show _ = vt σ g 2 by rw [nI_clamp (show g < 2147483648 by have := hr.2.2.2.2.2.2.2.1; omega)]; exact hv.t hg (show 2 < 10 by decide)) ?_
  refine J_istore (lv' := [(5, _), (4, _), (0, _), (1, _), (2, _), (3, _)]) hC dX6_ready_63 (by decide) rfl ?_
  refine J_iload_n 3 hC dX6_ready_65 rfl rfl ?_
  refine J_iload 1 hC dX6_ready_66 rfl ?_
  refine J_iadd hC dX6_ready_68 ?_
  refine J_iload 0 hC dX6_ready_69 rfl ?_
  refine J_aload_n 2 hC dX6_ready_71 rfl rfl ?_
  refine fg_X6_27 hC hs.ky (hs.p 13 rfl) dX6_ready_72 ?_
  refine J_iload_n 5 hC dX6_ready_75 rfl rfl ?_
  refine J_iald hC (hs.k 13 rfl) rfl (inN (hs.n 13 rfl) (vp_in_nI (show k < 20 by have := hr.2.2.2.2.2.2.2.1; omega) (by decide))) dX6_ready_76 ?_
  refine J_topI (show _ = vt σ k 2 by rw [nI_clamp (show k < 2147483648 by have := hr.2.2.2.2.2.2.2.1; omega)]; exact hv.t hk (show 2 < 10 by decide)) ?_
  refine J_icmp_ne 84 hC dX6_ready_77 (by decide) (fun c77 => ?_) (fun c77 => ?_)
  · refine J_iconst (v := 3) hC dX6_ready_84 (by decide) ?_
    refine J_iadd hC dX6_ready_85 ?_
    exact J_iretI hC dX6_ready_86 (Nat.le_of_ble_eq_true rfl) (Nat.le_of_ble_eq_true rfl) ⟨by unfold wtV ntV; dsimp only; rw [if_neg (fun z => c77 z.symm)]; exact Int32.add_assoc _ _ _, rfl⟩
  · refine J_iconst (v := 0) hC dX6_ready_80 (by decide) ?_
    refine J_goto 85 hC dX6_ready_81 (by decide) ?_
    refine J_iadd hC dX6_ready_85 ?_
    exact J_iretI hC dX6_ready_86 (Nat.le_of_ble_eq_true rfl) (Nat.le_of_ble_eq_true rfl) ⟨by unfold wtV ntV; dsimp only; rw [if_pos c77.symm]; exact Int32.add_zero _, rfl⟩

/-- .. from where it points, or from nowhere: -1 -/
def fI (f : Option Nat) : Int32 := match f with
  | none => -1
  | some g => nI g
theorem c_ready {G : JG} (S : HS) (y : Nat) (B : Nat → Nat) (σ : Sg) (hs : MShp y B S) (hv : MVl y B σ S) (hr : Rng σ) (k : Nat) (hk : k < vn σ) (t : Int32) (f : Option Nat) (hf : ∀ g, f = some g → g < vn σ) : Ct G yX6_ready cX6_ready 6 (some .int) 5 200 0 0 [.ref y, .int t, .int (fI f), .int (nI k)] S (rI (fun r S' => r = t + wtV σ f k ∧ S' = S)) noX := by
  cases f with
  | none => exact c_ready_n S y B σ hs hv hr k hk t
  | some g => exact c_ready_s S y B σ hs hv hr k hk t g (hf g rfl)
