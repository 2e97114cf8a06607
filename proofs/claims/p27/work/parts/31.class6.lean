/-! the class's setters: printed by wip/p27/class6.py -/
set_option maxHeartbeats 4000000 in
set_option maxRecDepth 100000 in
/-- use -/
theorem c_X5_use {G : JG} (S : HS) (x : Nat) (A : Nat → Nat → Nat) (σ : Sg) (h : CI G x A σ S) : Ct G yX5_use cX5_use 1 (some .double) 9 340 4 40 [.ref x] S (rD (fun r S' => CI G x A σ S' ∧ FrC S S' ∧ r = FP.ddiv (FP.i2d (pM (plV σ))) (FP.i2d (vg σ 2)))) noX := by
  refine Ct.of (by decide) (Nat.le_of_ble_eq_true rfl) (fun X hC hT hin => ?_)
  have h0 := h
  obtain ⟨hs, hv, hr, ho, hp⟩ := h
  refine J_aload_n 0 hC dX5_use_0 rfl rfl ?_
  refine cl_X5_187 hC (c_settle S x A σ h0) hs.kx (Nat.le_of_ble_eq_true rfl) ⟨⟨Nat.le_of_ble_eq_true rfl, Nat.le_of_ble_eq_true rfl⟩, Nat.le_of_ble_eq_true rfl, Nat.le_of_ble_eq_true rfl⟩ dX5_use_1 (fun S1 e1 => ?_)
  obtain ⟨hc1, hf1, hp1, ho1⟩ := e1
  obtain ⟨hs1, hv1, -, -, -⟩ := id hc1
  refine J_aload_n 0 hC dX5_use_4 rfl rfl ?_
  refine fg_X5_42 hC hs1.kx hs1.pp dX5_use_5 ?_
  refine fg_X5_201 hC hs1.kp dX5_use_8 ?_
  refine J_topI hp1.2.1 ?_
  refine J_i2d hC dX5_use_11 ?_
  refine J_aload_n 0 hC dX5_use_12 rfl rfl ?_
  refine fg_X5_21 hC hs1.kx dX5_use_13 ?_
  refine J_topI hv1.2.2.1.2.1 ?_
  refine J_i2d hC dX5_use_16 ?_
  refine J_ddiv hC dX5_use_17 (by exact Jvm.Free.Fl.ddiv_out (Jvm.Free.Fl.i2d_fin _).noNaN (Jvm.Free.Fl.i2d_fin _) (Jvm.Free.Fl.i2d_nz (fun z => absurd hr.2.2.1.1 (by rw [z]; decide)))) ?_
  exact J_dretI hC dX5_use_18 (Nat.le_of_ble_eq_true rfl) (Nat.le_of_ble_eq_true rfl) ⟨hc1, hf1, rfl⟩

theorem kI {S : HS} {k a b n : Nat} {v : Int32} (h : hK S a = n) : hK (sI S k b v) a = n := h
theorem pI {S : HS} {k a b j : Nat} {v : Int32} {o : Option Nat} (h : hP S j a = o) : hP (sI S k b v) j a = o := h
theorem c_pt {G : JG} (S : HS) (q : Nat) (v w : Int32) : Ct G yX3_init cX3_init 3 none 1 40 0 0 [.ref q, .int v, .int w] (sNew S q 5 0) (rV (fun S' => S' = ptS S q v w)) noX := c_X3_init _ q v w (if_pos rfl)

set_option maxHeartbeats 4000000 in
set_option maxRecDepth 100000 in
/-- setSite -/
theorem c_X5_setSite {G : JG} (S : HS) (x : Nat) (A : Nat → Nat → Nat) (σ : Sg) (h : CI G x A σ S) (v w : Int32) : Ct G yX5_setSite cX5_setSite 4 (some .int) 9 340 4 40 [.ref x, .int v, .int w] S (rI (fun r S' => CS G x (setG (setG σ 0 v) 1 w) S S' ∧ ((-90 ≤ v ∧ v ≤ 90) ∧ (0 ≤ w ∧ w ≤ 1439)) ∧ r = vg σ 0)) (fun E S' => E = eIA ∧ S' = S ∧ ¬ ((-90 ≤ v ∧ v ≤ 90) ∧ (0 ≤ w ∧ w ≤ 1439))) := by
  refine Ct.of (by decide) (Nat.le_of_ble_eq_true rfl) (fun X hC hT hin => ?_)
  have h0 := h
  obtain ⟨hs, hv, hr, ho, hp⟩ := h
  refine J_iload_n 1 hC dX5_setSite_0 rfl rfl ?_
  refine J_bipush (v := (-90)) hC dX5_setSite_1 (by decide) ?_
  refine J_bipush (v := 90) hC dX5_setSite_3 (by decide) ?_
  refine cl_X5_46 hC (c_X5_isWithin S _ _ _) (Nat.le_of_ble_eq_true rfl) ⟨⟨Nat.le_of_ble_eq_true rfl, Nat.le_of_ble_eq_true rfl⟩, Nat.le_of_ble_eq_true rfl, Nat.le_of_ble_eq_true rfl⟩ dX5_setSite_5 (fun r5 S5 e5 => ?_)
  obtain ⟨rfl, e5⟩ := e5
  subst S5
  refine J_if_eq 22 hC dX5_setSite_8 (by decide) (fun c8 => ?_) (fun c8 => ?_)
  · exact J_throwS hC hT (text := "the latitude is -90 to 90, the start 0 to 1439") (names := exN) fit_IA exN_ok (mG 179 (by decide +kernel) rfl) (mG 28 (by decide +kernel) rfl) (by decide +kernel) at_IA dX5_setSite_22 dX5_setSite_25 dX5_setSite_26 dX5_setSite_28 dX5_setSite_31 (by decide) (Nat.le_of_ble_eq_true rfl) (Nat.le_of_ble_eq_true rfl) (Nat.le_of_ble_eq_true rfl) ⟨rfl, rfl, fun z => bI_eq c8 z.1⟩
  · refine J_iload_n 2 hC dX5_setSite_11 rfl rfl ?_
    refine J_iconst (v := 0) hC dX5_setSite_12 (by decide) ?_
    refine J_sipush (v := 1439) hC dX5_setSite_13 (by decide) ?_
    refine cl_X5_46 hC (c_X5_isWithin S _ _ _) (Nat.le_of_ble_eq_true rfl) ⟨⟨Nat.le_of_ble_eq_true rfl, Nat.le_of_ble_eq_true rfl⟩, Nat.le_of_ble_eq_true rfl, Nat.le_of_ble_eq_true rfl⟩ dX5_setSite_16 (fun r16 S16 e16 => ?_)
    obtain ⟨rfl, e16⟩ := e16
    subst S16
    refine J_if_ne 32 hC dX5_setSite_19 (by decide) (fun c19 => ?_) (fun c19 => ?_)
    · refine J_aload_n 0 hC dX5_setSite_32 rfl rfl ?_
      refine fg_X5_12 hC hs.kx hs.pz dX5_setSite_33 ?_
      refine fg_X5_57 hC hs.kz dX5_setSite_36 ?_
      refine J_topI hv.1.2.1 ?_
      refine J_istore_n (lv' := [(3, _), (0, _), (1, _), (2, _)]) hC dX5_setSite_39 rfl (by decide) rfl ?_
      refine J_aload_n 1 hC dX5_setSite_40 rfl rfl ?_
      refine nw_X5_7 hC (Nat.le_of_ble_eq_true rfl) (Nat.le_of_ble_eq_true rfl) dX5_setSite_41 (fun q fq => ?_)
      refine J_dup hC dX5_setSite_44 rfl ?_
      refine J_iload_n 3 hC dX5_setSite_45 rfl rfl ?_
      refine J_iload_n 2 hC dX5_setSite_46 rfl rfl ?_
      refine cl_X5_9 hC (c_pt S q w v) (Nat.le_of_ble_eq_true rfl) ⟨⟨Nat.le_of_ble_eq_true rfl, Nat.le_of_ble_eq_true rfl⟩, Nat.le_of_ble_eq_true rfl, Nat.le_of_ble_eq_true rfl⟩ dX5_setSite_47 (fun S47 e47 => ?_)
      subst S47
      refine fp_X5_12 hC (pt_shp hs fq).kx dX5_setSite_50 ?_
      have hz := zen_step (la := v) (st := w) hs hv fq
      refine J_aload_n 1 hC dX5_setSite_53 rfl rfl ?_
      refine cl_X5_60 hC (c_X5_forgetNight _ x (vn σ) (upA A 0 0 q) hz.1 hz.2.1.2.2.2.2.1) hz.1.kx (Nat.le_of_ble_eq_true rfl) ⟨⟨Nat.le_of_ble_eq_true rfl, Nat.le_of_ble_eq_true rfl⟩, Nat.le_of_ble_eq_true rfl, Nat.le_of_ble_eq_true rfl⟩ dX5_setSite_54 (fun S54 e54 => ?_)
      obtain ⟨I9, e9, hfn⟩ := e54
      subst e9
      have hfin := fn_CS (σ := setG (setG σ 0 v) 1 w) hz.2.2 hz.1 hz.2.1 (hr.cong (bI_ne c8) (bI_ne c19) hr.2.2.1 hr.2.2.2.1 (Int32.le_refl _) hr.2.2.2.2.1 hr.2.2.2.2.2.1 hr.2.2.2.2.2.2.1 rfl rfl) hfn
      refine J_iload_n 0 hC dX5_setSite_57 rfl rfl ?_
      exact J_iretI hC dX5_setSite_58 (Nat.le_of_ble_eq_true rfl) (Nat.le_of_ble_eq_true rfl) ⟨hfin.2, ⟨bI_ne c8, bI_ne c19⟩, rfl⟩
    · exact J_throwS hC hT (text := "the latitude is -90 to 90, the start 0 to 1439") (names := exN) fit_IA exN_ok (mG 179 (by decide +kernel) rfl) (mG 28 (by decide +kernel) rfl) (by decide +kernel) at_IA dX5_setSite_22 dX5_setSite_25 dX5_setSite_26 dX5_setSite_28 dX5_setSite_31 (by decide) (Nat.le_of_ble_eq_true rfl) (Nat.le_of_ble_eq_true rfl) (Nat.le_of_ble_eq_true rfl) ⟨rfl, rfl, fun z => bI_eq c19 z.2⟩

set_option maxHeartbeats 4000000 in
set_option maxRecDepth 100000 in
/-- setLength -/
theorem c_X5_setLength {G : JG} (S : HS) (x : Nat) (A : Nat → Nat → Nat) (σ : Sg) (h : CI G x A σ S) (v : Int32) : Ct G yX5_setLength cX5_setLength 3 (some .int) 9 340 4 40 [.ref x, .int v] S (rI (fun r S' => CS G x (setG σ 2 v) S S' ∧ (60 ≤ v ∧ v ≤ 900) ∧ r = vg σ 2)) (fun E S' => E = eIA ∧ S' = S ∧ ¬ (60 ≤ v ∧ v ≤ 900)) := by
  refine Ct.of (by decide) (Nat.le_of_ble_eq_true rfl) (fun X hC hT hin => ?_)
  have h0 := h
  obtain ⟨hs, hv, hr, ho, hp⟩ := h
  refine J_iload_n 1 hC dX5_setLength_0 rfl rfl ?_
  refine J_bipush (v := 60) hC dX5_setLength_1 (by decide) ?_
  refine J_sipush (v := 900) hC dX5_setLength_3 (by decide) ?_
  refine cl_X5_46 hC (c_X5_isWithin S _ _ _) (Nat.le_of_ble_eq_true rfl) ⟨⟨Nat.le_of_ble_eq_true rfl, Nat.le_of_ble_eq_true rfl⟩, Nat.le_of_ble_eq_true rfl, Nat.le_of_ble_eq_true rfl⟩ dX5_setLength_6 (fun r6 S6 e6 => ?_)
  obtain ⟨rfl, e6⟩ := e6
  subst S6
  refine J_if_ne 22 hC dX5_setLength_9 (by decide) (fun c9 => ?_) (fun c9 => ?_)
  · refine J_aload_n 0 hC dX5_setLength_22 rfl rfl ?_
    refine fg_X5_21 hC hs.kx dX5_setLength_23 ?_
    refine J_topI hv.2.2.1.2.1 ?_
    refine J_istore_n (lv' := [(2, _), (0, _), (1, _)]) hC dX5_setLength_26 rfl (by decide) rfl ?_
    refine J_aload_n 1 hC dX5_setLength_27 rfl rfl ?_
    refine J_iload_n 2 hC dX5_setLength_28 rfl rfl ?_
    refine fp_X5_21 hC hs.kx dX5_setLength_29 ?_
    have hl := len_step (v := v) hs hv
    refine J_aload_n 1 hC dX5_setLength_32 rfl rfl ?_
    refine cl_X5_60 hC (c_X5_forgetNight _ x (vn σ) A hs.sI hl.2.2.2.2.1) hs.sI.kx (Nat.le_of_ble_eq_true rfl) ⟨⟨Nat.le_of_ble_eq_true rfl, Nat.le_of_ble_eq_true rfl⟩, Nat.le_of_ble_eq_true rfl, Nat.le_of_ble_eq_true rfl⟩ dX5_setLength_33 (fun S33 e33 => ?_)
    obtain ⟨I9, e9, hfn⟩ := e33
    subst e9
    have hfin := fn_CS (σ := setG σ 2 v) (FrC.rfl.sI (lt14 hs.kx (by decide))) hs.sI hl (hr.cong hr.1 hr.2.1 (bI_ne c9) hr.2.2.2.1 (Int32.le_refl _) hr.2.2.2.2.1 hr.2.2.2.2.2.1 hr.2.2.2.2.2.2.1 rfl rfl) hfn
    refine J_iload_n 0 hC dX5_setLength_36 rfl rfl ?_
    exact J_iretI hC dX5_setLength_37 (Nat.le_of_ble_eq_true rfl) (Nat.le_of_ble_eq_true rfl) ⟨hfin.2, bI_ne c9, rfl⟩
  · exact J_throwS hC hT (text := "the length is 60 to 900") (names := exN) fit_IA exN_ok (mG 179 (by decide +kernel) rfl) (mG 28 (by decide +kernel) rfl) (by decide +kernel) at_IA dX5_setLength_12 dX5_setLength_15 dX5_setLength_16 dX5_setLength_18 dX5_setLength_21 (by decide) (Nat.le_of_ble_eq_true rfl) (Nat.le_of_ble_eq_true rfl) (Nat.le_of_ble_eq_true rfl) ⟨rfl, rfl, bI_eq c9⟩

set_option maxHeartbeats 4000000 in
set_option maxRecDepth 100000 in
/-- setMoon -/
theorem c_X5_setMoon {G : JG} (S : HS) (x : Nat) (A : Nat → Nat → Nat) (σ : Sg) (h : CI G x A σ S) (u v w : Int32) : Ct G yX5_setMoon cX5_setMoon 4 (some .int) 9 340 4 40 [.ref x, .int u, .int v, .int w] S (rI (fun r S' => CS G x (setG (setG (setG σ 4 u) 5 v) 6 w) S S' ∧ (((0 ≤ u ∧ u ≤ 1439) ∧ (-90 ≤ v ∧ v ≤ 90)) ∧ (0 ≤ w ∧ w ≤ 29)) ∧ r = lightV w)) (fun E S' => E = eIA ∧ S' = S ∧ ¬ (((0 ≤ u ∧ u ≤ 1439) ∧ (-90 ≤ v ∧ v ≤ 90)) ∧ (0 ≤ w ∧ w ≤ 29))) := by
  refine Ct.of (by decide) (Nat.le_of_ble_eq_true rfl) (fun X hC hT hin => ?_)
  have h0 := h
  obtain ⟨hs, hv, hr, ho, hp⟩ := h
  refine J_iload_n 1 hC dX5_setMoon_0 rfl rfl ?_
  refine J_iload_n 2 hC dX5_setMoon_1 rfl rfl ?_
  refine cl_X5_65 hC (c_X5_isPoint S _ _) (Nat.le_of_ble_eq_true rfl) ⟨⟨Nat.le_of_ble_eq_true rfl, Nat.le_of_ble_eq_true rfl⟩, Nat.le_of_ble_eq_true rfl, Nat.le_of_ble_eq_true rfl⟩ dX5_setMoon_2 (fun r2 S2 e2 => ?_)
  obtain ⟨rfl, e2⟩ := e2
  subst S2
  refine J_if_eq 18 hC dX5_setMoon_5 (by decide) (fun c5 => ?_) (fun c5 => ?_)
  · exact J_throwS hC hT (text := "the moon is a point of the sky with an age of 0 to 29") (names := exN) fit_IA exN_ok (mG 179 (by decide +kernel) rfl) (mG 28 (by decide +kernel) rfl) (by decide +kernel) at_IA dX5_setMoon_18 dX5_setMoon_21 dX5_setMoon_22 dX5_setMoon_24 dX5_setMoon_27 (by decide) (Nat.le_of_ble_eq_true rfl) (Nat.le_of_ble_eq_true rfl) (Nat.le_of_ble_eq_true rfl) ⟨rfl, rfl, fun z => bI_eq c5 z.1⟩
  · refine J_iload_n 3 hC dX5_setMoon_8 rfl rfl ?_
    refine J_iconst (v := 0) hC dX5_setMoon_9 (by decide) ?_
    refine J_bipush (v := 29) hC dX5_setMoon_10 (by decide) ?_
    refine cl_X5_46 hC (c_X5_isWithin S _ _ _) (Nat.le_of_ble_eq_true rfl) ⟨⟨Nat.le_of_ble_eq_true rfl, Nat.le_of_ble_eq_true rfl⟩, Nat.le_of_ble_eq_true rfl, Nat.le_of_ble_eq_true rfl⟩ dX5_setMoon_12 (fun r12 S12 e12 => ?_)
    obtain ⟨rfl, e12⟩ := e12
    subst S12
    refine J_if_ne 28 hC dX5_setMoon_15 (by decide) (fun c15 => ?_) (fun c15 => ?_)
    · refine J_aload_n 0 hC dX5_setMoon_28 rfl rfl ?_
      refine nw_X5_7 hC (Nat.le_of_ble_eq_true rfl) (Nat.le_of_ble_eq_true rfl) dX5_setMoon_29 (fun q fq => ?_)
      refine J_dup hC dX5_setMoon_32 rfl ?_
      refine J_iload_n 1 hC dX5_setMoon_33 rfl rfl ?_
      refine J_iload_n 2 hC dX5_setMoon_34 rfl rfl ?_
      refine cl_X5_9 hC (c_pt S q u v) (Nat.le_of_ble_eq_true rfl) ⟨⟨Nat.le_of_ble_eq_true rfl, Nat.le_of_ble_eq_true rfl⟩, Nat.le_of_ble_eq_true rfl, Nat.le_of_ble_eq_true rfl⟩ dX5_setMoon_35 (fun S35 e35 => ?_)
      subst S35
      refine fp_X5_18 hC (pt_shp hs fq).kx dX5_setMoon_38 ?_
      have hz := moon_step (ri := u) (de := v) hs hv fq
      refine J_aload_n 0 hC dX5_setMoon_41 rfl rfl ?_
      refine J_iload_n 3 hC dX5_setMoon_42 rfl rfl ?_
      refine fp_X5_71 hC hz.1.kx dX5_setMoon_43 ?_
      have hg := age_step (σ := setG (setG σ 4 u) 5 v) (v := w) hz.1 hz.2.1
      have hr' : Rng (setG (setG (setG σ 4 u) 5 v) 6 w) := hr.cong hr.1 hr.2.1 hr.2.2.1 hr.2.2.2.1 (Int32.le_refl _) (bI_ne c5).1 (bI_ne c5).2 (bI_ne c15) rfl rfl
      refine J_aload_n 0 hC dX5_setMoon_46 rfl rfl ?_
      refine cl_X5_60 hC (c_X5_forgetNight _ x (vn σ) (upA A 0 1 q) hz.1.sI hg.2.2.2.2.1) hz.1.sI.kx (Nat.le_of_ble_eq_true rfl) ⟨⟨Nat.le_of_ble_eq_true rfl, Nat.le_of_ble_eq_true rfl⟩, Nat.le_of_ble_eq_true rfl, Nat.le_of_ble_eq_true rfl⟩ dX5_setMoon_47 (fun S47 e47 => ?_)
      obtain ⟨I9, e9, hfn⟩ := e47
      subst e9
      have hfin := fn_CS (σ := (setG (setG (setG σ 4 u) 5 v) 6 w)) (hz.2.2.sI (lt14 hz.1.kx (by decide))) hz.1.sI hg hr' hfn
      refine J_aload_n 0 hC dX5_setMoon_50 rfl rfl ?_
      refine cl_X5_74 hC (c_li hfin.1.1 hfin.1.2.1) hfin.1.1.kx (Nat.le_of_ble_eq_true rfl) ⟨⟨Nat.le_of_ble_eq_true rfl, Nat.le_of_ble_eq_true rfl⟩, Nat.le_of_ble_eq_true rfl, Nat.le_of_ble_eq_true rfl⟩ dX5_setMoon_51 (fun r51 S51 e51 => ?_)
      obtain ⟨rfl, e51⟩ := e51
      subst S51
      exact J_iretI hC dX5_setMoon_54 (Nat.le_of_ble_eq_true rfl) (Nat.le_of_ble_eq_true rfl) ⟨hfin.2, ⟨bI_ne c5, bI_ne c15⟩, rfl⟩
    · exact J_throwS hC hT (text := "the moon is a point of the sky with an age of 0 to 29") (names := exN) fit_IA exN_ok (mG 179 (by decide +kernel) rfl) (mG 28 (by decide +kernel) rfl) (by decide +kernel) at_IA dX5_setMoon_18 dX5_setMoon_21 dX5_setMoon_22 dX5_setMoon_24 dX5_setMoon_27 (by decide) (Nat.le_of_ble_eq_true rfl) (Nat.le_of_ble_eq_true rfl) (Nat.le_of_ble_eq_true rfl) ⟨rfl, rfl, fun z => bI_eq c15 z.2⟩

set_option maxHeartbeats 4000000 in
set_option maxRecDepth 100000 in
/-- addClouds -/
theorem c_X5_addClouds {G : JG} (S : HS) (x : Nat) (A : Nat → Nat → Nat) (σ : Sg) (h : CI G x A σ S) (v w : Int32) : Ct G yX5_addClouds cX5_addClouds 3 (some .int) 9 340 4 40 [.ref x, .int v, .int w] S (rI (fun r S' => CS G x (addC σ v w) S S' ∧ (0 ≤ v ∧ v ≤ w ∧ w < vg σ 2) ∧ vc σ < 8 ∧ r = clN (addC σ v w) (lnV σ))) (fun E S' => (E = eIA ∧ S' = S ∧ ¬ (0 ≤ v ∧ v ≤ w ∧ w < vg σ 2)) ∨ (E = eIS ∧ S' = S ∧ (0 ≤ v ∧ v ≤ w ∧ w < vg σ 2) ∧ vc σ = 8)) := by
  refine Ct.of (by decide) (Nat.le_of_ble_eq_true rfl) (fun X hC hT hin => ?_)
  have h0 := h
  obtain ⟨hs, hv, hr, ho, hp⟩ := h
  refine J_iload_n 1 hC dX5_addClouds_0 rfl rfl ?_
  refine J_if_lt 17 hC dX5_addClouds_1 (by decide) (fun c1 => ?_) (fun c1 => ?_)
  · exact J_throwS hC hT (text := "clouds go from a minute of the night to one not before it") (names := exN) fit_IA exN_ok (mG 179 (by decide +kernel) rfl) (mG 28 (by decide +kernel) rfl) (by decide +kernel) at_IA dX5_addClouds_17 dX5_addClouds_20 dX5_addClouds_21 dX5_addClouds_23 dX5_addClouds_26 (by decide) (Nat.le_of_ble_eq_true rfl) (Nat.le_of_ble_eq_true rfl) (Nat.le_of_ble_eq_true rfl) (Or.inl ⟨rfl, rfl, fun z => absurd z.1 (Int32.not_le.mpr c1)⟩)
  · refine J_iload_n 1 hC dX5_addClouds_4 rfl rfl ?_
    refine J_iload_n 2 hC dX5_addClouds_5 rfl rfl ?_
    refine J_icmp_gt 17 hC dX5_addClouds_6 (by decide) (fun c6 => ?_) (fun c6 => ?_)
    · exact J_throwS hC hT (text := "clouds go from a minute of the night to one not before it") (names := exN) fit_IA exN_ok (mG 179 (by decide +kernel) rfl) (mG 28 (by decide +kernel) rfl) (by decide +kernel) at_IA dX5_addClouds_17 dX5_addClouds_20 dX5_addClouds_21 dX5_addClouds_23 dX5_addClouds_26 (by decide) (Nat.le_of_ble_eq_true rfl) (Nat.le_of_ble_eq_true rfl) (Nat.le_of_ble_eq_true rfl) (Or.inl ⟨rfl, rfl, fun z => absurd z.2.1 (Int32.not_le.mpr c6)⟩)
    · refine J_iload_n 2 hC dX5_addClouds_9 rfl rfl ?_
      refine J_aload_n 0 hC dX5_addClouds_10 rfl rfl ?_
      refine fg_X5_21 hC hs.kx dX5_addClouds_11 ?_
      refine J_topI hv.2.2.1.2.1 ?_
      refine J_icmp_lt 27 hC dX5_addClouds_14 (by decide) (fun c14 => ?_) (fun c14 => ?_)
      · have hcs : 0 ≤ v ∧ v ≤ w ∧ w < vg σ 2 := ⟨Int32.not_lt.mp c1, Int32.not_lt.mp c6, c14⟩
        have hcl := hv.2.2.2.1
        refine J_aload_n 0 hC dX5_addClouds_27 rfl rfl ?_
        refine fg_X5_28 hC hs.kx hs.pc dX5_addClouds_28 ?_
        refine fg_X5_80 hC hs.kc dX5_addClouds_31 ?_
        refine J_topI hcl.1 ?_
        refine J_bipush (v := 8) hC dX5_addClouds_34 (by decide) ?_
        refine J_icmp_lt 49 hC dX5_addClouds_36 (by decide) (fun c36 => ?_) (fun c36 => ?_)
        · have h8 : vc σ < 8 := (nI_ltI (b := 8) (show vc σ < 2147483648 by have := hcl.2.1; omega) (by decide)).mp c36
          have hte := tell_step (v := v) (w := w) hs hv h8
          refine J_aload_n 0 hC dX5_addClouds_49 rfl rfl ?_
          refine fg_X5_28 hC hs.kx hs.pc dX5_addClouds_50 ?_
          refine J_iload_n 1 hC dX5_addClouds_53 rfl rfl ?_
          refine J_iload_n 2 hC dX5_addClouds_54 rfl rfl ?_
          refine cl_X5_88 hC (c_X0_tell S (A 0 2) (A 0 3) (A 0 4) v w hs.kc hs.pf hs.kf hs.nf hs.pt hs.kt hs.nt (by rw [hcl.1]; exact nI_pos' (by omega)) (by rw [hcl.1]; exact nI_lt h8 (by decide))) hs.kc (Nat.le_of_ble_eq_true rfl) ⟨⟨Nat.le_of_ble_eq_true rfl, Nat.le_of_ble_eq_true rfl⟩, Nat.le_of_ble_eq_true rfl, Nat.le_of_ble_eq_true rfl⟩ dX5_addClouds_55 (fun S55 e55 => ?_)
          subst S55
          refine J_aload_n 0 hC dX5_addClouds_58 rfl rfl ?_
          refine cl_X5_60 hC (c_X5_forgetNight _ x (vn σ) A hte.1 hte.2.1.2.2.2.2.1) hte.1.kx (Nat.le_of_ble_eq_true rfl) ⟨⟨Nat.le_of_ble_eq_true rfl, Nat.le_of_ble_eq_true rfl⟩, Nat.le_of_ble_eq_true rfl, Nat.le_of_ble_eq_true rfl⟩ dX5_addClouds_59 (fun S59 e59 => ?_)
          obtain ⟨I9, e9, hfn⟩ := e59
          subst e9
          have hfin := fn_CS (σ := addC σ v w) hte.2.2 hte.1 hte.2.1 (hr.cong hr.1 hr.2.1 hr.2.2.1 hr.2.2.2.1 (Int32.le_refl _) hr.2.2.2.2.1 hr.2.2.2.2.2.1 hr.2.2.2.2.2.2.1 rfl rfl) hfn
          refine J_aload_n 0 hC dX5_addClouds_62 rfl rfl ?_
          refine cl_X5_91 hC (c_X5_clearMinutes _ x A (addC σ v w) hfin.1.1 hfin.1.2.1 (lnV σ) hr.ln.1 hr.ln.2.2) hfin.1.1.kx (Nat.le_of_ble_eq_true rfl) ⟨⟨Nat.le_of_ble_eq_true rfl, Nat.le_of_ble_eq_true rfl⟩, Nat.le_of_ble_eq_true rfl, Nat.le_of_ble_eq_true rfl⟩ dX5_addClouds_63 (fun r63 S63 e63 => ?_)
          obtain ⟨rfl, e63⟩ := e63
          subst S63
          exact J_iretI hC dX5_addClouds_66 (Nat.le_of_ble_eq_true rfl) (Nat.le_of_ble_eq_true rfl) ⟨hfin.2, hcs, h8, rfl⟩
        · exact J_throwS hC hT (text := "clouds were told 8 times") (names := exN) fit_IS exN_ok (mG 295 (by decide +kernel) rfl) (mG 29 (by decide +kernel) rfl) (by decide +kernel) at_IS dX5_addClouds_39 dX5_addClouds_42 dX5_addClouds_43 dX5_addClouds_45 dX5_addClouds_48 (by decide) (Nat.le_of_ble_eq_true rfl) (Nat.le_of_ble_eq_true rfl) (Nat.le_of_ble_eq_true rfl) (Or.inr ⟨rfl, rfl, hcs, by have h8 := (nI_leI (a := 8) (by decide) (show vc σ < 2147483648 by have := hcl.2.1; omega)).mp (Int32.not_lt.mp c36); have := hcl.2.1; omega⟩)
      · exact J_throwS hC hT (text := "clouds go from a minute of the night to one not before it") (names := exN) fit_IA exN_ok (mG 179 (by decide +kernel) rfl) (mG 28 (by decide +kernel) rfl) (by decide +kernel) at_IA dX5_addClouds_17 dX5_addClouds_20 dX5_addClouds_21 dX5_addClouds_23 dX5_addClouds_26 (by decide) (Nat.le_of_ble_eq_true rfl) (Nat.le_of_ble_eq_true rfl) (Nat.le_of_ble_eq_true rfl) (Or.inl ⟨rfl, rfl, fun z => c14 z.2.2⟩)

set_option maxHeartbeats 4000000 in
set_option maxRecDepth 100000 in
/-- want -/
theorem c_X5_want {G : JG} (S : HS) (x : Nat) (A : Nat → Nat → Nat) (σ : Sg) (h : CI G x A σ S) (t u v w : Int32) : Ct G yX5_want cX5_want 7 (some .int) 9 340 4 40 [.ref x, .int t, .int u, .int v, .int w] S (rI (fun r S' => ((-1000 ≤ u ∧ u ≤ 1000) ∧ (1 ≤ v ∧ v ≤ 10) ∧ (1 ≤ w ∧ w ≤ 20)) ∧ ∃ k, k < vn σ ∧ t = nI k ∧ CS G x (upT σ k (wnF σ k u v w)) S S' ∧ r = vt σ k 6)) (fun E S' => (E = eIO ∧ S' = S ∧ ¬ isTg (vn σ) t) ∨ (E = eIA ∧ S' = S ∧ isTg (vn σ) t ∧ ¬ ((-1000 ≤ u ∧ u ≤ 1000) ∧ (1 ≤ v ∧ v ≤ 10) ∧ (1 ≤ w ∧ w ≤ 20)))) := by
  refine Ct.of (by decide) (Nat.le_of_ble_eq_true rfl) (fun X hC hT hin => ?_)
  have h0 := h
  obtain ⟨hs, hv, hr, ho, hp⟩ := h
  refine J_aload_n 0 hC dX5_want_0 rfl rfl ?_
  refine J_iload_n 1 hC dX5_want_1 rfl rfl ?_
  refine cl_X5_120 hC (c_X5_findTarget S x (vn σ) A hs hv.2.2.2.2.1 t) hs.kx (Nat.le_of_ble_eq_true rfl) ⟨⟨Nat.le_of_ble_eq_true rfl, Nat.le_of_ble_eq_true rfl⟩, Nat.le_of_ble_eq_true rfl, Nat.le_of_ble_eq_true rfl⟩ dX5_want_2 (fun E S9 h9 => JT_out hC (fun z hz => (hT z hz).elim) (Or.inl h9) (Nat.le_of_ble_eq_true rfl) (Nat.le_of_ble_eq_true rfl)) (fun r2 S2 e2 => ?_)
  obtain ⟨e2, k, hk, rfl, rfl⟩ := e2
  subst S2
  refine J_astore (lv' := [(5, _), (0, _), (1, _), (2, _), (3, _), (4, _)]) hC dX5_want_5 (by decide) rfl ?_
  refine J_iload_n 3 hC dX5_want_7 rfl rfl ?_
  refine J_sipush (v := (-1000)) hC dX5_want_8 (by decide) ?_
  refine J_sipush (v := 1000) hC dX5_want_11 (by decide) ?_
  refine cl_X5_46 hC (c_X5_isWithin S _ _ _) (Nat.le_of_ble_eq_true rfl) ⟨⟨Nat.le_of_ble_eq_true rfl, Nat.le_of_ble_eq_true rfl⟩, Nat.le_of_ble_eq_true rfl, Nat.le_of_ble_eq_true rfl⟩ dX5_want_14 (fun r14 S14 e14 => ?_)
  obtain ⟨rfl, e14⟩ := e14
  subst S14
  refine J_if_eq 41 hC dX5_want_17 (by decide) (fun c17 => ?_) (fun c17 => ?_)
  · exact J_throwS hC hT (text := "a target can't want this") (names := exN) fit_IA exN_ok (mG 179 (by decide +kernel) rfl) (mG 28 (by decide +kernel) rfl) (by decide +kernel) at_IA dX5_want_41 dX5_want_44 dX5_want_45 dX5_want_47 dX5_want_50 (by decide) (Nat.le_of_ble_eq_true rfl) (Nat.le_of_ble_eq_true rfl) (Nat.le_of_ble_eq_true rfl) (Or.inr ⟨rfl, rfl, ⟨k, hk, rfl⟩, fun z => bI_eq c17 z.1⟩)
  · refine J_iload_n 4 hC dX5_want_20 rfl rfl ?_
    refine J_iconst (v := 1) hC dX5_want_21 (by decide) ?_
    refine J_bipush (v := 10) hC dX5_want_22 (by decide) ?_
    refine cl_X5_46 hC (c_X5_isWithin S _ _ _) (Nat.le_of_ble_eq_true rfl) ⟨⟨Nat.le_of_ble_eq_true rfl, Nat.le_of_ble_eq_true rfl⟩, Nat.le_of_ble_eq_true rfl, Nat.le_of_ble_eq_true rfl⟩ dX5_want_24 (fun r24 S24 e24 => ?_)
    obtain ⟨rfl, e24⟩ := e24
    subst S24
    refine J_if_eq 41 hC dX5_want_27 (by decide) (fun c27 => ?_) (fun c27 => ?_)
    · exact J_throwS hC hT (text := "a target can't want this") (names := exN) fit_IA exN_ok (mG 179 (by decide +kernel) rfl) (mG 28 (by decide +kernel) rfl) (by decide +kernel) at_IA dX5_want_41 dX5_want_44 dX5_want_45 dX5_want_47 dX5_want_50 (by decide) (Nat.le_of_ble_eq_true rfl) (Nat.le_of_ble_eq_true rfl) (Nat.le_of_ble_eq_true rfl) (Or.inr ⟨rfl, rfl, ⟨k, hk, rfl⟩, fun z => bI_eq c27 z.2.1⟩)
    · refine J_iload 5 hC dX5_want_30 rfl ?_
      refine J_iconst (v := 1) hC dX5_want_32 (by decide) ?_
      refine J_bipush (v := 20) hC dX5_want_33 (by decide) ?_
      refine cl_X5_46 hC (c_X5_isWithin S _ _ _) (Nat.le_of_ble_eq_true rfl) ⟨⟨Nat.le_of_ble_eq_true rfl, Nat.le_of_ble_eq_true rfl⟩, Nat.le_of_ble_eq_true rfl, Nat.le_of_ble_eq_true rfl⟩ dX5_want_35 (fun r35 S35 e35 => ?_)
      obtain ⟨rfl, e35⟩ := e35
      subst S35
      refine J_if_ne 51 hC dX5_want_38 (by decide) (fun c38 => ?_) (fun c38 => ?_)
      · refine J_aload 0 hC dX5_want_51 rfl ?_
        refine fg_X5_126 hC (hs.kg hk) dX5_want_53 ?_
        refine J_topI (hv.tg hk).2.2.2.2.2.1 ?_
        refine J_istore (lv' := [(6, _), (5, _), (0, _), (1, _), (2, _), (3, _), (4, _)]) hC dX5_want_56 (by decide) rfl ?_
        refine J_aload 1 hC dX5_want_58 rfl ?_
        refine J_iload_n 4 hC dX5_want_60 rfl rfl ?_
        refine fp_X5_129 hC (hs.kg hk) dX5_want_61 ?_
        refine J_aload 1 hC dX5_want_64 rfl ?_
        refine J_iload_n 5 hC dX5_want_66 rfl rfl ?_
        refine fp_X5_126 hC (kI (hs.kg hk)) dX5_want_67 ?_
        refine J_aload 1 hC dX5_want_70 rfl ?_
        refine J_iload 6 hC dX5_want_72 rfl ?_
        refine fp_X5_132 hC (kI (kI (hs.kg hk))) dX5_want_74 ?_
        refine J_aload 1 hC dX5_want_77 rfl ?_
        refine fg_X5_135 hC (kI (kI (kI (hs.kg hk)))) (pI (pI (pI (hs.po hk)))) dX5_want_79 ?_
        refine J_iconst (v := 0) hC dX5_want_82 (by decide) ?_
        refine fp_X5_139 hC (kI (kI (kI (hs.ko hk)))) ⟨rfl, rfl⟩ dX5_want_83 ?_
        refine J_aload_n 2 hC dX5_want_86 rfl rfl ?_
        refine fg_X5_42 hC (kI (kI (kI (kI hs.kx)))) (pI (pI (pI (pI hs.pp)))) dX5_want_87 ?_
        refine J_iconst (v := 0) hC dX5_want_90 (by decide) ?_
        refine fp_X5_116 hC (kI (kI (kI (kI hs.kp)))) ⟨rfl, rfl⟩ dX5_want_91 ?_
        refine J_iload 0 hC dX5_want_94 rfl ?_
        exact J_iretI hC dX5_want_96 (Nat.le_of_ble_eq_true rfl) (Nat.le_of_ble_eq_true rfl) ⟨⟨bI_ne c17, bI_ne c27, bI_ne c38⟩, k, hk, rfl, want_step h0 hk, rfl⟩
      · exact J_throwS hC hT (text := "a target can't want this") (names := exN) fit_IA exN_ok (mG 179 (by decide +kernel) rfl) (mG 28 (by decide +kernel) rfl) (by decide +kernel) at_IA dX5_want_41 dX5_want_44 dX5_want_45 dX5_want_47 dX5_want_50 (by decide) (Nat.le_of_ble_eq_true rfl) (Nat.le_of_ble_eq_true rfl) (Nat.le_of_ble_eq_true rfl) (Or.inr ⟨rfl, rfl, ⟨k, hk, rfl⟩, fun z => bI_eq c38 z.2.2⟩)
