/-! the model's public methods: printed by wip/whole/model5.py -/
theorem mx_0 {y : Nat} {B : Nat → Nat} {σ : Sg} {S : HS} (h : MI y B σ S) : MX y B σ S (sI S 0 y 0) 0 := ⟨h.thr, frm_thr FrM.rfl h.1, hI_same _ _ _ _⟩
theorem mx_no {y : Nat} {B : Nat → Nat} {σ : Sg} {S : HS} {c : Int32} (h : MI y B σ S) : MX y B σ S (sI (sI S 0 y 0) 0 y c) c := ⟨h.thr.thr, frm_thr (frm_thr FrM.rfl h.1) h.1.sI, hI_same _ _ _ _⟩

set_option maxHeartbeats 4000000 in
set_option maxRecDepth 100000 in
/-- setSite -/
theorem c_X6_setSite {G : JG} (S : HS) (y : Nat) (B : Nat → Nat) (σ : Sg) (h : MI y B σ S) (v w : Int32) : Ct G yX6_setSite cX6_setSite 4 (some .int) 10 400 300 2600 [.ref y, .int v, .int w] S (rI (fun r S' => (((-90 ≤ v ∧ v ≤ 90) ∧ (0 ≤ w ∧ w ≤ 1439)) ∧ r = vg σ 0 ∧ MX y B (setG (setG σ 0 v) 1 w) S S' 0) ∨ (¬ ((-90 ≤ v ∧ v ≤ 90) ∧ (0 ≤ w ∧ w ≤ 1439)) ∧ MX y B σ S S' 1))) noX := by
  refine Ct.of (by decide) (Nat.le_of_ble_eq_true rfl) (fun X hC hT hin => ?_)
  obtain ⟨hs, hv, hr, hw⟩ := id h
  have n20 : vn σ ≤ 20 := hr.2.2.2.2.2.2.2.1
  have h1 := h.thr (v := 0)
  have hs1 := h1.1
  have hv1 := h1.2.1
  refine J_aload_n 0 hC dX6_setSite_0 rfl rfl ?_
  refine J_iconst (v := 0) hC dX6_setSite_1 (by decide) ?_
  refine fp_X6_60 hC hs.ky dX6_setSite_2 ?_
  refine J_iload_n 1 hC dX6_setSite_5 rfl rfl ?_
  refine J_bipush (v := (-90)) hC dX6_setSite_6 (by decide) ?_
  refine J_bipush (v := 90) hC dX6_setSite_8 (by decide) ?_
  refine cl_X6_66 hC (c_X6_isIn _ _ _ _) (Nat.le_of_ble_eq_true rfl) ⟨⟨Nat.le_of_ble_eq_true rfl, Nat.le_of_ble_eq_true rfl⟩, Nat.le_of_ble_eq_true rfl, Nat.le_of_ble_eq_true rfl⟩ dX6_setSite_10 (fun r10 S10 e10 => ?_)
  obtain ⟨rfl, e10⟩ := e10
  subst S10
  refine J_if_eq 27 hC dX6_setSite_13 (by decide) (fun c13 => ?_) (fun c13 => ?_)
  · refine J_aload_n 0 hC dX6_setSite_27 rfl rfl ?_
    refine J_iconst (v := 1) hC dX6_setSite_28 (by decide) ?_
    refine cl_X6_149 hC (c_X6_no _ y _ hs1.ky) hs1.ky (Nat.le_of_ble_eq_true rfl) ⟨⟨Nat.le_of_ble_eq_true rfl, Nat.le_of_ble_eq_true rfl⟩, Nat.le_of_ble_eq_true rfl, Nat.le_of_ble_eq_true rfl⟩ dX6_setSite_29 (fun r29 S29 e29 => ?_)
    obtain ⟨rfl, e29⟩ := e29
    subst S29
    exact J_iretI hC dX6_setSite_32 (Nat.le_of_ble_eq_true rfl) (Nat.le_of_ble_eq_true rfl) (Or.inr ⟨fun z => bI_eq c13 z.1, mx_no h⟩)
  · refine J_iload_n 2 hC dX6_setSite_16 rfl rfl ?_
    refine J_iconst (v := 0) hC dX6_setSite_17 (by decide) ?_
    refine J_sipush (v := 1439) hC dX6_setSite_18 (by decide) ?_
    refine cl_X6_66 hC (c_X6_isIn _ _ _ _) (Nat.le_of_ble_eq_true rfl) ⟨⟨Nat.le_of_ble_eq_true rfl, Nat.le_of_ble_eq_true rfl⟩, Nat.le_of_ble_eq_true rfl, Nat.le_of_ble_eq_true rfl⟩ dX6_setSite_21 (fun r21 S21 e21 => ?_)
    obtain ⟨rfl, e21⟩ := e21
    subst S21
    refine J_if_ne 33 hC dX6_setSite_24 (by decide) (fun c24 => ?_) (fun c24 => ?_)
    · refine J_aload_n 0 hC dX6_setSite_33 rfl rfl ?_
      refine fg_X6_13 hC hs1.ky dX6_setSite_34 ?_
      refine J_topI hv1.1.2.2.1 ?_
      refine J_istore_n (lv' := [(3, _), (0, _), (1, _), (2, _)]) hC dX6_setSite_37 rfl (by decide) rfl ?_
      refine J_aload_n 1 hC dX6_setSite_38 rfl rfl ?_
      refine J_iload_n 2 hC dX6_setSite_39 rfl rfl ?_
      refine fp_X6_13 hC hs1.ky dX6_setSite_40 ?_
      refine J_aload_n 1 hC dX6_setSite_43 rfl rfl ?_
      refine J_iload_n 3 hC dX6_setSite_44 rfl rfl ?_
      refine fp_X6_84 hC (kI hs1.ky) dX6_setSite_45 ?_
      refine J_aload_n 1 hC dX6_setSite_48 rfl rfl ?_
      refine J_iconst (v := 0) hC dX6_setSite_49 (by decide) ?_
      refine fp_X6_123 hC (kI (kI hs1.ky)) ⟨rfl, rfl⟩ dX6_setSite_50 ?_
      refine J_iload_n 0 hC dX6_setSite_53 rfl rfl ?_
      exact J_iretI hC dX6_setSite_54 (Nat.le_of_ble_eq_true rfl) (Nat.le_of_ble_eq_true rfl) (Or.inl ⟨⟨bI_ne c13, bI_ne c24⟩, rfl, MI.of0 hs1.sI.sI (mvl_setg (mvl_setg hv1 (by omega)) (by omega)) (hr.cong (bI_ne c13) (bI_ne c24) hr.2.2.1 hr.2.2.2.1 (Int32.le_refl _) hr.2.2.2.2.1 hr.2.2.2.2.2.1 hr.2.2.2.2.2.2.1 rfl rfl), frm_thr (frm_thr (frm_thr (frm_thr FrM.rfl hs) hs1) hs1.sI) hs1.sI.sI, (hI_nk (by decide)).trans ((hI_nk (by decide)).trans ((hI_nk (by decide)).trans (hI_same _ _ _ _)))⟩)
    · refine J_aload_n 0 hC dX6_setSite_27 rfl rfl ?_
      refine J_iconst (v := 1) hC dX6_setSite_28 (by decide) ?_
      refine cl_X6_149 hC (c_X6_no _ y _ hs1.ky) hs1.ky (Nat.le_of_ble_eq_true rfl) ⟨⟨Nat.le_of_ble_eq_true rfl, Nat.le_of_ble_eq_true rfl⟩, Nat.le_of_ble_eq_true rfl, Nat.le_of_ble_eq_true rfl⟩ dX6_setSite_29 (fun r29 S29 e29 => ?_)
      obtain ⟨rfl, e29⟩ := e29
      subst S29
      exact J_iretI hC dX6_setSite_32 (Nat.le_of_ble_eq_true rfl) (Nat.le_of_ble_eq_true rfl) (Or.inr ⟨fun z => bI_eq c24 z.2, mx_no h⟩)

set_option maxHeartbeats 4000000 in
set_option maxRecDepth 100000 in
/-- setLength -/
theorem c_X6_setLength {G : JG} (S : HS) (y : Nat) (B : Nat → Nat) (σ : Sg) (h : MI y B σ S) (v : Int32) : Ct G yX6_setLength cX6_setLength 3 (some .int) 10 400 300 2600 [.ref y, .int v] S (rI (fun r S' => ((60 ≤ v ∧ v ≤ 900) ∧ r = vg σ 2 ∧ MX y B (setG σ 2 v) S S' 0) ∨ (¬ (60 ≤ v ∧ v ≤ 900) ∧ MX y B σ S S' 1))) noX := by
  refine Ct.of (by decide) (Nat.le_of_ble_eq_true rfl) (fun X hC hT hin => ?_)
  obtain ⟨hs, hv, hr, hw⟩ := id h
  have n20 : vn σ ≤ 20 := hr.2.2.2.2.2.2.2.1
  have h1 := h.thr (v := 0)
  have hs1 := h1.1
  have hv1 := h1.2.1
  refine J_aload_n 0 hC dX6_setLength_0 rfl rfl ?_
  refine J_iconst (v := 0) hC dX6_setLength_1 (by decide) ?_
  refine fp_X6_60 hC hs.ky dX6_setLength_2 ?_
  refine J_iload_n 1 hC dX6_setLength_5 rfl rfl ?_
  refine J_bipush (v := 60) hC dX6_setLength_6 (by decide) ?_
  refine J_sipush (v := 900) hC dX6_setLength_8 (by decide) ?_
  refine cl_X6_66 hC (c_X6_isIn _ _ _ _) (Nat.le_of_ble_eq_true rfl) ⟨⟨Nat.le_of_ble_eq_true rfl, Nat.le_of_ble_eq_true rfl⟩, Nat.le_of_ble_eq_true rfl, Nat.le_of_ble_eq_true rfl⟩ dX6_setLength_11 (fun r11 S11 e11 => ?_)
  obtain ⟨rfl, e11⟩ := e11
  subst S11
  refine J_if_ne 23 hC dX6_setLength_14 (by decide) (fun c14 => ?_) (fun c14 => ?_)
  · refine J_aload_n 0 hC dX6_setLength_23 rfl rfl ?_
    refine fg_X6_7 hC hs1.ky dX6_setLength_24 ?_
    refine J_topI hv1.1.2.1 ?_
    refine J_istore_n (lv' := [(2, _), (0, _), (1, _)]) hC dX6_setLength_27 rfl (by decide) rfl ?_
    refine J_aload_n 1 hC dX6_setLength_28 rfl rfl ?_
    refine J_iload_n 2 hC dX6_setLength_29 rfl rfl ?_
    refine fp_X6_7 hC hs1.ky dX6_setLength_30 ?_
    refine J_aload_n 1 hC dX6_setLength_33 rfl rfl ?_
    refine J_iconst (v := 0) hC dX6_setLength_34 (by decide) ?_
    refine fp_X6_123 hC (kI hs1.ky) ⟨rfl, rfl⟩ dX6_setLength_35 ?_
    refine J_iload_n 0 hC dX6_setLength_38 rfl rfl ?_
    exact J_iretI hC dX6_setLength_39 (Nat.le_of_ble_eq_true rfl) (Nat.le_of_ble_eq_true rfl) (Or.inl ⟨bI_ne c14, rfl, MI.of0 hs1.sI (mvl_setg hv1 (by omega)) (hr.cong hr.1 hr.2.1 (bI_ne c14) hr.2.2.2.1 (Int32.le_refl _) hr.2.2.2.2.1 hr.2.2.2.2.2.1 hr.2.2.2.2.2.2.1 rfl rfl), frm_thr (frm_thr (frm_thr FrM.rfl hs) hs1) hs1.sI, (hI_nk (by decide)).trans ((hI_nk (by decide)).trans (hI_same _ _ _ _))⟩)
  · refine J_aload_n 0 hC dX6_setLength_17 rfl rfl ?_
    refine J_iconst (v := 1) hC dX6_setLength_18 (by decide) ?_
    refine cl_X6_149 hC (c_X6_no _ y _ hs1.ky) hs1.ky (Nat.le_of_ble_eq_true rfl) ⟨⟨Nat.le_of_ble_eq_true rfl, Nat.le_of_ble_eq_true rfl⟩, Nat.le_of_ble_eq_true rfl, Nat.le_of_ble_eq_true rfl⟩ dX6_setLength_19 (fun r19 S19 e19 => ?_)
    obtain ⟨rfl, e19⟩ := e19
    subst S19
    exact J_iretI hC dX6_setLength_22 (Nat.le_of_ble_eq_true rfl) (Nat.le_of_ble_eq_true rfl) (Or.inr ⟨bI_eq c14, mx_no h⟩)

set_option maxHeartbeats 4000000 in
set_option maxRecDepth 100000 in
/-- setMoon -/
theorem c_X6_setMoon {G : JG} (S : HS) (y : Nat) (B : Nat → Nat) (σ : Sg) (h : MI y B σ S) (u v w : Int32) : Ct G yX6_setMoon cX6_setMoon 4 (some .int) 10 400 300 2600 [.ref y, .int u, .int v, .int w] S (rI (fun r S' => ((((0 ≤ u ∧ u ≤ 1439) ∧ (-90 ≤ v ∧ v ≤ 90)) ∧ (0 ≤ w ∧ w ≤ 29)) ∧ r = lightV w ∧ MX y B (setG (setG (setG σ 4 u) 5 v) 6 w) S S' 0) ∨ (¬ (((0 ≤ u ∧ u ≤ 1439) ∧ (-90 ≤ v ∧ v ≤ 90)) ∧ (0 ≤ w ∧ w ≤ 29)) ∧ MX y B σ S S' 1))) noX := by
  refine Ct.of (by decide) (Nat.le_of_ble_eq_true rfl) (fun X hC hT hin => ?_)
  obtain ⟨hs, hv, hr, hw⟩ := id h
  have n20 : vn σ ≤ 20 := hr.2.2.2.2.2.2.2.1
  have h1 := h.thr (v := 0)
  have hs1 := h1.1
  have hv1 := h1.2.1
  refine J_aload_n 0 hC dX6_setMoon_0 rfl rfl ?_
  refine J_iconst (v := 0) hC dX6_setMoon_1 (by decide) ?_
  refine fp_X6_60 hC hs.ky dX6_setMoon_2 ?_
  refine J_iload_n 1 hC dX6_setMoon_5 rfl rfl ?_
  refine J_iload_n 2 hC dX6_setMoon_6 rfl rfl ?_
  refine cl_X6_152 hC (c_X6_isPoint _ _ _) (Nat.le_of_ble_eq_true rfl) ⟨⟨Nat.le_of_ble_eq_true rfl, Nat.le_of_ble_eq_true rfl⟩, Nat.le_of_ble_eq_true rfl, Nat.le_of_ble_eq_true rfl⟩ dX6_setMoon_7 (fun r7 S7 e7 => ?_)
  obtain ⟨rfl, e7⟩ := e7
  subst S7
  refine J_if_eq 23 hC dX6_setMoon_10 (by decide) (fun c10 => ?_) (fun c10 => ?_)
  · refine J_aload_n 0 hC dX6_setMoon_23 rfl rfl ?_
    refine J_iconst (v := 1) hC dX6_setMoon_24 (by decide) ?_
    refine cl_X6_149 hC (c_X6_no _ y _ hs1.ky) hs1.ky (Nat.le_of_ble_eq_true rfl) ⟨⟨Nat.le_of_ble_eq_true rfl, Nat.le_of_ble_eq_true rfl⟩, Nat.le_of_ble_eq_true rfl, Nat.le_of_ble_eq_true rfl⟩ dX6_setMoon_25 (fun r25 S25 e25 => ?_)
    obtain ⟨rfl, e25⟩ := e25
    subst S25
    exact J_iretI hC dX6_setMoon_28 (Nat.le_of_ble_eq_true rfl) (Nat.le_of_ble_eq_true rfl) (Or.inr ⟨fun z => bI_eq c10 z.1, mx_no h⟩)
  · refine J_iload_n 3 hC dX6_setMoon_13 rfl rfl ?_
    refine J_iconst (v := 0) hC dX6_setMoon_14 (by decide) ?_
    refine J_bipush (v := 29) hC dX6_setMoon_15 (by decide) ?_
    refine cl_X6_66 hC (c_X6_isIn _ _ _ _) (Nat.le_of_ble_eq_true rfl) ⟨⟨Nat.le_of_ble_eq_true rfl, Nat.le_of_ble_eq_true rfl⟩, Nat.le_of_ble_eq_true rfl, Nat.le_of_ble_eq_true rfl⟩ dX6_setMoon_17 (fun r17 S17 e17 => ?_)
    obtain ⟨rfl, e17⟩ := e17
    subst S17
    refine J_if_ne 29 hC dX6_setMoon_20 (by decide) (fun c20 => ?_) (fun c20 => ?_)
    · refine J_aload_n 0 hC dX6_setMoon_29 rfl rfl ?_
      refine J_iload_n 1 hC dX6_setMoon_30 rfl rfl ?_
      refine fp_X6_100 hC hs1.ky dX6_setMoon_31 ?_
      refine J_aload_n 0 hC dX6_setMoon_34 rfl rfl ?_
      refine J_iload_n 2 hC dX6_setMoon_35 rfl rfl ?_
      refine fp_X6_103 hC (kI hs1.ky) dX6_setMoon_36 ?_
      refine J_aload_n 0 hC dX6_setMoon_39 rfl rfl ?_
      refine J_iload_n 3 hC dX6_setMoon_40 rfl rfl ?_
      refine fp_X6_97 hC (kI (kI hs1.ky)) dX6_setMoon_41 ?_
      have hvm : MVl y B (setG (setG (setG σ 4 u) 5 v) 6 w) (sI (sI (sI (sI S 0 y 0) 5 y u) 6 y v) 7 y w) := mvl_setg (mvl_setg (mvl_setg hv1 (by omega)) (by omega)) (by omega)
      have hrm : Rng (setG (setG (setG σ 4 u) 5 v) 6 w) := hr.cong hr.1 hr.2.1 hr.2.2.1 hr.2.2.2.1 (Int32.le_refl _) (bI_ne c10).1 (bI_ne c10).2 (bI_ne c20) rfl rfl
      refine J_aload_n 0 hC dX6_setMoon_44 rfl rfl ?_
      refine J_iconst (v := 0) hC dX6_setMoon_45 (by decide) ?_
      refine fp_X6_123 hC (kI (kI (kI hs1.ky))) ⟨rfl, rfl⟩ dX6_setMoon_46 ?_
      refine J_aload_n 0 hC dX6_setMoon_49 rfl rfl ?_
      refine cl_X6_119 hC (c_X6_lightOf _ y B (setG (setG (setG σ 4 u) 5 v) 6 w) hs1.sI.sI.sI.sI (hvm.sI (Or.inr (Or.inl rfl))) hrm) hs1.sI.sI.sI.sI.ky (Nat.le_of_ble_eq_true rfl) ⟨⟨Nat.le_of_ble_eq_true rfl, Nat.le_of_ble_eq_true rfl⟩, Nat.le_of_ble_eq_true rfl, Nat.le_of_ble_eq_true rfl⟩ dX6_setMoon_50 (fun r50 S50 e50 => ?_)
      obtain ⟨rfl, e50⟩ := e50
      subst S50
      exact J_iretI hC dX6_setMoon_53 (Nat.le_of_ble_eq_true rfl) (Nat.le_of_ble_eq_true rfl) (Or.inl ⟨⟨bI_ne c10, bI_ne c20⟩, rfl, MI.of0 hs1.sI.sI.sI hvm hrm, frm_thr (frm_thr (frm_thr (frm_thr (frm_thr FrM.rfl hs) hs1) hs1.sI) hs1.sI.sI) hs1.sI.sI.sI, (hI_nk (by decide)).trans ((hI_nk (by decide)).trans ((hI_nk (by decide)).trans ((hI_nk (by decide)).trans (hI_same _ _ _ _))))⟩)
    · refine J_aload_n 0 hC dX6_setMoon_23 rfl rfl ?_
      refine J_iconst (v := 1) hC dX6_setMoon_24 (by decide) ?_
      refine cl_X6_149 hC (c_X6_no _ y _ hs1.ky) hs1.ky (Nat.le_of_ble_eq_true rfl) ⟨⟨Nat.le_of_ble_eq_true rfl, Nat.le_of_ble_eq_true rfl⟩, Nat.le_of_ble_eq_true rfl, Nat.le_of_ble_eq_true rfl⟩ dX6_setMoon_25 (fun r25 S25 e25 => ?_)
      obtain ⟨rfl, e25⟩ := e25
      subst S25
      exact J_iretI hC dX6_setMoon_28 (Nat.le_of_ble_eq_true rfl) (Nat.le_of_ble_eq_true rfl) (Or.inr ⟨fun z => bI_eq c20 z.2, mx_no h⟩)

set_option maxHeartbeats 4000000 in
set_option maxRecDepth 100000 in
/-- sine -/
theorem c_X6_sine {G : JG} (S : HS) (y : Nat) (B : Nat → Nat) (σ : Sg) (h : MI y B σ S) (d : Int32) : Ct G yX6_sine cX6_sine 2 (some .int) 10 400 300 2600 [.ref y, .int d] S (rI (fun r S' => ((-10000 ≤ d ∧ d ≤ 10000) ∧ r = sn d ∧ MX y B σ S S' 0) ∨ (¬ (-10000 ≤ d ∧ d ≤ 10000) ∧ MX y B σ S S' 1))) noX := by
  refine Ct.of (by decide) (Nat.le_of_ble_eq_true rfl) (fun X hC hT hin => ?_)
  obtain ⟨hs, hv, hr, hw⟩ := id h
  have n20 : vn σ ≤ 20 := hr.2.2.2.2.2.2.2.1
  have h1 := h.thr (v := 0)
  have hs1 := h1.1
  have hv1 := h1.2.1
  refine J_aload_n 0 hC dX6_sine_0 rfl rfl ?_
  refine J_iconst (v := 0) hC dX6_sine_1 (by decide) ?_
  refine fp_X6_60 hC hs.ky dX6_sine_2 ?_
  refine J_iload_n 1 hC dX6_sine_5 rfl rfl ?_
  refine J_sipush (v := (-10000)) hC dX6_sine_6 (by decide) ?_
  refine J_sipush (v := 10000) hC dX6_sine_9 (by decide) ?_
  refine cl_X6_66 hC (c_X6_isIn _ _ _ _) (Nat.le_of_ble_eq_true rfl) ⟨⟨Nat.le_of_ble_eq_true rfl, Nat.le_of_ble_eq_true rfl⟩, Nat.le_of_ble_eq_true rfl, Nat.le_of_ble_eq_true rfl⟩ dX6_sine_12 (fun r12 S12 e12 => ?_)
  obtain ⟨rfl, e12⟩ := e12
  subst S12
  refine J_if_eq 25 hC dX6_sine_15 (by decide) (fun c15 => ?_) (fun c15 => ?_)
  · refine J_aload_n 0 hC dX6_sine_25 rfl rfl ?_
    refine J_iconst (v := 1) hC dX6_sine_26 (by decide) ?_
    refine cl_X6_149 hC (c_X6_no _ y _ hs1.ky) hs1.ky (Nat.le_of_ble_eq_true rfl) ⟨⟨Nat.le_of_ble_eq_true rfl, Nat.le_of_ble_eq_true rfl⟩, Nat.le_of_ble_eq_true rfl, Nat.le_of_ble_eq_true rfl⟩ dX6_sine_27 (fun r27 S27 e27 => ?_)
    obtain ⟨rfl, e27⟩ := e27
    subst S27
    exact J_iretI hC dX6_sine_30 (Nat.le_of_ble_eq_true rfl) (Nat.le_of_ble_eq_true rfl) (Or.inr ⟨bI_eq c15, mx_no h⟩)
  · refine J_iload_n 1 hC dX6_sine_18 rfl rfl ?_
    refine cl_X6_77 hC (c_X6_sineOf _ _) (Nat.le_of_ble_eq_true rfl) ⟨⟨Nat.le_of_ble_eq_true rfl, Nat.le_of_ble_eq_true rfl⟩, Nat.le_of_ble_eq_true rfl, Nat.le_of_ble_eq_true rfl⟩ dX6_sine_19 (fun r19 S19 e19 => ?_)
    obtain ⟨rfl, e19⟩ := e19
    subst S19
    refine J_goto 30 hC dX6_sine_22 (by decide) ?_
    exact J_iretI hC dX6_sine_30 (Nat.le_of_ble_eq_true rfl) (Nat.le_of_ble_eq_true rfl) (Or.inl ⟨bI_ne c15, rfl, mx_0 h⟩)

set_option maxHeartbeats 4000000 in
set_option maxRecDepth 100000 in
/-- night -/
theorem c_X6_night {G : JG} (S : HS) (y : Nat) (B : Nat → Nat) (σ : Sg) (h : MI y B σ S) : Ct G yX6_night cX6_night 1 (some .int) 10 400 300 2600 [.ref y] S (rI (fun r S' => r = vg σ 3 ∧ MX y B σ S S' 0)) noX := by
  refine Ct.of (by decide) (Nat.le_of_ble_eq_true rfl) (fun X hC hT hin => ?_)
  obtain ⟨hs, hv, hr, hw⟩ := id h
  have n20 : vn σ ≤ 20 := hr.2.2.2.2.2.2.2.1
  have h1 := h.thr (v := 0)
  have hs1 := h1.1
  have hv1 := h1.2.1
  refine J_aload_n 0 hC dX6_night_0 rfl rfl ?_
  refine J_iconst (v := 0) hC dX6_night_1 (by decide) ?_
  refine fp_X6_60 hC hs.ky dX6_night_2 ?_
  refine J_aload_n 0 hC dX6_night_5 rfl rfl ?_
  refine fg_X6_87 hC hs1.ky dX6_night_6 ?_
  refine J_topI hv1.1.1 ?_
  exact J_iretI hC dX6_night_9 (Nat.le_of_ble_eq_true rfl) (Nat.le_of_ble_eq_true rfl) ⟨rfl, mx_0 h⟩

set_option maxHeartbeats 4000000 in
set_option maxRecDepth 100000 in
/-- light -/
theorem c_X6_light {G : JG} (S : HS) (y : Nat) (B : Nat → Nat) (σ : Sg) (h : MI y B σ S) : Ct G yX6_light cX6_light 1 (some .int) 10 400 300 2600 [.ref y] S (rI (fun r S' => r = liV σ ∧ MX y B σ S S' 0)) noX := by
  refine Ct.of (by decide) (Nat.le_of_ble_eq_true rfl) (fun X hC hT hin => ?_)
  obtain ⟨hs, hv, hr, hw⟩ := id h
  have n20 : vn σ ≤ 20 := hr.2.2.2.2.2.2.2.1
  have h1 := h.thr (v := 0)
  have hs1 := h1.1
  have hv1 := h1.2.1
  refine J_aload_n 0 hC dX6_light_0 rfl rfl ?_
  refine J_iconst (v := 0) hC dX6_light_1 (by decide) ?_
  refine fp_X6_60 hC hs.ky dX6_light_2 ?_
  refine J_aload_n 0 hC dX6_light_5 rfl rfl ?_
  refine cl_X6_119 hC (c_X6_lightOf _ y B σ hs1 hv1 hr) hs1.ky (Nat.le_of_ble_eq_true rfl) ⟨⟨Nat.le_of_ble_eq_true rfl, Nat.le_of_ble_eq_true rfl⟩, Nat.le_of_ble_eq_true rfl, Nat.le_of_ble_eq_true rfl⟩ dX6_light_6 (fun r6 S6 e6 => ?_)
  obtain ⟨rfl, e6⟩ := e6
  subst S6
  exact J_iretI hC dX6_light_9 (Nat.le_of_ble_eq_true rfl) (Nat.le_of_ble_eq_true rfl) ⟨rfl, mx_0 h⟩

/-- ten numbers -/
theorem told_ext {T : HS} {v n : Nat} {a : Int32} {S : HS} (h : ext S T) (hv : hK S v = 0) : ext S (sV T n v a) := fun x hx => (h x hx).trans (by
  have hne : x ≠ v := fun z => hx (by rw [z]; exact hv)
  exact ⟨Eq.refl _, Eq.refl _, fun _ => Eq.refl _, fun _ => Eq.refl _, fun _ => hV_na hne, fun _ => Eq.refl _⟩)
def tdI (σ : Sg) (S : HS) (k v n : Nat) (T : HS) : Prop := ext S T ∧ hK T v = 31 ∧ hN T v = 10 ∧ ∀ j, j < n → hV T j v = vt σ k j
theorem tdI.step {σ : Sg} {S T : HS} {k v n : Nat} (h : tdI σ S k v n T) (hv : hK S v = 0) : tdI σ S k v (n + 1) (sV T n v (vt σ k n)) := by
  obtain ⟨h1, h2, h3, h4⟩ := h
  refine ⟨told_ext h1 hv, kV h2, nV h3, fun j hj => ?_⟩
  by_cases c : j = n
  · rw [c]; exact hV_same _ _ _ _
  · exact (hV_nk c).trans (h4 j (by omega))

set_option maxHeartbeats 4000000 in
set_option maxRecDepth 100000 in
/-- told -/
theorem c_X6_told {G : JG} (S : HS) (y : Nat) (B : Nat → Nat) (σ : Sg) (hs : MShp y B S) (hv : MVl y B σ S) (hr : Rng σ) (k j : Nat) (hk : k < vn σ) (hj : j < 10) : Ct G yX6_told cX6_told 4 (some .int) 1 40 1 10 [.ref y, .int (nI k), .int (nI j)] S (rI (fun r S' => r = vt σ k j ∧ ext S S')) noX := by
  refine Ct.of (by decide) (Nat.le_of_ble_eq_true rfl) (fun X hC hT hin => ?_)
  have n20 : vn σ ≤ 20 := hr.2.2.2.2.2.2.2.1
  refine J_bipush (v := 10) hC dX6_told_0 (by decide) ?_
  refine J_newI (lab := 31) (N := 10) hC rfl (mG 111 (by decide +kernel) rfl) (by decide) (by decide) (by decide) (Nat.le_of_ble_eq_true rfl) (Nat.le_of_ble_eq_true rfl) dX6_told_2 (fun v fv => ?_)
  refine J_inv (A := fun T => tdI σ S k v 0 T) ⟨ext.rfl.new fv, if_pos rfl, if_pos rfl, fun j hj => absurd hj (Nat.not_lt_zero j)⟩ (fun T0 t0 => ?_)
  refine J_dup hC dX6_told_4 rfl ?_
  refine J_iconst (v := 0) hC dX6_told_5 (by decide) ?_
  refine J_aload_n 0 hC dX6_told_6 rfl rfl ?_
  refine fg_X6_20 hC (kE t0.1 hs.ky (by decide)) (((t0.1 y (by rw [hs.ky]; decide)).2.2.2.1 11).trans (hs.p 11 rfl)) dX6_told_7 ?_
  refine J_iload_n 1 hC dX6_told_10 rfl rfl ?_
  refine J_iald hC (kE t0.1 (hs.k 11 rfl) (by decide)) rfl (inN ((t0.1 (B 11) (by rw [hs.k 11 rfl]; decide)).2.1.trans (hs.n 11 rfl)) (vp_in_nI (show k < 20 by omega) (by decide))) dX6_told_11 ?_
  refine J_topI (show _ = vt σ k 0 by rw [nI_clamp (show k < 2147483648 by omega), (t0.1 (B 11) (by rw [hs.k 11 rfl]; decide)).2.2.2.2.1]; exact hv.t hk (show 0 < 10 by decide)) ?_
  refine J_iast hC t0.2.1 rfl (inN t0.2.2.1 (vp_in_nI (show 0 < 10 by decide) (by decide))) dX6_told_12 ?_
  refine J_inv (A := fun T => tdI σ S k v 1 T) (t0.step fv) (fun T1 t1 => ?_)
  refine J_dup hC dX6_told_13 rfl ?_
  refine J_iconst (v := 1) hC dX6_told_14 (by decide) ?_
  refine J_aload_n 0 hC dX6_told_15 rfl rfl ?_
  refine fg_X6_24 hC (kE t1.1 hs.ky (by decide)) (((t1.1 y (by rw [hs.ky]; decide)).2.2.2.1 12).trans (hs.p 12 rfl)) dX6_told_16 ?_
  refine J_iload_n 1 hC dX6_told_19 rfl rfl ?_
  refine J_iald hC (kE t1.1 (hs.k 12 rfl) (by decide)) rfl (inN ((t1.1 (B 12) (by rw [hs.k 12 rfl]; decide)).2.1.trans (hs.n 12 rfl)) (vp_in_nI (show k < 20 by omega) (by decide))) dX6_told_20 ?_
  refine J_topI (show _ = vt σ k 1 by rw [nI_clamp (show k < 2147483648 by omega), (t1.1 (B 12) (by rw [hs.k 12 rfl]; decide)).2.2.2.2.1]; exact hv.t hk (show 1 < 10 by decide)) ?_
  refine J_iast hC t1.2.1 rfl (inN t1.2.2.1 (vp_in_nI (show 1 < 10 by decide) (by decide))) dX6_told_21 ?_
  refine J_inv (A := fun T => tdI σ S k v 2 T) (t1.step fv) (fun T2 t2 => ?_)
  refine J_dup hC dX6_told_22 rfl ?_
  refine J_iconst (v := 2) hC dX6_told_23 (by decide) ?_
  refine J_aload_n 0 hC dX6_told_24 rfl rfl ?_
  refine fg_X6_27 hC (kE t2.1 hs.ky (by decide)) (((t2.1 y (by rw [hs.ky]; decide)).2.2.2.1 13).trans (hs.p 13 rfl)) dX6_told_25 ?_
  refine J_iload_n 1 hC dX6_told_28 rfl rfl ?_
  refine J_iald hC (kE t2.1 (hs.k 13 rfl) (by decide)) rfl (inN ((t2.1 (B 13) (by rw [hs.k 13 rfl]; decide)).2.1.trans (hs.n 13 rfl)) (vp_in_nI (show k < 20 by omega) (by decide))) dX6_told_29 ?_
  refine J_topI (show _ = vt σ k 2 by rw [nI_clamp (show k < 2147483648 by omega), (t2.1 (B 13) (by rw [hs.k 13 rfl]; decide)).2.2.2.2.1]; exact hv.t hk (show 2 < 10 by decide)) ?_
  refine J_iast hC t2.2.1 rfl (inN t2.2.2.1 (vp_in_nI (show 2 < 10 by decide) (by decide))) dX6_told_30 ?_
  refine J_inv (A := fun T => tdI σ S k v 3 T) (t2.step fv) (fun T3 t3 => ?_)
  refine J_dup hC dX6_told_31 rfl ?_
  refine J_iconst (v := 3) hC dX6_told_32 (by decide) ?_
  refine J_aload_n 0 hC dX6_told_33 rfl rfl ?_
  refine fg_X6_30 hC (kE t3.1 hs.ky (by decide)) (((t3.1 y (by rw [hs.ky]; decide)).2.2.2.1 14).trans (hs.p 14 rfl)) dX6_told_34 ?_
  refine J_iload_n 1 hC dX6_told_37 rfl rfl ?_
  refine J_iald hC (kE t3.1 (hs.k 14 rfl) (by decide)) rfl (inN ((t3.1 (B 14) (by rw [hs.k 14 rfl]; decide)).2.1.trans (hs.n 14 rfl)) (vp_in_nI (show k < 20 by omega) (by decide))) dX6_told_38 ?_
  refine J_topI (show _ = vt σ k 3 by rw [nI_clamp (show k < 2147483648 by omega), (t3.1 (B 14) (by rw [hs.k 14 rfl]; decide)).2.2.2.2.1]; exact hv.t hk (show 3 < 10 by decide)) ?_
  refine J_iast hC t3.2.1 rfl (inN t3.2.2.1 (vp_in_nI (show 3 < 10 by decide) (by decide))) dX6_told_39 ?_
  refine J_inv (A := fun T => tdI σ S k v 4 T) (t3.step fv) (fun T4 t4 => ?_)
  refine J_dup hC dX6_told_40 rfl ?_
  refine J_iconst (v := 4) hC dX6_told_41 (by decide) ?_
  refine J_aload_n 0 hC dX6_told_42 rfl rfl ?_
  refine fg_X6_33 hC (kE t4.1 hs.ky (by decide)) (((t4.1 y (by rw [hs.ky]; decide)).2.2.2.1 15).trans (hs.p 15 rfl)) dX6_told_43 ?_
  refine J_iload_n 1 hC dX6_told_46 rfl rfl ?_
  refine J_iald hC (kE t4.1 (hs.k 15 rfl) (by decide)) rfl (inN ((t4.1 (B 15) (by rw [hs.k 15 rfl]; decide)).2.1.trans (hs.n 15 rfl)) (vp_in_nI (show k < 20 by omega) (by decide))) dX6_told_47 ?_
  refine J_topI (show _ = vt σ k 4 by rw [nI_clamp (show k < 2147483648 by omega), (t4.1 (B 15) (by rw [hs.k 15 rfl]; decide)).2.2.2.2.1]; exact hv.t hk (show 4 < 10 by decide)) ?_
  refine J_iast hC t4.2.1 rfl (inN t4.2.2.1 (vp_in_nI (show 4 < 10 by decide) (by decide))) dX6_told_48 ?_
  refine J_inv (A := fun T => tdI σ S k v 5 T) (t4.step fv) (fun T5 t5 => ?_)
  refine J_dup hC dX6_told_49 rfl ?_
  refine J_iconst (v := 5) hC dX6_told_50 (by decide) ?_
  refine J_aload_n 0 hC dX6_told_51 rfl rfl ?_
  refine fg_X6_36 hC (kE t5.1 hs.ky (by decide)) (((t5.1 y (by rw [hs.ky]; decide)).2.2.2.1 16).trans (hs.p 16 rfl)) dX6_told_52 ?_
  refine J_iload_n 1 hC dX6_told_55 rfl rfl ?_
  refine J_iald hC (kE t5.1 (hs.k 16 rfl) (by decide)) rfl (inN ((t5.1 (B 16) (by rw [hs.k 16 rfl]; decide)).2.1.trans (hs.n 16 rfl)) (vp_in_nI (show k < 20 by omega) (by decide))) dX6_told_56 ?_
  refine J_topI (show _ = vt σ k 5 by rw [nI_clamp (show k < 2147483648 by omega), (t5.1 (B 16) (by rw [hs.k 16 rfl]; decide)).2.2.2.2.1]; exact hv.t hk (show 5 < 10 by decide)) ?_
  refine J_iast hC t5.2.1 rfl (inN t5.2.2.1 (vp_in_nI (show 5 < 10 by decide) (by decide))) dX6_told_57 ?_
  refine J_inv (A := fun T => tdI σ S k v 6 T) (t5.step fv) (fun T6 t6 => ?_)
  refine J_dup hC dX6_told_58 rfl ?_
  refine J_bipush (v := 6) hC dX6_told_59 (by decide) ?_
  refine J_aload_n 0 hC dX6_told_61 rfl rfl ?_
  refine fg_X6_39 hC (kE t6.1 hs.ky (by decide)) (((t6.1 y (by rw [hs.ky]; decide)).2.2.2.1 17).trans (hs.p 17 rfl)) dX6_told_62 ?_
  refine J_iload_n 1 hC dX6_told_65 rfl rfl ?_
  refine J_iald hC (kE t6.1 (hs.k 17 rfl) (by decide)) rfl (inN ((t6.1 (B 17) (by rw [hs.k 17 rfl]; decide)).2.1.trans (hs.n 17 rfl)) (vp_in_nI (show k < 20 by omega) (by decide))) dX6_told_66 ?_
  refine J_topI (show _ = vt σ k 6 by rw [nI_clamp (show k < 2147483648 by omega), (t6.1 (B 17) (by rw [hs.k 17 rfl]; decide)).2.2.2.2.1]; exact hv.t hk (show 6 < 10 by decide)) ?_
  refine J_iast hC t6.2.1 rfl (inN t6.2.2.1 (vp_in_nI (show 6 < 10 by decide) (by decide))) dX6_told_67 ?_
  refine J_inv (A := fun T => tdI σ S k v 7 T) (t6.step fv) (fun T7 t7 => ?_)
  refine J_dup hC dX6_told_68 rfl ?_
  refine J_bipush (v := 7) hC dX6_told_69 (by decide) ?_
  refine J_aload_n 0 hC dX6_told_71 rfl rfl ?_
  refine fg_X6_42 hC (kE t7.1 hs.ky (by decide)) (((t7.1 y (by rw [hs.ky]; decide)).2.2.2.1 18).trans (hs.p 18 rfl)) dX6_told_72 ?_
  refine J_iload_n 1 hC dX6_told_75 rfl rfl ?_
  refine J_iald hC (kE t7.1 (hs.k 18 rfl) (by decide)) rfl (inN ((t7.1 (B 18) (by rw [hs.k 18 rfl]; decide)).2.1.trans (hs.n 18 rfl)) (vp_in_nI (show k < 20 by omega) (by decide))) dX6_told_76 ?_
  refine J_topI (show _ = vt σ k 7 by rw [nI_clamp (show k < 2147483648 by omega), (t7.1 (B 18) (by rw [hs.k 18 rfl]; decide)).2.2.2.2.1]; exact hv.t hk (show 7 < 10 by decide)) ?_
  refine J_iast hC t7.2.1 rfl (inN t7.2.2.1 (vp_in_nI (show 7 < 10 by decide) (by decide))) dX6_told_77 ?_
  refine J_inv (A := fun T => tdI σ S k v 8 T) (t7.step fv) (fun T8 t8 => ?_)
  refine J_dup hC dX6_told_78 rfl ?_
  refine J_bipush (v := 8) hC dX6_told_79 (by decide) ?_
  refine J_aload_n 0 hC dX6_told_81 rfl rfl ?_
  refine fg_X6_45 hC (kE t8.1 hs.ky (by decide)) (((t8.1 y (by rw [hs.ky]; decide)).2.2.2.1 19).trans (hs.p 19 rfl)) dX6_told_82 ?_
  refine J_iload_n 1 hC dX6_told_85 rfl rfl ?_
  refine J_iald hC (kE t8.1 (hs.k 19 rfl) (by decide)) rfl (inN ((t8.1 (B 19) (by rw [hs.k 19 rfl]; decide)).2.1.trans (hs.n 19 rfl)) (vp_in_nI (show k < 20 by omega) (by decide))) dX6_told_86 ?_
  refine J_topI (show _ = vt σ k 8 by rw [nI_clamp (show k < 2147483648 by omega), (t8.1 (B 19) (by rw [hs.k 19 rfl]; decide)).2.2.2.2.1]; exact hv.t hk (show 8 < 10 by decide)) ?_
  refine J_iast hC t8.2.1 rfl (inN t8.2.2.1 (vp_in_nI (show 8 < 10 by decide) (by decide))) dX6_told_87 ?_
  refine J_inv (A := fun T => tdI σ S k v 9 T) (t8.step fv) (fun T9 t9 => ?_)
  refine J_dup hC dX6_told_88 rfl ?_
  refine J_bipush (v := 9) hC dX6_told_89 (by decide) ?_
  refine J_aload_n 0 hC dX6_told_91 rfl rfl ?_
  refine fg_X6_48 hC (kE t9.1 hs.ky (by decide)) (((t9.1 y (by rw [hs.ky]; decide)).2.2.2.1 20).trans (hs.p 20 rfl)) dX6_told_92 ?_
  refine J_iload_n 1 hC dX6_told_95 rfl rfl ?_
  refine J_iald hC (kE t9.1 (hs.k 20 rfl) (by decide)) rfl (inN ((t9.1 (B 20) (by rw [hs.k 20 rfl]; decide)).2.1.trans (hs.n 20 rfl)) (vp_in_nI (show k < 20 by omega) (by decide))) dX6_told_96 ?_
  refine J_topI (show _ = vt σ k 9 by rw [nI_clamp (show k < 2147483648 by omega), (t9.1 (B 20) (by rw [hs.k 20 rfl]; decide)).2.2.2.2.1]; exact hv.t hk (show 9 < 10 by decide)) ?_
  refine J_iast hC t9.2.1 rfl (inN t9.2.2.1 (vp_in_nI (show 9 < 10 by decide) (by decide))) dX6_told_97 ?_
  refine J_inv (A := fun T => tdI σ S k v 10 T) (t9.step fv) (fun T10 t10 => ?_)
  refine J_astore_n (lv' := [(3, _), (0, _), (1, _), (2, _)]) hC dX6_told_98 rfl (by decide) rfl ?_
  refine J_aload_n 0 hC dX6_told_99 rfl rfl ?_
  refine J_iload_n 3 hC dX6_told_100 rfl rfl ?_
  refine J_iald hC t10.2.1 rfl (inN t10.2.2.1 (vp_in_nI hj (by decide))) dX6_told_101 ?_
  refine J_topI (show _ = vt σ k j by rw [nI_clamp (show j < 2147483648 by omega)]; exact t10.2.2.2 j hj) ?_
  exact J_iretI hC dX6_told_102 (Nat.le_of_ble_eq_true rfl) (Nat.le_of_ble_eq_true rfl) ⟨rfl, t10.1⟩

set_option maxHeartbeats 4000000 in
set_option maxRecDepth 100000 in
/-- target -/
theorem c_X6_target {G : JG} (S : HS) (y : Nat) (B : Nat → Nat) (σ : Sg) (h : MI y B σ S) (t w : Int32) : Ct G yX6_target cX6_target 3 (some .int) 10 400 300 2600 [.ref y, .int t, .int w] S (rI (fun r S' => (∃ k j, k < vn σ ∧ j < 10 ∧ t = nI k ∧ w = nI j ∧ r = vt σ k j ∧ MX y B σ S S' 0) ∨ (¬ (isTg (vn σ) t ∧ 0 ≤ w ∧ w < 10) ∧ MX y B σ S S' 1))) noX := by
  refine Ct.of (by decide) (Nat.le_of_ble_eq_true rfl) (fun X hC hT hin => ?_)
  obtain ⟨hs, hv, hr, hw⟩ := id h
  have n20 : vn σ ≤ 20 := hr.2.2.2.2.2.2.2.1
  have h1 := h.thr (v := 0)
  have hs1 := h1.1
  have hv1 := h1.2.1
  refine J_aload_n 0 hC dX6_target_0 rfl rfl ?_
  refine J_iconst (v := 0) hC dX6_target_1 (by decide) ?_
  refine fp_X6_60 hC hs.ky dX6_target_2 ?_
  refine J_aload_n 0 hC dX6_target_5 rfl rfl ?_
  refine J_iload_n 1 hC dX6_target_6 rfl rfl ?_
  refine cl_X6_162 hC (c_X6_isTarget _ y B σ hs1 hv1 hr _) hs1.ky (Nat.le_of_ble_eq_true rfl) ⟨⟨Nat.le_of_ble_eq_true rfl, Nat.le_of_ble_eq_true rfl⟩, Nat.le_of_ble_eq_true rfl, Nat.le_of_ble_eq_true rfl⟩ dX6_target_7 (fun r7 S7 e7 => ?_)
  obtain ⟨rfl, e7⟩ := e7
  subst S7
  refine J_if_eq 32 hC dX6_target_10 (by decide) (fun c10 => ?_) (fun c10 => ?_)
  · refine J_aload_n 0 hC dX6_target_32 rfl rfl ?_
    refine J_iconst (v := 1) hC dX6_target_33 (by decide) ?_
    refine cl_X6_149 hC (c_X6_no _ y _ hs1.ky) hs1.ky (Nat.le_of_ble_eq_true rfl) ⟨⟨Nat.le_of_ble_eq_true rfl, Nat.le_of_ble_eq_true rfl⟩, Nat.le_of_ble_eq_true rfl, Nat.le_of_ble_eq_true rfl⟩ dX6_target_34 (fun r34 S34 e34 => ?_)
    obtain ⟨rfl, e34⟩ := e34
    subst S34
    exact J_iretI hC dX6_target_37 (Nat.le_of_ble_eq_true rfl) (Nat.le_of_ble_eq_true rfl) (Or.inr ⟨fun z => (fun z => bI_eq c10 ((isTg_m n20).mpr z)) z.1, mx_no h⟩)
  · refine J_iload_n 2 hC dX6_target_13 rfl rfl ?_
    refine J_iconst (v := 0) hC dX6_target_14 (by decide) ?_
    refine J_bipush (v := 9) hC dX6_target_15 (by decide) ?_
    refine cl_X6_66 hC (c_X6_isIn _ _ _ _) (Nat.le_of_ble_eq_true rfl) ⟨⟨Nat.le_of_ble_eq_true rfl, Nat.le_of_ble_eq_true rfl⟩, Nat.le_of_ble_eq_true rfl, Nat.le_of_ble_eq_true rfl⟩ dX6_target_17 (fun r17 S17 e17 => ?_)
    obtain ⟨rfl, e17⟩ := e17
    subst S17
    refine J_if_eq 32 hC dX6_target_20 (by decide) (fun c20 => ?_) (fun c20 => ?_)
    · refine J_aload_n 0 hC dX6_target_32 rfl rfl ?_
      refine J_iconst (v := 1) hC dX6_target_33 (by decide) ?_
      refine cl_X6_149 hC (c_X6_no _ y _ hs1.ky) hs1.ky (Nat.le_of_ble_eq_true rfl) ⟨⟨Nat.le_of_ble_eq_true rfl, Nat.le_of_ble_eq_true rfl⟩, Nat.le_of_ble_eq_true rfl, Nat.le_of_ble_eq_true rfl⟩ dX6_target_34 (fun r34 S34 e34 => ?_)
      obtain ⟨rfl, e34⟩ := e34
      subst S34
      exact J_iretI hC dX6_target_37 (Nat.le_of_ble_eq_true rfl) (Nat.le_of_ble_eq_true rfl) (Or.inr ⟨fun z => bI_eq c20 ((isTg_m (n := 10) (by decide)).mpr ((isTg_iff (n := 10) (by decide)).mpr z.2)), mx_no h⟩)
    · obtain ⟨k, hk, rfl⟩ := (isTg_m n20).mp (bI_ne c10)
      obtain ⟨j, hj, rfl⟩ := (isTg_m (n := 10) (by decide)).mp (bI_ne c20)
      refine J_aload_n 0 hC dX6_target_23 rfl rfl ?_
      refine J_iload_n 1 hC dX6_target_24 rfl rfl ?_
      refine J_iload_n 2 hC dX6_target_25 rfl rfl ?_
      refine cl_X6_165 hC (c_X6_told _ y B σ hs1 hv1 hr k j hk hj) hs1.ky (Nat.le_of_ble_eq_true rfl) ⟨⟨Nat.le_of_ble_eq_true rfl, Nat.le_of_ble_eq_true rfl⟩, Nat.le_of_ble_eq_true rfl, Nat.le_of_ble_eq_true rfl⟩ dX6_target_26 (fun r26 S26 e26 => ?_)
      obtain ⟨rfl, x26⟩ := e26
      refine J_goto 37 hC dX6_target_29 (by decide) ?_
      exact J_iretI hC dX6_target_37 (Nat.le_of_ble_eq_true rfl) (Nat.le_of_ble_eq_true rfl) (Or.inl ⟨k, j, hk, hj, rfl, rfl, rfl, h1.ofE x26, (mx_0 h).2.1.trans (FrM.ofE x26), ((x26 y (by rw [hs1.ky]; decide)).2.2.1 0).trans (hI_same _ _ _ _)⟩)

set_option maxHeartbeats 4000000 in
set_option maxRecDepth 100000 in
/-- height -/
theorem c_X6_height {G : JG} (S : HS) (y : Nat) (B : Nat → Nat) (σ : Sg) (h : MI y B σ S) (t u : Int32) : Ct G yX6_height cX6_height 3 (some .int) 10 400 300 2600 [.ref y, .int t, .int u] S (rI (fun r S' => ((0 ≤ u ∧ u ≤ vg σ 2 - 1) ∧ ∃ k, k < vn σ ∧ t = nI k ∧ r = thV σ k u ∧ MX y B σ S S' 0) ∨ (¬ isTg (vn σ) t ∧ MX y B σ S S' 1) ∨ (isTg (vn σ) t ∧ ¬ (0 ≤ u ∧ u ≤ vg σ 2 - 1) ∧ MX y B σ S S' 2))) noX := by
  refine Ct.of (by decide) (Nat.le_of_ble_eq_true rfl) (fun X hC hT hin => ?_)
  obtain ⟨hs, hv, hr, hw⟩ := id h
  have n20 : vn σ ≤ 20 := hr.2.2.2.2.2.2.2.1
  have h1 := h.thr (v := 0)
  have hs1 := h1.1
  have hv1 := h1.2.1
  refine J_aload_n 0 hC dX6_height_0 rfl rfl ?_
  refine J_iconst (v := 0) hC dX6_height_1 (by decide) ?_
  refine fp_X6_60 hC hs.ky dX6_height_2 ?_
  refine J_aload_n 0 hC dX6_height_5 rfl rfl ?_
  refine J_iload_n 1 hC dX6_height_6 rfl rfl ?_
  refine cl_X6_162 hC (c_X6_isTarget _ y B σ hs1 hv1 hr _) hs1.ky (Nat.le_of_ble_eq_true rfl) ⟨⟨Nat.le_of_ble_eq_true rfl, Nat.le_of_ble_eq_true rfl⟩, Nat.le_of_ble_eq_true rfl, Nat.le_of_ble_eq_true rfl⟩ dX6_height_7 (fun r7 S7 e7 => ?_)
  obtain ⟨rfl, e7⟩ := e7
  subst S7
  refine J_if_ne 19 hC dX6_height_10 (by decide) (fun c10 => ?_) (fun c10 => ?_)
  · refine J_aload_n 0 hC dX6_height_19 rfl rfl ?_
    refine J_iload_n 2 hC dX6_height_20 rfl rfl ?_
    refine cl_X6_156 hC (c_X6_isMinute _ y B σ hs1 hv1 hr _) hs1.ky (Nat.le_of_ble_eq_true rfl) ⟨⟨Nat.le_of_ble_eq_true rfl, Nat.le_of_ble_eq_true rfl⟩, Nat.le_of_ble_eq_true rfl, Nat.le_of_ble_eq_true rfl⟩ dX6_height_21 (fun r21 S21 e21 => ?_)
    obtain ⟨rfl, e21⟩ := e21
    subst S21
    refine J_if_eq 47 hC dX6_height_24 (by decide) (fun c24 => ?_) (fun c24 => ?_)
    · refine J_aload_n 0 hC dX6_height_47 rfl rfl ?_
      refine J_iconst (v := 2) hC dX6_height_48 (by decide) ?_
      refine cl_X6_149 hC (c_X6_no _ y _ hs1.ky) hs1.ky (Nat.le_of_ble_eq_true rfl) ⟨⟨Nat.le_of_ble_eq_true rfl, Nat.le_of_ble_eq_true rfl⟩, Nat.le_of_ble_eq_true rfl, Nat.le_of_ble_eq_true rfl⟩ dX6_height_49 (fun r49 S49 e49 => ?_)
      obtain ⟨rfl, e49⟩ := e49
      subst S49
      exact J_iretI hC dX6_height_52 (Nat.le_of_ble_eq_true rfl) (Nat.le_of_ble_eq_true rfl) (Or.inr (Or.inr ⟨(isTg_m n20).mp (bI_ne c10), bI_eq c24, mx_no h⟩))
    · obtain ⟨k, hk, rfl⟩ := (isTg_m n20).mp (bI_ne c10)
      refine J_aload_n 0 hC dX6_height_27 rfl rfl ?_
      refine J_aload_n 0 hC dX6_height_28 rfl rfl ?_
      refine fg_X6_20 hC hs1.ky (hs1.p 11 rfl) dX6_height_29 ?_
      refine J_iload_n 1 hC dX6_height_32 rfl rfl ?_
      refine J_iald hC (hs1.k 11 rfl) rfl (inN (hs1.n 11 rfl) (vp_in_nI (show k < 20 by have := hr.2.2.2.2.2.2.2.1; omega) (by decide))) dX6_height_33 ?_
      refine J_topI (show _ = vt σ k 0 by rw [nI_clamp (show k < 2147483648 by have := hr.2.2.2.2.2.2.2.1; omega)]; exact hv1.t hk (show 0 < 10 by decide)) ?_
      refine J_aload_n 0 hC dX6_height_34 rfl rfl ?_
      refine fg_X6_24 hC hs1.ky (hs1.p 12 rfl) dX6_height_35 ?_
      refine J_iload_n 1 hC dX6_height_38 rfl rfl ?_
      refine J_iald hC (hs1.k 12 rfl) rfl (inN (hs1.n 12 rfl) (vp_in_nI (show k < 20 by have := hr.2.2.2.2.2.2.2.1; omega) (by decide))) dX6_height_39 ?_
      refine J_topI (show _ = vt σ k 1 by rw [nI_clamp (show k < 2147483648 by have := hr.2.2.2.2.2.2.2.1; omega)]; exact hv1.t hk (show 1 < 10 by decide)) ?_
      refine J_iload_n 2 hC dX6_height_40 rfl rfl ?_
      refine cl_X6_110 hC (c_X6_heightOf _ y B σ hs1 hv1 hr _ _ _) hs1.ky (Nat.le_of_ble_eq_true rfl) ⟨⟨Nat.le_of_ble_eq_true rfl, Nat.le_of_ble_eq_true rfl⟩, Nat.le_of_ble_eq_true rfl, Nat.le_of_ble_eq_true rfl⟩ dX6_height_41 (fun r41 S41 e41 => ?_)
      obtain ⟨rfl, e41⟩ := e41
      subst S41
      refine J_goto 52 hC dX6_height_44 (by decide) ?_
      exact J_iretI hC dX6_height_52 (Nat.le_of_ble_eq_true rfl) (Nat.le_of_ble_eq_true rfl) (Or.inl ⟨bI_ne c24, k, hk, rfl, rfl, mx_0 h⟩)
  · refine J_aload_n 0 hC dX6_height_13 rfl rfl ?_
    refine J_iconst (v := 1) hC dX6_height_14 (by decide) ?_
    refine cl_X6_149 hC (c_X6_no _ y _ hs1.ky) hs1.ky (Nat.le_of_ble_eq_true rfl) ⟨⟨Nat.le_of_ble_eq_true rfl, Nat.le_of_ble_eq_true rfl⟩, Nat.le_of_ble_eq_true rfl, Nat.le_of_ble_eq_true rfl⟩ dX6_height_15 (fun r15 S15 e15 => ?_)
    obtain ⟨rfl, e15⟩ := e15
    subst S15
    exact J_iretI hC dX6_height_18 (Nat.le_of_ble_eq_true rfl) (Nat.le_of_ble_eq_true rfl) (Or.inr (Or.inl ⟨fun z => bI_eq c10 ((isTg_m n20).mpr z), mx_no h⟩))

set_option maxHeartbeats 4000000 in
set_option maxRecDepth 100000 in
/-- nearness -/
theorem c_X6_nearness {G : JG} (S : HS) (y : Nat) (B : Nat → Nat) (σ : Sg) (h : MI y B σ S) (t u : Int32) : Ct G yX6_nearness cX6_nearness 3 (some .int) 10 400 300 2600 [.ref y, .int t, .int u] S (rI (fun r S' => (∃ k j, k < vn σ ∧ j < vn σ ∧ t = nI k ∧ u = nI j ∧ r = nearV (vt σ k 0) (vt σ k 1) (vt σ j 0) (vt σ j 1) ∧ MX y B σ S S' 0) ∨ (¬ (isTg (vn σ) t ∧ isTg (vn σ) u) ∧ MX y B σ S S' 1))) noX := by
  refine Ct.of (by decide) (Nat.le_of_ble_eq_true rfl) (fun X hC hT hin => ?_)
  obtain ⟨hs, hv, hr, hw⟩ := id h
  have n20 : vn σ ≤ 20 := hr.2.2.2.2.2.2.2.1
  have h1 := h.thr (v := 0)
  have hs1 := h1.1
  have hv1 := h1.2.1
  refine J_aload_n 0 hC dX6_nearness_0 rfl rfl ?_
  refine J_iconst (v := 0) hC dX6_nearness_1 (by decide) ?_
  refine fp_X6_60 hC hs.ky dX6_nearness_2 ?_
  refine J_aload_n 0 hC dX6_nearness_5 rfl rfl ?_
  refine J_iload_n 1 hC dX6_nearness_6 rfl rfl ?_
  refine cl_X6_162 hC (c_X6_isTarget _ y B σ hs1 hv1 hr _) hs1.ky (Nat.le_of_ble_eq_true rfl) ⟨⟨Nat.le_of_ble_eq_true rfl, Nat.le_of_ble_eq_true rfl⟩, Nat.le_of_ble_eq_true rfl, Nat.le_of_ble_eq_true rfl⟩ dX6_nearness_7 (fun r7 S7 e7 => ?_)
  obtain ⟨rfl, e7⟩ := e7
  subst S7
  refine J_if_eq 51 hC dX6_nearness_10 (by decide) (fun c10 => ?_) (fun c10 => ?_)
  · refine J_aload_n 0 hC dX6_nearness_51 rfl rfl ?_
    refine J_iconst (v := 1) hC dX6_nearness_52 (by decide) ?_
    refine cl_X6_149 hC (c_X6_no _ y _ hs1.ky) hs1.ky (Nat.le_of_ble_eq_true rfl) ⟨⟨Nat.le_of_ble_eq_true rfl, Nat.le_of_ble_eq_true rfl⟩, Nat.le_of_ble_eq_true rfl, Nat.le_of_ble_eq_true rfl⟩ dX6_nearness_53 (fun r53 S53 e53 => ?_)
    obtain ⟨rfl, e53⟩ := e53
    subst S53
    exact J_iretI hC dX6_nearness_56 (Nat.le_of_ble_eq_true rfl) (Nat.le_of_ble_eq_true rfl) (Or.inr ⟨fun z => (fun z => bI_eq c10 ((isTg_m n20).mpr z)) z.1, mx_no h⟩)
  · refine J_aload_n 0 hC dX6_nearness_13 rfl rfl ?_
    refine J_iload_n 2 hC dX6_nearness_14 rfl rfl ?_
    refine cl_X6_162 hC (c_X6_isTarget _ y B σ hs1 hv1 hr _) hs1.ky (Nat.le_of_ble_eq_true rfl) ⟨⟨Nat.le_of_ble_eq_true rfl, Nat.le_of_ble_eq_true rfl⟩, Nat.le_of_ble_eq_true rfl, Nat.le_of_ble_eq_true rfl⟩ dX6_nearness_15 (fun r15 S15 e15 => ?_)
    obtain ⟨rfl, e15⟩ := e15
    subst S15
    refine J_if_eq 51 hC dX6_nearness_18 (by decide) (fun c18 => ?_) (fun c18 => ?_)
    · refine J_aload_n 0 hC dX6_nearness_51 rfl rfl ?_
      refine J_iconst (v := 1) hC dX6_nearness_52 (by decide) ?_
      refine cl_X6_149 hC (c_X6_no _ y _ hs1.ky) hs1.ky (Nat.le_of_ble_eq_true rfl) ⟨⟨Nat.le_of_ble_eq_true rfl, Nat.le_of_ble_eq_true rfl⟩, Nat.le_of_ble_eq_true rfl, Nat.le_of_ble_eq_true rfl⟩ dX6_nearness_53 (fun r53 S53 e53 => ?_)
      obtain ⟨rfl, e53⟩ := e53
      subst S53
      exact J_iretI hC dX6_nearness_56 (Nat.le_of_ble_eq_true rfl) (Nat.le_of_ble_eq_true rfl) (Or.inr ⟨fun z => (fun z => bI_eq c18 ((isTg_m n20).mpr z)) z.2, mx_no h⟩)
    · obtain ⟨k, hk, rfl⟩ := (isTg_m n20).mp (bI_ne c10)
      obtain ⟨j, hj, rfl⟩ := (isTg_m n20).mp (bI_ne c18)
      refine J_aload_n 0 hC dX6_nearness_21 rfl rfl ?_
      refine fg_X6_20 hC hs1.ky (hs1.p 11 rfl) dX6_nearness_22 ?_
      refine J_iload_n 1 hC dX6_nearness_25 rfl rfl ?_
      refine J_iald hC (hs1.k 11 rfl) rfl (inN (hs1.n 11 rfl) (vp_in_nI (show k < 20 by have := hr.2.2.2.2.2.2.2.1; omega) (by decide))) dX6_nearness_26 ?_
      refine J_topI (show _ = vt σ k 0 by rw [nI_clamp (show k < 2147483648 by have := hr.2.2.2.2.2.2.2.1; omega)]; exact hv1.t hk (show 0 < 10 by decide)) ?_
      refine J_aload_n 0 hC dX6_nearness_27 rfl rfl ?_
      refine fg_X6_24 hC hs1.ky (hs1.p 12 rfl) dX6_nearness_28 ?_
      refine J_iload_n 1 hC dX6_nearness_31 rfl rfl ?_
      refine J_iald hC (hs1.k 12 rfl) rfl (inN (hs1.n 12 rfl) (vp_in_nI (show k < 20 by have := hr.2.2.2.2.2.2.2.1; omega) (by decide))) dX6_nearness_32 ?_
      refine J_topI (show _ = vt σ k 1 by rw [nI_clamp (show k < 2147483648 by have := hr.2.2.2.2.2.2.2.1; omega)]; exact hv1.t hk (show 1 < 10 by decide)) ?_
      refine J_aload_n 0 hC dX6_nearness_33 rfl rfl ?_
      refine fg_X6_20 hC hs1.ky (hs1.p 11 rfl) dX6_nearness_34 ?_
      refine J_iload_n 2 hC dX6_nearness_37 rfl rfl ?_
      refine J_iald hC (hs1.k 11 rfl) rfl (inN (hs1.n 11 rfl) (vp_in_nI (show j < 20 by have := hr.2.2.2.2.2.2.2.1; omega) (by decide))) dX6_nearness_38 ?_
      refine J_topI (show _ = vt σ j 0 by rw [nI_clamp (show j < 2147483648 by have := hr.2.2.2.2.2.2.2.1; omega)]; exact hv1.t hj (show 0 < 10 by decide)) ?_
      refine J_aload_n 0 hC dX6_nearness_39 rfl rfl ?_
      refine fg_X6_24 hC hs1.ky (hs1.p 12 rfl) dX6_nearness_40 ?_
      refine J_iload_n 2 hC dX6_nearness_43 rfl rfl ?_
      refine J_iald hC (hs1.k 12 rfl) rfl (inN (hs1.n 12 rfl) (vp_in_nI (show j < 20 by have := hr.2.2.2.2.2.2.2.1; omega) (by decide))) dX6_nearness_44 ?_
      refine J_topI (show _ = vt σ j 1 by rw [nI_clamp (show j < 2147483648 by have := hr.2.2.2.2.2.2.2.1; omega)]; exact hv1.t hj (show 1 < 10 by decide)) ?_
      refine cl_X6_106 hC (c_X6_near _ _ _ _ _) (Nat.le_of_ble_eq_true rfl) ⟨⟨Nat.le_of_ble_eq_true rfl, Nat.le_of_ble_eq_true rfl⟩, Nat.le_of_ble_eq_true rfl, Nat.le_of_ble_eq_true rfl⟩ dX6_nearness_45 (fun r45 S45 e45 => ?_)
      obtain ⟨rfl, e45⟩ := e45
      subst S45
      refine J_goto 56 hC dX6_nearness_48 (by decide) ?_
      exact J_iretI hC dX6_nearness_56 (Nat.le_of_ble_eq_true rfl) (Nat.le_of_ble_eq_true rfl) (Or.inl ⟨k, j, hk, hj, rfl, rfl, rfl, mx_0 h⟩)

set_option maxHeartbeats 4000000 in
set_option maxRecDepth 100000 in
/-- moonNearness -/
theorem c_X6_moonNearness {G : JG} (S : HS) (y : Nat) (B : Nat → Nat) (σ : Sg) (h : MI y B σ S) (t : Int32) : Ct G yX6_moonNearness cX6_moonNearness 2 (some .int) 10 400 300 2600 [.ref y, .int t] S (rI (fun r S' => (∃ k, k < vn σ ∧ t = nI k ∧ r = mnV σ k ∧ MX y B σ S S' 0) ∨ (¬ isTg (vn σ) t ∧ MX y B σ S S' 1))) noX := by
  refine Ct.of (by decide) (Nat.le_of_ble_eq_true rfl) (fun X hC hT hin => ?_)
  obtain ⟨hs, hv, hr, hw⟩ := id h
  have n20 : vn σ ≤ 20 := hr.2.2.2.2.2.2.2.1
  have h1 := h.thr (v := 0)
  have hs1 := h1.1
  have hv1 := h1.2.1
  refine J_aload_n 0 hC dX6_moonNearness_0 rfl rfl ?_
  refine J_iconst (v := 0) hC dX6_moonNearness_1 (by decide) ?_
  refine fp_X6_60 hC hs.ky dX6_moonNearness_2 ?_
  refine J_aload_n 0 hC dX6_moonNearness_5 rfl rfl ?_
  refine J_iload_n 1 hC dX6_moonNearness_6 rfl rfl ?_
  refine cl_X6_162 hC (c_X6_isTarget _ y B σ hs1 hv1 hr _) hs1.ky (Nat.le_of_ble_eq_true rfl) ⟨⟨Nat.le_of_ble_eq_true rfl, Nat.le_of_ble_eq_true rfl⟩, Nat.le_of_ble_eq_true rfl, Nat.le_of_ble_eq_true rfl⟩ dX6_moonNearness_7 (fun r7 S7 e7 => ?_)
  obtain ⟨rfl, e7⟩ := e7
  subst S7
  refine J_if_eq 21 hC dX6_moonNearness_10 (by decide) (fun c10 => ?_) (fun c10 => ?_)
  · refine J_aload_n 0 hC dX6_moonNearness_21 rfl rfl ?_
    refine J_iconst (v := 1) hC dX6_moonNearness_22 (by decide) ?_
    refine cl_X6_149 hC (c_X6_no _ y _ hs1.ky) hs1.ky (Nat.le_of_ble_eq_true rfl) ⟨⟨Nat.le_of_ble_eq_true rfl, Nat.le_of_ble_eq_true rfl⟩, Nat.le_of_ble_eq_true rfl, Nat.le_of_ble_eq_true rfl⟩ dX6_moonNearness_23 (fun r23 S23 e23 => ?_)
    obtain ⟨rfl, e23⟩ := e23
    subst S23
    exact J_iretI hC dX6_moonNearness_26 (Nat.le_of_ble_eq_true rfl) (Nat.le_of_ble_eq_true rfl) (Or.inr ⟨fun z => bI_eq c10 ((isTg_m n20).mpr z), mx_no h⟩)
  · obtain ⟨k, hk, rfl⟩ := (isTg_m n20).mp (bI_ne c10)
    refine J_aload_n 0 hC dX6_moonNearness_13 rfl rfl ?_
    refine J_iload_n 1 hC dX6_moonNearness_14 rfl rfl ?_
    refine cl_X6_116 hC (c_X6_moonNear _ y B σ hs1 hv1 hr k hk) hs1.ky (Nat.le_of_ble_eq_true rfl) ⟨⟨Nat.le_of_ble_eq_true rfl, Nat.le_of_ble_eq_true rfl⟩, Nat.le_of_ble_eq_true rfl, Nat.le_of_ble_eq_true rfl⟩ dX6_moonNearness_15 (fun r15 S15 e15 => ?_)
    obtain ⟨rfl, e15⟩ := e15
    subst S15
    refine J_goto 26 hC dX6_moonNearness_18 (by decide) ?_
    exact J_iretI hC dX6_moonNearness_26 (Nat.le_of_ble_eq_true rfl) (Nat.le_of_ble_eq_true rfl) (Or.inl ⟨k, hk, rfl, rfl, mx_0 h⟩)

set_option maxHeartbeats 4000000 in
set_option maxRecDepth 100000 in
/-- moonHeight -/
theorem c_X6_moonHeight {G : JG} (S : HS) (y : Nat) (B : Nat → Nat) (σ : Sg) (h : MI y B σ S) (u : Int32) : Ct G yX6_moonHeight cX6_moonHeight 2 (some .int) 10 400 300 2600 [.ref y, .int u] S (rI (fun r S' => ((0 ≤ u ∧ u ≤ vg σ 2 - 1) ∧ r = mhV σ u ∧ MX y B σ S S' 0) ∨ (¬ (0 ≤ u ∧ u ≤ vg σ 2 - 1) ∧ MX y B σ S S' 1))) noX := by
  refine Ct.of (by decide) (Nat.le_of_ble_eq_true rfl) (fun X hC hT hin => ?_)
  obtain ⟨hs, hv, hr, hw⟩ := id h
  have n20 : vn σ ≤ 20 := hr.2.2.2.2.2.2.2.1
  have h1 := h.thr (v := 0)
  have hs1 := h1.1
  have hv1 := h1.2.1
  refine J_aload_n 0 hC dX6_moonHeight_0 rfl rfl ?_
  refine J_iconst (v := 0) hC dX6_moonHeight_1 (by decide) ?_
  refine fp_X6_60 hC hs.ky dX6_moonHeight_2 ?_
  refine J_aload_n 0 hC dX6_moonHeight_5 rfl rfl ?_
  refine J_iload_n 1 hC dX6_moonHeight_6 rfl rfl ?_
  refine cl_X6_156 hC (c_X6_isMinute _ y B σ hs1 hv1 hr _) hs1.ky (Nat.le_of_ble_eq_true rfl) ⟨⟨Nat.le_of_ble_eq_true rfl, Nat.le_of_ble_eq_true rfl⟩, Nat.le_of_ble_eq_true rfl, Nat.le_of_ble_eq_true rfl⟩ dX6_moonHeight_7 (fun r7 S7 e7 => ?_)
  obtain ⟨rfl, e7⟩ := e7
  subst S7
  refine J_if_eq 21 hC dX6_moonHeight_10 (by decide) (fun c10 => ?_) (fun c10 => ?_)
  · refine J_aload_n 0 hC dX6_moonHeight_21 rfl rfl ?_
    refine J_iconst (v := 1) hC dX6_moonHeight_22 (by decide) ?_
    refine cl_X6_149 hC (c_X6_no _ y _ hs1.ky) hs1.ky (Nat.le_of_ble_eq_true rfl) ⟨⟨Nat.le_of_ble_eq_true rfl, Nat.le_of_ble_eq_true rfl⟩, Nat.le_of_ble_eq_true rfl, Nat.le_of_ble_eq_true rfl⟩ dX6_moonHeight_23 (fun r23 S23 e23 => ?_)
    obtain ⟨rfl, e23⟩ := e23
    subst S23
    exact J_iretI hC dX6_moonHeight_26 (Nat.le_of_ble_eq_true rfl) (Nat.le_of_ble_eq_true rfl) (Or.inr ⟨bI_eq c10, mx_no h⟩)
  · refine J_aload_n 0 hC dX6_moonHeight_13 rfl rfl ?_
    refine J_iload_n 1 hC dX6_moonHeight_14 rfl rfl ?_
    refine cl_X6_113 hC (c_X6_moonHeightOf _ y B σ hs1 hv1 hr _) hs1.ky (Nat.le_of_ble_eq_true rfl) ⟨⟨Nat.le_of_ble_eq_true rfl, Nat.le_of_ble_eq_true rfl⟩, Nat.le_of_ble_eq_true rfl, Nat.le_of_ble_eq_true rfl⟩ dX6_moonHeight_15 (fun r15 S15 e15 => ?_)
    obtain ⟨rfl, e15⟩ := e15
    subst S15
    refine J_goto 26 hC dX6_moonHeight_18 (by decide) ?_
    exact J_iretI hC dX6_moonHeight_26 (Nat.le_of_ble_eq_true rfl) (Nat.le_of_ble_eq_true rfl) (Or.inl ⟨bI_ne c10, rfl, mx_0 h⟩)

theorem mn_nI {σ : Sg} (hr : Rng σ) {u : Int32} (h : 0 ≤ u ∧ u ≤ vg σ 2 - 1) : ∃ m, u = nI m ∧ m < 900 := by
  have hln := hr.ln
  obtain ⟨m, hm, rfl⟩ := nI_of (Int32.not_lt.mpr h.1)
  have h2 := h.2
  rw [hln.1, show (1 : Int32) = nI 1 from rfl, nI_sub (by omega) (by omega)] at h2
  have := (nI_leI hm (by omega)).mp h2
  exact ⟨m, rfl, by omega⟩

set_option maxHeartbeats 4000000 in
set_option maxRecDepth 100000 in
/-- reason -/
theorem c_X6_reason {G : JG} (S : HS) (y : Nat) (B : Nat → Nat) (σ : Sg) (h : MI y B σ S) (t u : Int32) : Ct G yX6_reason cX6_reason 3 (some .int) 10 400 300 2600 [.ref y, .int t, .int u] S (rI (fun r S' => ((0 ≤ u ∧ u ≤ vg σ 2 - 1) ∧ ∃ k, k < vn σ ∧ t = nI k ∧ r = rsnV σ k u ∧ MX y B σ S S' 0) ∨ (¬ isTg (vn σ) t ∧ MX y B σ S S' 1) ∨ (isTg (vn σ) t ∧ ¬ (0 ≤ u ∧ u ≤ vg σ 2 - 1) ∧ MX y B σ S S' 2))) noX := by
  refine Ct.of (by decide) (Nat.le_of_ble_eq_true rfl) (fun X hC hT hin => ?_)
  obtain ⟨hs, hv, hr, hw⟩ := id h
  have n20 : vn σ ≤ 20 := hr.2.2.2.2.2.2.2.1
  have h1 := h.thr (v := 0)
  have hs1 := h1.1
  have hv1 := h1.2.1
  refine J_aload_n 0 hC dX6_reason_0 rfl rfl ?_
  refine J_iconst (v := 0) hC dX6_reason_1 (by decide) ?_
  refine fp_X6_60 hC hs.ky dX6_reason_2 ?_
  refine J_aload_n 0 hC dX6_reason_5 rfl rfl ?_
  refine J_iload_n 1 hC dX6_reason_6 rfl rfl ?_
  refine cl_X6_162 hC (c_X6_isTarget _ y B σ hs1 hv1 hr _) hs1.ky (Nat.le_of_ble_eq_true rfl) ⟨⟨Nat.le_of_ble_eq_true rfl, Nat.le_of_ble_eq_true rfl⟩, Nat.le_of_ble_eq_true rfl, Nat.le_of_ble_eq_true rfl⟩ dX6_reason_7 (fun r7 S7 e7 => ?_)
  obtain ⟨rfl, e7⟩ := e7
  subst S7
  refine J_if_ne 19 hC dX6_reason_10 (by decide) (fun c10 => ?_) (fun c10 => ?_)
  · refine J_aload_n 0 hC dX6_reason_19 rfl rfl ?_
    refine J_iload_n 2 hC dX6_reason_20 rfl rfl ?_
    refine cl_X6_156 hC (c_X6_isMinute _ y B σ hs1 hv1 hr _) hs1.ky (Nat.le_of_ble_eq_true rfl) ⟨⟨Nat.le_of_ble_eq_true rfl, Nat.le_of_ble_eq_true rfl⟩, Nat.le_of_ble_eq_true rfl, Nat.le_of_ble_eq_true rfl⟩ dX6_reason_21 (fun r21 S21 e21 => ?_)
    obtain ⟨rfl, e21⟩ := e21
    subst S21
    refine J_if_eq 36 hC dX6_reason_24 (by decide) (fun c24 => ?_) (fun c24 => ?_)
    · refine J_aload_n 0 hC dX6_reason_36 rfl rfl ?_
      refine J_iconst (v := 2) hC dX6_reason_37 (by decide) ?_
      refine cl_X6_149 hC (c_X6_no _ y _ hs1.ky) hs1.ky (Nat.le_of_ble_eq_true rfl) ⟨⟨Nat.le_of_ble_eq_true rfl, Nat.le_of_ble_eq_true rfl⟩, Nat.le_of_ble_eq_true rfl, Nat.le_of_ble_eq_true rfl⟩ dX6_reason_38 (fun r38 S38 e38 => ?_)
      obtain ⟨rfl, e38⟩ := e38
      subst S38
      exact J_iretI hC dX6_reason_41 (Nat.le_of_ble_eq_true rfl) (Nat.le_of_ble_eq_true rfl) (Or.inr (Or.inr ⟨(isTg_m n20).mp (bI_ne c10), bI_eq c24, mx_no h⟩))
    · obtain ⟨k, hk, rfl⟩ := (isTg_m n20).mp (bI_ne c10)
      have hmn := bI_ne c24
      obtain ⟨m, rfl, hm9⟩ := mn_nI hr hmn
      refine J_aload_n 0 hC dX6_reason_27 rfl rfl ?_
      refine J_iload_n 1 hC dX6_reason_28 rfl rfl ?_
      refine J_iload_n 2 hC dX6_reason_29 rfl rfl ?_
      refine cl_X6_127 hC (c_X6_reasonOf _ y B σ hs1 hv1 hr k hk m hm9) hs1.ky (Nat.le_of_ble_eq_true rfl) ⟨⟨Nat.le_of_ble_eq_true rfl, Nat.le_of_ble_eq_true rfl⟩, Nat.le_of_ble_eq_true rfl, Nat.le_of_ble_eq_true rfl⟩ dX6_reason_30 (fun r30 S30 e30 => ?_)
      obtain ⟨rfl, e30⟩ := e30
      subst S30
      refine J_goto 41 hC dX6_reason_33 (by decide) ?_
      exact J_iretI hC dX6_reason_41 (Nat.le_of_ble_eq_true rfl) (Nat.le_of_ble_eq_true rfl) (Or.inl ⟨hmn, k, hk, rfl, rfl, mx_0 h⟩)
  · refine J_aload_n 0 hC dX6_reason_13 rfl rfl ?_
    refine J_iconst (v := 1) hC dX6_reason_14 (by decide) ?_
    refine cl_X6_149 hC (c_X6_no _ y _ hs1.ky) hs1.ky (Nat.le_of_ble_eq_true rfl) ⟨⟨Nat.le_of_ble_eq_true rfl, Nat.le_of_ble_eq_true rfl⟩, Nat.le_of_ble_eq_true rfl, Nat.le_of_ble_eq_true rfl⟩ dX6_reason_15 (fun r15 S15 e15 => ?_)
    obtain ⟨rfl, e15⟩ := e15
    subst S15
    exact J_iretI hC dX6_reason_18 (Nat.le_of_ble_eq_true rfl) (Nat.le_of_ble_eq_true rfl) (Or.inr (Or.inl ⟨fun z => bI_eq c10 ((isTg_m n20).mpr z), mx_no h⟩))

set_option maxHeartbeats 4000000 in
set_option maxRecDepth 100000 in
/-- window -/
theorem c_X6_window {G : JG} (S : HS) (y : Nat) (B : Nat → Nat) (σ : Sg) (h : MI y B σ S) (t w : Int32) : Ct G yX6_window cX6_window 3 (some .int) 10 400 300 2600 [.ref y, .int t, .int w] S (rI (fun r S' => (∃ k j, k < vn σ ∧ j < 5 ∧ t = nI k ∧ w = nI j ∧ r = wnV σ k j ∧ MX y B σ S S' 0) ∨ (¬ (isTg (vn σ) t ∧ 0 ≤ w ∧ w < 5) ∧ MX y B σ S S' 1))) noX := by
  refine Ct.of (by decide) (Nat.le_of_ble_eq_true rfl) (fun X hC hT hin => ?_)
  obtain ⟨hs, hv, hr, hw⟩ := id h
  have n20 : vn σ ≤ 20 := hr.2.2.2.2.2.2.2.1
  have h1 := h.thr (v := 0)
  have hs1 := h1.1
  have hv1 := h1.2.1
  refine J_aload_n 0 hC dX6_window_0 rfl rfl ?_
  refine J_iconst (v := 0) hC dX6_window_1 (by decide) ?_
  refine fp_X6_60 hC hs.ky dX6_window_2 ?_
  refine J_aload_n 0 hC dX6_window_5 rfl rfl ?_
  refine J_iload_n 1 hC dX6_window_6 rfl rfl ?_
  refine cl_X6_162 hC (c_X6_isTarget _ y B σ hs1 hv1 hr _) hs1.ky (Nat.le_of_ble_eq_true rfl) ⟨⟨Nat.le_of_ble_eq_true rfl, Nat.le_of_ble_eq_true rfl⟩, Nat.le_of_ble_eq_true rfl, Nat.le_of_ble_eq_true rfl⟩ dX6_window_7 (fun r7 S7 e7 => ?_)
  obtain ⟨rfl, e7⟩ := e7
  subst S7
  refine J_if_eq 31 hC dX6_window_10 (by decide) (fun c10 => ?_) (fun c10 => ?_)
  · refine J_aload_n 0 hC dX6_window_31 rfl rfl ?_
    refine J_iconst (v := 1) hC dX6_window_32 (by decide) ?_
    refine cl_X6_149 hC (c_X6_no _ y _ hs1.ky) hs1.ky (Nat.le_of_ble_eq_true rfl) ⟨⟨Nat.le_of_ble_eq_true rfl, Nat.le_of_ble_eq_true rfl⟩, Nat.le_of_ble_eq_true rfl, Nat.le_of_ble_eq_true rfl⟩ dX6_window_33 (fun r33 S33 e33 => ?_)
    obtain ⟨rfl, e33⟩ := e33
    subst S33
    exact J_iretI hC dX6_window_36 (Nat.le_of_ble_eq_true rfl) (Nat.le_of_ble_eq_true rfl) (Or.inr ⟨fun z => (fun z => bI_eq c10 ((isTg_m n20).mpr z)) z.1, mx_no h⟩)
  · refine J_iload_n 2 hC dX6_window_13 rfl rfl ?_
    refine J_iconst (v := 0) hC dX6_window_14 (by decide) ?_
    refine J_iconst (v := 4) hC dX6_window_15 (by decide) ?_
    refine cl_X6_66 hC (c_X6_isIn _ _ _ _) (Nat.le_of_ble_eq_true rfl) ⟨⟨Nat.le_of_ble_eq_true rfl, Nat.le_of_ble_eq_true rfl⟩, Nat.le_of_ble_eq_true rfl, Nat.le_of_ble_eq_true rfl⟩ dX6_window_16 (fun r16 S16 e16 => ?_)
    obtain ⟨rfl, e16⟩ := e16
    subst S16
    refine J_if_eq 31 hC dX6_window_19 (by decide) (fun c19 => ?_) (fun c19 => ?_)
    · refine J_aload_n 0 hC dX6_window_31 rfl rfl ?_
      refine J_iconst (v := 1) hC dX6_window_32 (by decide) ?_
      refine cl_X6_149 hC (c_X6_no _ y _ hs1.ky) hs1.ky (Nat.le_of_ble_eq_true rfl) ⟨⟨Nat.le_of_ble_eq_true rfl, Nat.le_of_ble_eq_true rfl⟩, Nat.le_of_ble_eq_true rfl, Nat.le_of_ble_eq_true rfl⟩ dX6_window_33 (fun r33 S33 e33 => ?_)
      obtain ⟨rfl, e33⟩ := e33
      subst S33
      exact J_iretI hC dX6_window_36 (Nat.le_of_ble_eq_true rfl) (Nat.le_of_ble_eq_true rfl) (Or.inr ⟨fun z => bI_eq c19 ((isTg_m (n := 5) (by decide)).mpr ((isTg_iff (n := 5) (by decide)).mpr z.2)), mx_no h⟩)
    · obtain ⟨k, hk, rfl⟩ := (isTg_m n20).mp (bI_ne c10)
      obtain ⟨j, hj, rfl⟩ := (isTg_m (n := 5) (by decide)).mp (bI_ne c19)
      refine J_aload_n 0 hC dX6_window_22 rfl rfl ?_
      refine J_iload_n 1 hC dX6_window_23 rfl rfl ?_
      refine J_iload_n 2 hC dX6_window_24 rfl rfl ?_
      refine cl_X6_171 hC (c_windowOf _ y B σ h1 k hk j hj) hs1.ky (Nat.le_of_ble_eq_true rfl) ⟨⟨Nat.le_of_ble_eq_true rfl, Nat.le_of_ble_eq_true rfl⟩, Nat.le_of_ble_eq_true rfl, Nat.le_of_ble_eq_true rfl⟩ dX6_window_25 (fun r25 S25 e25 => ?_)
      obtain ⟨rfl, a1, a2, a3⟩ := e25
      refine J_goto 36 hC dX6_window_28 (by decide) ?_
      exact J_iretI hC dX6_window_36 (Nat.le_of_ble_eq_true rfl) (Nat.le_of_ble_eq_true rfl) (Or.inl ⟨k, j, hk, hj, rfl, rfl, rfl, a1, (mx_0 h).2.1.trans a2, a3.trans (hI_same _ _ _ _)⟩)
