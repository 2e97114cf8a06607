/-! the constructors: printed by wip/p27/class9.py -/
theorem nqz {S : HS} {a q n : Nat} (h : hK S q = 0) (h2 : hK S a = n) (h3 : n ≠ 0) : a ≠ q := fun z => h3 (by rw [← h2, z]; exact h)
theorem kNew {S : HS} {a q n lab m : Nat} (h : hK S q = 0) (h2 : hK S a = n) (h3 : n ≠ 0) : hK (sNew S q lab m) a = n := (if_neg (nqz h h2 h3)).trans h2
theorem kP {S : HS} {k a b n : Nat} {v : Option Nat} (h : hK S a = n) : hK (sP S k b v) a = n := h

set_option maxHeartbeats 4000000 in
set_option maxRecDepth 100000 in
/-- Clouds -/
theorem c_X0_init {G : JG} (S : HS) (c : Nat) (h0 : hK S c = 2) : Ct G yX0_init cX0_init 1 none 1 40 2 16 [.ref c] S (rV (fun S' => ∃ f t, hK S f = 0 ∧ hK (sNew S f 8 8) t = 0 ∧ S' = sP (sNew (sP (sNew S f 8 8) 0 c (some f)) t 9 8) 1 c (some t))) noX := by
  refine Ct.of (by decide) (Nat.le_of_ble_eq_true rfl) (fun X hC hT hin => ?_)
  refine J_aload_n 0 hC dX0_init_0 rfl rfl ?_
  refine oi_X0_3 hC (Nat.le_of_ble_eq_true rfl) (Nat.le_of_ble_eq_true rfl) dX0_init_1 ?_
  refine J_aload_n 0 hC dX0_init_4 rfl rfl ?_
  refine J_bipush (v := 8) hC dX0_init_5 (by decide) ?_
  refine J_newI (lab := 8) (N := 8) hC rfl (mG 93 (by decide +kernel) rfl) (by decide) (by decide) (by decide) (Nat.le_of_ble_eq_true rfl) (Nat.le_of_ble_eq_true rfl) dX0_init_7 (fun f ff => ?_)
  refine fp_X0_9 hC hin (kNew ff h0 (by decide)) dX0_init_9 ?_
  refine J_aload_n 0 hC dX0_init_12 rfl rfl ?_
  refine J_bipush (v := 8) hC dX0_init_13 (by decide) ?_
  refine J_newI (lab := 9) (N := 8) hC rfl (mG 93 (by decide +kernel) rfl) (by decide) (by decide) (by decide) (Nat.le_of_ble_eq_true rfl) (Nat.le_of_ble_eq_true rfl) dX0_init_15 (fun t ft => ?_)
  refine fp_X0_15 hC hin (kNew ft (kP (kNew ff h0 (by decide))) (by decide)) dX0_init_17 ?_
  exact J_vretI hC dX0_init_20 (Nat.le_of_ble_eq_true rfl) (Nat.le_of_ble_eq_true rfl) ⟨f, t, ff, ft, rfl⟩

set_option maxHeartbeats 4000000 in
set_option maxRecDepth 100000 in
/-- Outlook -/
theorem c_X1_init {G : JG} (S : HS) (o : Nat) (h0 : hK S o = 3) : Ct G yX1_init cX1_init 1 none 1 40 1 900 [.ref o] S (rV (fun S' => ∃ r, hK S r = 0 ∧ S' = sP (sNew S r 10 900) 0 o (some r))) noX := by
  refine Ct.of (by decide) (Nat.le_of_ble_eq_true rfl) (fun X hC hT hin => ?_)
  refine J_aload_n 0 hC dX1_init_0 rfl rfl ?_
  refine oi_X1_3 hC (Nat.le_of_ble_eq_true rfl) (Nat.le_of_ble_eq_true rfl) dX1_init_1 ?_
  refine J_aload_n 0 hC dX1_init_4 rfl rfl ?_
  refine J_sipush (v := 900) hC dX1_init_5 (by decide) ?_
  refine J_newI (lab := 10) (N := 900) hC rfl (mG 93 (by decide +kernel) rfl) (by decide) (by decide) (by decide) (Nat.le_of_ble_eq_true rfl) (Nat.le_of_ble_eq_true rfl) dX1_init_8 (fun r fr => ?_)
  refine fp_X1_9 hC hin (kNew fr h0 (by decide)) dX1_init_10 ?_
  exact J_vretI hC dX1_init_13 (Nat.le_of_ble_eq_true rfl) (Nat.le_of_ble_eq_true rfl) ⟨r, fr, rfl⟩

set_option maxHeartbeats 4000000 in
set_option maxRecDepth 100000 in
/-- Plan -/
theorem c_X2_init {G : JG} (S : HS) (p : Nat) (h0 : hK S p = 4) : Ct G yX2_init cX2_init 1 none 1 40 21 100 [.ref p] S (rV (fun S' => ∃ q r, hK S q = 0 ∧ (∀ i, i < 20 → hK S (r i) = 0 ∧ r i ≠ q) ∧ (∀ i j, i < 20 → j < 20 → r i = r j → i = j) ∧ S' = sP (sMna S q r) 0 p (some q))) noX := by
  refine Ct.of (by decide) (Nat.le_of_ble_eq_true rfl) (fun X hC hT hin => ?_)
  refine J_aload_n 0 hC dX2_init_0 rfl rfl ?_
  refine oi_X2_3 hC (Nat.le_of_ble_eq_true rfl) (Nat.le_of_ble_eq_true rfl) dX2_init_1 ?_
  refine J_aload_n 0 hC dX2_init_4 rfl rfl ?_
  refine J_bipush (v := 20) hC dX2_init_5 (by decide) ?_
  refine J_iconst (v := 4) hC dX2_init_7 (by decide) ?_
  refine J_mna hC (Nat.le_of_ble_eq_true rfl) (Nat.le_of_ble_eq_true rfl) dX2_init_8 (fun q r fq frr hri => ?_)
  have hm : hK (sMna S q r) p = 4 := by
    have hq := nqz fq h0 (by decide)
    exact ((rowsN_old (T := sNew S q 13 20) (r := r) (n := 20) (a := p) (fun i hi => nqz (frr i hi).1 h0 (by decide))).1.trans (if_neg hq)).trans h0
  refine fp_X2_11 hC hin hm dX2_init_12 ?_
  exact J_vretI hC dX2_init_15 (Nat.le_of_ble_eq_true rfl) (Nat.le_of_ble_eq_true rfl) ⟨q, r, fq, frr, hri, rfl⟩

set_option maxHeartbeats 4000000 in
set_option maxRecDepth 100000 in
/-- AbstractCollection -/
theorem c_ac_init {G : JG} (S : HS) (l : Nat) : Ct G yJxa1e45_init_da8c8 cJxa1e45_init_da8c8 1 none 1 40 0 0 [.ref l] S (rV (fun S' => S' = S)) noX := by
  refine Ct.ofF (by decide +kernel) (Nat.le_of_ble_eq_true rfl) (fun X hC hT hin => ?_)
  refine J_aload_n 0 hC dJxa1e45_init_da8c8_0 rfl rfl ?_
  refine oi_Jxa1e45_1 hC (Nat.le_of_ble_eq_true rfl) (Nat.le_of_ble_eq_true rfl) dJxa1e45_init_da8c8_1 ?_
  exact J_vretI hC dJxa1e45_init_da8c8_4 (Nat.le_of_ble_eq_true rfl) (Nat.le_of_ble_eq_true rfl) rfl

set_option maxHeartbeats 4000000 in
set_option maxRecDepth 100000 in
/-- AbstractList -/
theorem c_abl_init {G : JG} (S : HS) (l : Nat) (h0 : hK S l = 1) : Ct G yJxc12de_init_da8c8 cJxc12de_init_da8c8 1 none 2 80 0 0 [.ref l] S (rV (fun S' => S' = sI S 0 l 0)) noX := by
  refine Ct.ofF (by decide +kernel) (Nat.le_of_ble_eq_true rfl) (fun X hC hT hin => ?_)
  refine J_aload_n 0 hC dJxc12de_init_da8c8_0 rfl rfl ?_
  refine cl_Jxc12de_1 hC (c_ac_init S l) (Nat.le_of_ble_eq_true rfl) ⟨⟨Nat.le_of_ble_eq_true rfl, Nat.le_of_ble_eq_true rfl⟩, Nat.le_of_ble_eq_true rfl, Nat.le_of_ble_eq_true rfl⟩ dJxc12de_init_da8c8_1 (fun S1 e1 => ?_)
  subst S1
  refine J_aload_n 0 hC dJxc12de_init_da8c8_4 rfl rfl ?_
  refine J_iconst (v := 0) hC dJxc12de_init_da8c8_5 (by decide) ?_
  refine fp_Jxc12de_7 hC h0 dJxc12de_init_da8c8_6 ?_
  exact J_vretI hC dJxc12de_init_da8c8_9 (Nat.le_of_ble_eq_true rfl) (Nat.le_of_ble_eq_true rfl) rfl

set_option maxHeartbeats 4000000 in
set_option maxRecDepth 100000 in
/-- ArrayList -/
theorem c_al_init {G : JG} (S : HS) (l : Nat) (h0 : hK S l = 1) : Ct G yJx4a65c_init_da8c8 cJx4a65c_init_da8c8 1 none 3 120 0 0 [.ref l] S (rV (fun S' => S' = sP (sI S 0 l 0) 1 l (some (gE G)))) noX := by
  refine Ct.ofF (by decide +kernel) (Nat.le_of_ble_eq_true rfl) (fun X hC hT hin => ?_)
  refine J_aload_n 0 hC dJx4a65c_init_da8c8_0 rfl rfl ?_
  refine cl_Jx4a65c_1 hC (c_abl_init S l h0) (Nat.le_of_ble_eq_true rfl) ⟨⟨Nat.le_of_ble_eq_true rfl, Nat.le_of_ble_eq_true rfl⟩, Nat.le_of_ble_eq_true rfl, Nat.le_of_ble_eq_true rfl⟩ dJx4a65c_init_da8c8_1 (fun S1 e1 => ?_)
  subst S1
  refine J_aload_n 0 hC dJx4a65c_init_da8c8_4 rfl rfl ?_
  refine J_getsE hC dJx4a65c_init_da8c8_5 ?_
  refine fp_Jx4a65c_9 hC h0 dJx4a65c_init_da8c8_8 ?_
  exact J_vretI hC dJx4a65c_init_da8c8_11 (Nat.le_of_ble_eq_true rfl) (Nat.le_of_ble_eq_true rfl) rfl

set_option maxHeartbeats 4000000 in
set_option maxRecDepth 100000 in
/-- Target -/
theorem c_X4_init {G : JG} (S : HS) (g q : Nat) (number fi ra mi : Int32) (h0 : hK S g = 6) (h9 : hI S 9 g = 0) : Ct G yX4_init cX4_init 6 none 2 80 2 908 [.ref g, .int number, .ref q, .int fi, .int ra, .int mi] S (rV (fun S' => ∃ o r, hK S o = 0 ∧ hK S r = 0 ∧ o ≠ r ∧ (∀ a, a ≠ g → a ≠ o → a ≠ r → same1 S S' a) ∧ hK S' g = 6 ∧ hP S' 1 g = some q ∧ hP S' 5 g = some o ∧ hK S' o = 3 ∧ hP S' 0 o = some r ∧ hI S' 1 o = 0 ∧ hK S' r = 10 ∧ hN S' r = 900 ∧ (hI S' 0 g = number ∧ hI S' 2 g = fi ∧ hI S' 3 g = ra ∧ hI S' 4 g = mi ∧ hI S' 6 g = 300 ∧ hI S' 7 g = 1 ∧ hI S' 8 g = 1 ∧ hI S' 9 g = 0 ∧ hI S' 10 g = -1))) noX := by
  refine Ct.of (by decide) (Nat.le_of_ble_eq_true rfl) (fun X hC hT hin => ?_)
  refine J_aload_n 0 hC dX4_init_0 rfl rfl ?_
  refine oi_X4_1 hC (Nat.le_of_ble_eq_true rfl) (Nat.le_of_ble_eq_true rfl) dX4_init_1 ?_
  refine J_aload_n 0 hC dX4_init_4 rfl rfl ?_
  refine nw_X4_7 hC (Nat.le_of_ble_eq_true rfl) (Nat.le_of_ble_eq_true rfl) dX4_init_5 (fun o fo => ?_)
  refine J_dup hC dX4_init_8 rfl ?_
  refine cl_X4_9 hC (c_X1_init _ o (if_pos rfl)) (Nat.le_of_ble_eq_true rfl) ⟨⟨Nat.le_of_ble_eq_true rfl, Nat.le_of_ble_eq_true rfl⟩, Nat.le_of_ble_eq_true rfl, Nat.le_of_ble_eq_true rfl⟩ dX4_init_9 (fun S9 e9 => ?_)
  obtain ⟨r, fr, e9⟩ := e9
  subst e9
  have ko : hK (sNew S o 3 0) o = 3 := if_pos rfl
  have hro : o ≠ r := nqz fr ko (by decide)
  have hgo : g ≠ o := nqz fo h0 (by decide)
  have kg1 : hK (sNew S o 3 0) g = 6 := kNew fo h0 (by decide)
  have hgr : g ≠ r := nqz fr kg1 (by decide)
  have kg : hK (sP (sNew (sNew S o 3 0) r 10 900) 0 o (some r)) g = 6 := kP (kNew fr kg1 (by decide))
  refine fp_X4_10 hC hin kg dX4_init_12 ?_
  refine J_aload_n 0 hC dX4_init_15 rfl rfl ?_
  refine J_sipush (v := 300) hC dX4_init_16 (by decide) ?_
  refine fp_X4_16 hC (kP kg) dX4_init_19 ?_
  refine J_aload_n 0 hC dX4_init_22 rfl rfl ?_
  refine J_iconst (v := 1) hC dX4_init_23 (by decide) ?_
  refine fp_X4_20 hC (kI (kP kg)) dX4_init_24 ?_
  refine J_aload_n 0 hC dX4_init_27 rfl rfl ?_
  refine J_iconst (v := 1) hC dX4_init_28 (by decide) ?_
  refine fp_X4_23 hC (kI (kI (kP kg))) dX4_init_29 ?_
  refine J_aload_n 0 hC dX4_init_32 rfl rfl ?_
  refine J_iconst (v := (-1)) hC dX4_init_33 (by decide) ?_
  refine fp_X4_26 hC (kI (kI (kI (kP kg)))) dX4_init_34 ?_
  refine J_aload_n 0 hC dX4_init_37 rfl rfl ?_
  refine J_iload_n 1 hC dX4_init_38 rfl rfl ?_
  refine fp_X4_29 hC hin (kI (kI (kI (kI (kP kg))))) dX4_init_39 ?_
  refine J_aload_n 0 hC dX4_init_42 rfl rfl ?_
  refine J_aload_n 2 hC dX4_init_43 rfl rfl ?_
  refine fp_X4_32 hC hin (kI (kI (kI (kI (kI (kP kg)))))) dX4_init_44 ?_
  refine J_aload_n 0 hC dX4_init_47 rfl rfl ?_
  refine J_iload_n 3 hC dX4_init_48 rfl rfl ?_
  refine fp_X4_36 hC hin (kP (kI (kI (kI (kI (kI (kP kg))))))) dX4_init_49 ?_
  refine J_aload_n 0 hC dX4_init_52 rfl rfl ?_
  refine J_iload 4 hC dX4_init_53 rfl ?_
  refine fp_X4_39 hC hin (kI (kP (kI (kI (kI (kI (kI (kP kg)))))))) dX4_init_55 ?_
  refine J_aload_n 0 hC dX4_init_58 rfl rfl ?_
  refine J_iload 5 hC dX4_init_59 rfl ?_
  refine fp_X4_42 hC hin (kI (kI (kP (kI (kI (kI (kI (kI (kP kg))))))))) dX4_init_61 ?_
  refine J_vretI hC dX4_init_64 (Nat.le_of_ble_eq_true rfl) (Nat.le_of_ble_eq_true rfl) ?_
  have fr' : hK S r = 0 := by have h := fr; rw [hK_sNew, if_neg (fun z => hro z.symm)] at h; exact h
  refine ⟨o, r, fo, fr', hro, fun a h1 h2 h3 => ⟨?_, ?_, fun k => ?_, fun k => ?_, fun k => ?_, fun k => ?_⟩, ?_, ?_, ?_, ?_, ?_, ?_, ?_, ?_, ?_, ?_, ?_, ?_, ?_, ?_, ?_, ?_, ?_⟩ <;> simp [hK_sI, hK_sP, hK_sNew, hN_sI, hN_sP, hN_sNew, hI_sI, hI_sP, hI_sNew, hP_sI, hP_sP, hP_sNew, hV_sI, hV_sP, hV_sNew, hL_sI, hL_sP, hL_sNew, *, hro.symm, hgo.symm, hgr.symm]
