/-! new SkyPlanModel(): printed by wip/whole/model11.py -/
/-- the model's cell on its way: the numbers I stand in it, and the arrays whose slots lie below n -/
def NW (y : Nat) (S : HS) (I : Nat → Int32) (n : Nat) (T : HS) : Prop :=
  (∀ a, a ≠ y → hK S a ≠ 0 → same1 S T a) ∧ hK T y = 17 ∧ (∀ k, hI T k y = I k) ∧ ∃ B : Nat → Nat, ∀ j, mIn j = true → j < n → hP T j y = some (B j) ∧ hK T (B j) = mLab j ∧ hN T (B j) = mLen j ∧ ∀ k, hV T k (B j) = 0
theorem NW.step {y : Nat} {S T : HS} {I : Nat → Int32} {n : Nat} (h : NW y S I n T) (j q : Nat) (hj : mIn j = true) (hn : ∀ i, mIn i = true → i < j + 1 → i ≠ j → i < n) (hq : hK T q = 0) : NW y S I (j + 1) (sP (sNew T q (mLab j) (mLen j)) j y (some q)) := by
  obtain ⟨h1, h2, h3, B, h4⟩ := h
  have ny : q ≠ y := fun z => by rw [z, h2] at hq; exact absurd hq (by decide)
  have nw := newAt.of (lab := mLab j) (n := mLen j) hq
  have ey := nw.2 y (fun z => ny z.symm)
  refine ⟨fun a ha h0 => ?_, ey.1.trans h2, fun k => (hI_sP _ _ _ _ _ _).trans ((ey.2.2.1 k).trans (h3 k)), fun i => if i = j then q else B i, fun i hi hlt => ?_⟩
  · have e := h1 a ha h0
    refine (e.trans (nw.old (by rw [e.1]; exact h0))).trans ⟨Eq.refl _, Eq.refl _, fun _ => Eq.refl _, fun _ => hP_na ha, fun _ => Eq.refl _, fun _ => Eq.refl _⟩
  · by_cases e : i = j
    · subst e
      dsimp only
      rw [if_pos (Eq.refl i)]
      exact ⟨hP_same _ _ _ _, if_pos (Eq.refl q), if_pos (Eq.refl q), fun k => if_pos (Eq.refl q)⟩
    · dsimp only
      rw [if_neg e]
      obtain ⟨g1, g2, g3, g4⟩ := h4 i hi (hn i hi hlt e)
      have nb : B i ≠ q := fun z => by rw [z, hq] at g2; exact absurd (mLab_gt hi).1 (by rw [← g2]; decide)
      have eb := nw.2 (B i) nb
      exact ⟨(hP_nk e).trans ((ey.2.2.2.1 i).trans g1), eb.1.trans g2, eb.2.1.trans g3, fun k => (eb.2.2.2.2.1 k).trans (g4 k)⟩
theorem NW.num {y : Nat} {S T : HS} {I : Nat → Int32} {n : Nat} (h : NW y S I n T) (k : Nat) (v : Int32) : NW y S (fun i => if i = k then v else I i) n (sI T k y v) := by
  obtain ⟨h1, h2, h3, B, h4⟩ := h
  refine ⟨fun a ha h0 => (h1 a ha h0).trans ⟨Eq.refl _, Eq.refl _, fun _ => hI_na ha, fun _ => Eq.refl _, fun _ => Eq.refl _, fun _ => Eq.refl _⟩, h2, fun i => ?_, B, h4⟩
  by_cases e : i = k
  · dsimp only
    rw [if_pos e, e]; exact hI_same _ _ _ _
  · dsimp only
    rw [if_neg e]; exact (hI_nk e).trans (h3 i)
def mI0 (i : Nat) : Int32 := if i = 3 then 50 else if i = 2 then 600 else 0
theorem NW.done {y : Nat} {S T : HS} {I : Nat → Int32} {n : Nat} (h : NW y S I n T) (hn : 26 ≤ n) (hI0 : ∀ i, I i = mI0 i) (hy : hK S y = 17) : (∃ B, MI y B σ0 T) ∧ FrM S T := by
  obtain ⟨h1, h2, h3, B, h4⟩ := h
  have h4' : ∀ j, mIn j = true → hP T j y = some (B j) ∧ hK T (B j) = mLab j ∧ hN T (B j) = mLen j ∧ ∀ k, hV T k (B j) = 0 := fun j hj => h4 j hj (by
    have := hj
    unfold mIn at this
    simp only [Bool.or_eq_true, Bool.and_eq_true, decide_eq_true_eq] at this
    omega)
  have h3' : ∀ k, hI T k y = mI0 k := fun k => (h3 k).trans (hI0 k)
  refine ⟨⟨B, ⟨h2, fun j hj => ⟨(h4' j hj).1, (h4' j hj).2.1, (h4' j hj).2.2.1⟩⟩, ⟨⟨h3' 1, h3' 2, h3' 3, h3' 4, h3' 5, h3' 6, h3' 7, h3' 8, h3' 10⟩, fun t _ => (h4' 9 rfl).2.2.2 t, fun k hk => absurd hk (Nat.not_lt_zero k), fun k _ _ => (h4' 19 rfl).2.2.2 k, Nat.zero_le _⟩, rng0, Or.inl (h3' 21)⟩, fun a h0 h14 => h1 a (fun z => by rw [z, hy] at h14; omega) h0, fun a h0 => ?_⟩
  by_cases e : a = y
  · rw [e, hy]; exact h2
  · exact (h1 a e h0).1
theorem mIn_gap11 {i : Nat} (h1 : mIn i = true) (h2 : i < 11 + 1) (h3 : i ≠ 11) : i < 10 := by
  unfold mIn at h1
  simp only [Bool.or_eq_true, Bool.and_eq_true, decide_eq_true_eq] at h1
  omega
theorem mIn_gap22 {i : Nat} (h1 : mIn i = true) (h2 : i < 22 + 1) (h3 : i ≠ 22) : i < 21 := by
  unfold mIn at h1
  simp only [Bool.or_eq_true, Bool.and_eq_true, decide_eq_true_eq] at h1
  omega
theorem mIn_gap25 {i : Nat} (h1 : mIn i = true) (h2 : i < 25 + 1) (h3 : i ≠ 25) : i < 24 := by
  unfold mIn at h1
  simp only [Bool.or_eq_true, Bool.and_eq_true, decide_eq_true_eq] at h1
  omega
theorem mIn_9 {i : Nat} (h1 : mIn i = true) : ¬ i < 9 := by
  unfold mIn at h1
  simp only [Bool.or_eq_true, Bool.and_eq_true, decide_eq_true_eq] at h1
  omega

set_option maxHeartbeats 4000000 in
set_option maxRecDepth 100000 in
/-- new SkyPlanModel() -/
theorem c_X6_init {G : JG} (S : HS) (y : Nat) (h0 : hK S y = 17) (hz : ∀ k, hI S k y = 0) : Ct G yX6_init cX6_init 1 none 6 200 14 37180 [.ref y] S (rV (fun S' => (∃ B, MI y B σ0 S') ∧ FrM S S')) noX := by
  refine Ct.of (by decide) (Nat.le_of_ble_eq_true rfl) (fun X hC hT hin => ?_)
  refine J_aload_n 0 hC dX6_init_0 rfl rfl ?_
  refine oi_X6_1 hC (Nat.le_of_ble_eq_true rfl) (Nat.le_of_ble_eq_true rfl) dX6_init_1 ?_
  refine J_aload_n 0 hC dX6_init_4 rfl rfl ?_
  refine J_sipush (v := 600) hC dX6_init_5 (by decide) ?_
  refine fp_X6_7 hC h0 dX6_init_8 ?_
  refine J_aload_n 0 hC dX6_init_11 rfl rfl ?_
  refine J_bipush (v := 50) hC dX6_init_12 (by decide) ?_
  refine fp_X6_13 hC h0 dX6_init_14 ?_
  refine J_inv (A := fun T => NW y S (fun i => if i = 3 then 50 else if i = 2 then 600 else hI S i y) 9 T) (((show NW y S (fun k => hI S k y) 9 S from ⟨fun _ _ _ => same1.rfl, h0, fun _ => rfl, fun _ => 0, fun j hj hlt => absurd hlt (mIn_9 hj)⟩).num 2 600).num 3 50) (fun T0 t0 => ?_)
  refine J_aload_n 0 hC dX6_init_17 rfl rfl ?_
  refine J_sipush (v := 900) hC dX6_init_18 (by decide) ?_
  refine J_newZ (lab := 15) (N := 900) hC rfl (mG 850 (by decide +kernel) rfl) (by decide) (by decide) (by decide) (Nat.le_of_ble_eq_true rfl) (Nat.le_of_ble_eq_true rfl) dX6_init_21 (fun q0 fq0 => ?_)
  refine fp_X6_16 hC hin (kNew fq0 t0.2.1 (by decide)) dX6_init_23 ?_
  refine J_inv (A := fun T => NW y S (fun i => if i = 3 then 50 else if i = 2 then 600 else hI S i y) 10 T) (t0.step 9 q0 rfl (fun i h1 h2 h3 => by omega) fq0) (fun T1 t1 => ?_)
  refine J_aload_n 0 hC dX6_init_26 rfl rfl ?_
  refine J_bipush (v := 20) hC dX6_init_27 (by decide) ?_
  refine J_newI (lab := 18) (N := 20) hC rfl (mG 111 (by decide +kernel) rfl) (by decide) (by decide) (by decide) (Nat.le_of_ble_eq_true rfl) (Nat.le_of_ble_eq_true rfl) dX6_init_29 (fun q1 fq1 => ?_)
  refine fp_X6_20 hC hin (kNew fq1 t1.2.1 (by decide)) dX6_init_31 ?_
  refine J_inv (A := fun T => NW y S (fun i => if i = 3 then 50 else if i = 2 then 600 else hI S i y) 12 T) (t1.step 11 q1 rfl (fun i h1 h2 h3 => mIn_gap11 h1 h2 h3) fq1) (fun T2 t2 => ?_)
  refine J_aload_n 0 hC dX6_init_34 rfl rfl ?_
  refine J_bipush (v := 20) hC dX6_init_35 (by decide) ?_
  refine J_newI (lab := 19) (N := 20) hC rfl (mG 111 (by decide +kernel) rfl) (by decide) (by decide) (by decide) (Nat.le_of_ble_eq_true rfl) (Nat.le_of_ble_eq_true rfl) dX6_init_37 (fun q2 fq2 => ?_)
  refine fp_X6_24 hC hin (kNew fq2 t2.2.1 (by decide)) dX6_init_39 ?_
  refine J_inv (A := fun T => NW y S (fun i => if i = 3 then 50 else if i = 2 then 600 else hI S i y) 13 T) (t2.step 12 q2 rfl (fun i h1 h2 h3 => by omega) fq2) (fun T3 t3 => ?_)
  refine J_aload_n 0 hC dX6_init_42 rfl rfl ?_
  refine J_bipush (v := 20) hC dX6_init_43 (by decide) ?_
  refine J_newI (lab := 20) (N := 20) hC rfl (mG 111 (by decide +kernel) rfl) (by decide) (by decide) (by decide) (Nat.le_of_ble_eq_true rfl) (Nat.le_of_ble_eq_true rfl) dX6_init_45 (fun q3 fq3 => ?_)
  refine fp_X6_27 hC hin (kNew fq3 t3.2.1 (by decide)) dX6_init_47 ?_
  refine J_inv (A := fun T => NW y S (fun i => if i = 3 then 50 else if i = 2 then 600 else hI S i y) 14 T) (t3.step 13 q3 rfl (fun i h1 h2 h3 => by omega) fq3) (fun T4 t4 => ?_)
  refine J_aload_n 0 hC dX6_init_50 rfl rfl ?_
  refine J_bipush (v := 20) hC dX6_init_51 (by decide) ?_
  refine J_newI (lab := 21) (N := 20) hC rfl (mG 111 (by decide +kernel) rfl) (by decide) (by decide) (by decide) (Nat.le_of_ble_eq_true rfl) (Nat.le_of_ble_eq_true rfl) dX6_init_53 (fun q4 fq4 => ?_)
  refine fp_X6_30 hC hin (kNew fq4 t4.2.1 (by decide)) dX6_init_55 ?_
  refine J_inv (A := fun T => NW y S (fun i => if i = 3 then 50 else if i = 2 then 600 else hI S i y) 15 T) (t4.step 14 q4 rfl (fun i h1 h2 h3 => by omega) fq4) (fun T5 t5 => ?_)
  refine J_aload_n 0 hC dX6_init_58 rfl rfl ?_
  refine J_bipush (v := 20) hC dX6_init_59 (by decide) ?_
  refine J_newI (lab := 22) (N := 20) hC rfl (mG 111 (by decide +kernel) rfl) (by decide) (by decide) (by decide) (Nat.le_of_ble_eq_true rfl) (Nat.le_of_ble_eq_true rfl) dX6_init_61 (fun q5 fq5 => ?_)
  refine fp_X6_33 hC hin (kNew fq5 t5.2.1 (by decide)) dX6_init_63 ?_
  refine J_inv (A := fun T => NW y S (fun i => if i = 3 then 50 else if i = 2 then 600 else hI S i y) 16 T) (t5.step 15 q5 rfl (fun i h1 h2 h3 => by omega) fq5) (fun T6 t6 => ?_)
  refine J_aload_n 0 hC dX6_init_66 rfl rfl ?_
  refine J_bipush (v := 20) hC dX6_init_67 (by decide) ?_
  refine J_newI (lab := 23) (N := 20) hC rfl (mG 111 (by decide +kernel) rfl) (by decide) (by decide) (by decide) (Nat.le_of_ble_eq_true rfl) (Nat.le_of_ble_eq_true rfl) dX6_init_69 (fun q6 fq6 => ?_)
  refine fp_X6_36 hC hin (kNew fq6 t6.2.1 (by decide)) dX6_init_71 ?_
  refine J_inv (A := fun T => NW y S (fun i => if i = 3 then 50 else if i = 2 then 600 else hI S i y) 17 T) (t6.step 16 q6 rfl (fun i h1 h2 h3 => by omega) fq6) (fun T7 t7 => ?_)
  refine J_aload_n 0 hC dX6_init_74 rfl rfl ?_
  refine J_bipush (v := 20) hC dX6_init_75 (by decide) ?_
  refine J_newI (lab := 24) (N := 20) hC rfl (mG 111 (by decide +kernel) rfl) (by decide) (by decide) (by decide) (Nat.le_of_ble_eq_true rfl) (Nat.le_of_ble_eq_true rfl) dX6_init_77 (fun q7 fq7 => ?_)
  refine fp_X6_39 hC hin (kNew fq7 t7.2.1 (by decide)) dX6_init_79 ?_
  refine J_inv (A := fun T => NW y S (fun i => if i = 3 then 50 else if i = 2 then 600 else hI S i y) 18 T) (t7.step 17 q7 rfl (fun i h1 h2 h3 => by omega) fq7) (fun T8 t8 => ?_)
  refine J_aload_n 0 hC dX6_init_82 rfl rfl ?_
  refine J_bipush (v := 20) hC dX6_init_83 (by decide) ?_
  refine J_newI (lab := 25) (N := 20) hC rfl (mG 111 (by decide +kernel) rfl) (by decide) (by decide) (by decide) (Nat.le_of_ble_eq_true rfl) (Nat.le_of_ble_eq_true rfl) dX6_init_85 (fun q8 fq8 => ?_)
  refine fp_X6_42 hC hin (kNew fq8 t8.2.1 (by decide)) dX6_init_87 ?_
  refine J_inv (A := fun T => NW y S (fun i => if i = 3 then 50 else if i = 2 then 600 else hI S i y) 19 T) (t8.step 18 q8 rfl (fun i h1 h2 h3 => by omega) fq8) (fun T9 t9 => ?_)
  refine J_aload_n 0 hC dX6_init_90 rfl rfl ?_
  refine J_bipush (v := 20) hC dX6_init_91 (by decide) ?_
  refine J_newI (lab := 26) (N := 20) hC rfl (mG 111 (by decide +kernel) rfl) (by decide) (by decide) (by decide) (Nat.le_of_ble_eq_true rfl) (Nat.le_of_ble_eq_true rfl) dX6_init_93 (fun q9 fq9 => ?_)
  refine fp_X6_45 hC hin (kNew fq9 t9.2.1 (by decide)) dX6_init_95 ?_
  refine J_inv (A := fun T => NW y S (fun i => if i = 3 then 50 else if i = 2 then 600 else hI S i y) 20 T) (t9.step 19 q9 rfl (fun i h1 h2 h3 => by omega) fq9) (fun T10 t10 => ?_)
  refine J_aload_n 0 hC dX6_init_98 rfl rfl ?_
  refine J_bipush (v := 20) hC dX6_init_99 (by decide) ?_
  refine J_newI (lab := 27) (N := 20) hC rfl (mG 111 (by decide +kernel) rfl) (by decide) (by decide) (by decide) (Nat.le_of_ble_eq_true rfl) (Nat.le_of_ble_eq_true rfl) dX6_init_101 (fun q10 fq10 => ?_)
  refine fp_X6_48 hC hin (kNew fq10 t10.2.1 (by decide)) dX6_init_103 ?_
  refine J_inv (A := fun T => NW y S (fun i => if i = 3 then 50 else if i = 2 then 600 else hI S i y) 21 T) (t10.step 20 q10 rfl (fun i h1 h2 h3 => by omega) fq10) (fun T11 t11 => ?_)
  refine J_aload_n 0 hC dX6_init_106 rfl rfl ?_
  refine J_sipush (v := 18000) hC dX6_init_107 (by decide) ?_
  refine J_newI (lab := 28) (N := 18000) hC rfl (mG 111 (by decide +kernel) rfl) (by decide) (by decide) (by decide) (Nat.le_of_ble_eq_true rfl) (Nat.le_of_ble_eq_true rfl) dX6_init_110 (fun q11 fq11 => ?_)
  refine fp_X6_51 hC hin (kNew fq11 t11.2.1 (by decide)) dX6_init_112 ?_
  refine J_inv (A := fun T => NW y S (fun i => if i = 3 then 50 else if i = 2 then 600 else hI S i y) 23 T) (t11.step 22 q11 rfl (fun i h1 h2 h3 => mIn_gap22 h1 h2 h3) fq11) (fun T12 t12 => ?_)
  refine J_aload_n 0 hC dX6_init_115 rfl rfl ?_
  refine J_sipush (v := 18000) hC dX6_init_116 (by decide) ?_
  refine J_newI (lab := 29) (N := 18000) hC rfl (mG 111 (by decide +kernel) rfl) (by decide) (by decide) (by decide) (Nat.le_of_ble_eq_true rfl) (Nat.le_of_ble_eq_true rfl) dX6_init_119 (fun q12 fq12 => ?_)
  refine fp_X6_54 hC hin (kNew fq12 t12.2.1 (by decide)) dX6_init_121 ?_
  refine J_inv (A := fun T => NW y S (fun i => if i = 3 then 50 else if i = 2 then 600 else hI S i y) 24 T) (t12.step 23 q12 rfl (fun i h1 h2 h3 => by omega) fq12) (fun T13 t13 => ?_)
  refine J_aload_n 0 hC dX6_init_124 rfl rfl ?_
  refine J_bipush (v := 80) hC dX6_init_125 (by decide) ?_
  refine J_newI (lab := 30) (N := 80) hC rfl (mG 111 (by decide +kernel) rfl) (by decide) (by decide) (by decide) (Nat.le_of_ble_eq_true rfl) (Nat.le_of_ble_eq_true rfl) dX6_init_127 (fun q13 fq13 => ?_)
  refine fp_X6_57 hC hin (kNew fq13 t13.2.1 (by decide)) dX6_init_129 ?_
  refine J_inv (A := fun T => NW y S (fun i => if i = 3 then 50 else if i = 2 then 600 else hI S i y) 26 T) (t13.step 25 q13 rfl (fun i h1 h2 h3 => mIn_gap25 h1 h2 h3) fq13) (fun T14 t14 => ?_)
  exact J_vretI hC dX6_init_132 (Nat.le_of_ble_eq_true rfl) (Nat.le_of_ble_eq_true rfl) (t14.done (by decide) (fun i => by unfold mI0; rw [hz i]) h0)
