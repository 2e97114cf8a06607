/-! the model's public methods, the second: printed by wip/whole/model6.py -/
set_option maxHeartbeats 4000000 in
set_option maxRecDepth 100000 in
/-- isOpen -/
theorem c_X6_isOpen {G : JG} (S : HS) (y : Nat) (B : Nat → Nat) (σ : Sg) (h : MI y B σ S) (t : Int32) : Ct G yX6_isOpen cX6_isOpen 2 (some .boolean) 10 400 300 2600 [.ref y, .int t] S (rI (fun r S' => (∃ k, k < vn σ ∧ t = nI k ∧ r = opI σ k ∧ MX y B σ S S' 0) ∨ (¬ isTg (vn σ) t ∧ MX y B σ S S' 1))) noX := by
  refine Ct.of (by decide) (Nat.le_of_ble_eq_true rfl) (fun X hC hT hin => ?_)
  obtain ⟨hs, hv, hr, hw⟩ := id h
  have n20 : vn σ ≤ 20 := hr.2.2.2.2.2.2.2.1
  refine J_aload_n 0 hC dX6_isOpen_0 rfl rfl ?_
  refine J_aload_n 0 hC dX6_isOpen_1 rfl rfl ?_
  refine J_iload_n 1 hC dX6_isOpen_2 rfl rfl ?_
  refine cl_X6_162 hC (c_X6_isTarget S y B σ hs hv hr _) hs.ky (Nat.le_of_ble_eq_true rfl) ⟨⟨Nat.le_of_ble_eq_true rfl, Nat.le_of_ble_eq_true rfl⟩, Nat.le_of_ble_eq_true rfl, Nat.le_of_ble_eq_true rfl⟩ dX6_isOpen_3 (fun r3 S3 e3 => ?_)
  obtain ⟨rfl, e3⟩ := e3
  subst S3
  refine J_if_eq 13 hC dX6_isOpen_6 (by decide) (fun c6 => ?_) (fun c6 => ?_)
  · refine J_iconst (v := 1) hC dX6_isOpen_13 (by decide) ?_
    refine fp_X6_60 hC hs.ky dX6_isOpen_14 ?_
    refine J_aload_n 0 hC dX6_isOpen_17 rfl rfl ?_
    refine fg_X6_60 hC (kI hs.ky) dX6_isOpen_18 ?_
    refine J_topI (hI_same _ _ _ _) ?_
    refine J_if_ne 36 hC dX6_isOpen_21 (by decide) (fun c21 => ?_) (fun c21 => absurd c21 (by decide))
    refine J_iconst (v := 0) hC dX6_isOpen_36 (by decide) ?_
    exact J_zretI hC dX6_isOpen_37 rfl (Nat.le_of_ble_eq_true rfl) (Nat.le_of_ble_eq_true rfl) (Or.inr ⟨fun z => bI_eq c6 ((isTg_m n20).mpr z), h.thr, frm_thr FrM.rfl hs, hI_same _ _ _ _⟩)
  · refine J_iconst (v := 0) hC dX6_isOpen_9 (by decide) ?_
    refine J_goto 14 hC dX6_isOpen_10 (by decide) ?_
    refine fp_X6_60 hC hs.ky dX6_isOpen_14 ?_
    refine J_aload_n 0 hC dX6_isOpen_17 rfl rfl ?_
    refine fg_X6_60 hC (kI hs.ky) dX6_isOpen_18 ?_
    refine J_topI (hI_same _ _ _ _) ?_
    refine J_if_ne 36 hC dX6_isOpen_21 (by decide) (fun c21 => absurd rfl c21) (fun c21 => ?_)
    obtain ⟨k, hk, rfl⟩ := (isTg_m n20).mp (bI_ne c6)
    refine J_aload_n 0 hC dX6_isOpen_24 rfl rfl ?_
    refine J_iload_n 1 hC dX6_isOpen_25 rfl rfl ?_
    refine cl_X6_136 hC (c_X6_isOpenNow _ y B σ hs.sI (hv.sI (Or.inl rfl)) hr k hk) (kI hs.ky) (Nat.le_of_ble_eq_true rfl) ⟨⟨Nat.le_of_ble_eq_true rfl, Nat.le_of_ble_eq_true rfl⟩, Nat.le_of_ble_eq_true rfl, Nat.le_of_ble_eq_true rfl⟩ dX6_isOpen_26 (fun r26 S26 e26 => ?_)
    obtain ⟨rfl, e26⟩ := e26
    subst S26
    refine J_if_eq 36 hC dX6_isOpen_29 (by decide) (fun c29 => ?_) (fun c29 => ?_)
    · refine J_iconst (v := 0) hC dX6_isOpen_36 (by decide) ?_
      exact J_zretI hC dX6_isOpen_37 rfl (Nat.le_of_ble_eq_true rfl) (Nat.le_of_ble_eq_true rfl) (Or.inl ⟨k, hk, rfl, c29.symm, mx_0 h⟩)
    · refine J_iconst (v := 1) hC dX6_isOpen_32 (by decide) ?_
      refine J_goto 37 hC dX6_isOpen_33 (by decide) ?_
      exact J_zretI hC dX6_isOpen_37 rfl (Nat.le_of_ble_eq_true rfl) (Nat.le_of_ble_eq_true rfl) (Or.inl ⟨k, hk, rfl, (opI1 c29).symm, mx_0 h⟩)

set_option maxHeartbeats 4000000 in
set_option maxRecDepth 100000 in
/-- count -/
theorem c_X6_count {G : JG} (S : HS) (y : Nat) (B : Nat → Nat) (σ : Sg) (h : MI y B σ S) (w : Int32) : Ct G yX6_count cX6_count 4 (some .int) 10 400 300 2600 [.ref y, .int w] S (rI (fun r S' => (∃ j, j < 4 ∧ w = nI j ∧ r = cnV σ j (vn σ) ∧ MX y B σ S S' 0) ∨ (¬ (0 ≤ w ∧ w < 4) ∧ MX y B σ S S' 1))) noX := by
  refine Ct.of (by decide) (Nat.le_of_ble_eq_true rfl) (fun X hC hT hin => ?_)
  obtain ⟨hs, hv, hr, hw⟩ := id h
  have n20 : vn σ ≤ 20 := hr.2.2.2.2.2.2.2.1
  have h1 := h.thr (v := 0)
  have hs1 := h1.1
  have hv1 := h1.2.1
  have loop : ∀ (j : Nat), j < 4 → ∀ (m i : Nat), vn σ - i < m → i ≤ vn σ → w = nI j → J X G (QQ X G (rI (fun r S' => (∃ j, j < 4 ∧ w = nI j ∧ r = cnV σ j (vn σ) ∧ MX y B σ S S' 0) ∨ (¬ (0 ≤ w ∧ w < 4) ∧ MX y B σ S S' 1))) noX 300 2600) 4 0 0 24 [(3, .int (nI i)), (2, .int (cnV σ j i)), (0, .ref y), (1, .int (nI j))] [] (sI S 0 y 0) := by
    intro j hj m
    induction m with
    | zero => intro i h; omega
    | succ m ih =>
    intro i hm hi hw4
    refine J_iload_n 0 hC dX6_count_24 rfl rfl ?_
    refine J_aload_n 2 hC dX6_count_25 rfl rfl ?_
    refine fg_X6_63 hC hs1.ky dX6_count_26 ?_
    refine J_topI hv1.1.2.2.2.2.2.2.2.2 ?_
    refine J_icmp_ge 104 hC dX6_count_29 (by decide) (fun c29 => ?_) (fun c29 => ?_)
    · refine J_iload_n 1 hC dX6_count_104 rfl rfl ?_
      refine J_iretI hC dX6_count_105 (Nat.le_of_ble_eq_true rfl) (Nat.le_of_ble_eq_true rfl) ?_
      have e : i = vn σ := Nat.le_antisymm hi (Nat.not_lt.mp (fun q => absurd c29 (nI_ge q (by omega))))
      subst e
      exact Or.inl ⟨j, hj, hw4, rfl, mx_0 h⟩
    · have hlt : i < vn σ := Nat.not_le.mp (fun q => c29 (nI_le q (by omega)))
      have c96 : J X G (QQ X G (rI (fun r S' => (∃ j, j < 4 ∧ w = nI j ∧ r = cnV σ j (vn σ) ∧ MX y B σ S S' 0) ∨ (¬ (0 ≤ w ∧ w < 4) ∧ MX y B σ S S' 1))) noX 300 2600) 4 0 0 96 [(3, .int (nI i)), (2, .int (cnV σ j i)), (0, .ref y), (1, .int (nI j))] [.int (shV σ i j), .int (cnV σ j i)] (sI S 0 y 0) := by
        refine J_iadd hC dX6_count_96 ?_
        refine J_istore_n (lv' := [(2, _), (3, _), (0, _), (1, _)]) hC dX6_count_97 rfl (by decide) rfl ?_
        refine J_iinc (lv' := [(3, _), (2, _), (0, _), (1, _)]) 1 hC dX6_count_98 rfl (nI_1 i) (by decide) rfl ?_
        refine J_goto 24 hC dX6_count_101 (by decide) ?_
        exact J_re [0, 1, 2, 3] rfl (ih (i + 1) (by omega) (by omega) hw4)
      refine J_iload_n 1 hC dX6_count_32 rfl rfl ?_
      refine J_iload_n 3 hC dX6_count_33 rfl rfl ?_
      refine J_if_ne 41 hC dX6_count_34 (by decide) (fun c34 => ?_) (fun c34 => ?_)
      · refine J_iload_n 3 hC dX6_count_41 rfl rfl ?_
        refine J_iconst (v := 1) hC dX6_count_42 (by decide) ?_
        refine J_icmp_ne 62 hC dX6_count_43 (by decide) (fun c43 => ?_) (fun c43 => ?_)
        · refine J_iload_n 3 hC dX6_count_62 rfl rfl ?_
          refine J_iconst (v := 2) hC dX6_count_63 (by decide) ?_
          refine J_icmp_ne 90 hC dX6_count_64 (by decide) (fun c64 => ?_) (fun c64 => ?_)
          · refine J_aload_n 2 hC dX6_count_90 rfl rfl ?_
            refine fg_X6_45 hC hs1.ky (hs1.p 19 rfl) dX6_count_91 ?_
            refine J_iload_n 0 hC dX6_count_94 rfl rfl ?_
            refine J_iald hC (hs1.k 19 rfl) rfl (inN (hs1.n 19 rfl) (vp_in_nI (show i < 20 by have := hr.2.2.2.2.2.2.2.1; omega) (by decide))) dX6_count_95 ?_
            refine J_topI (show _ = vt σ i 8 by rw [nI_clamp (show i < 2147483648 by have := hr.2.2.2.2.2.2.2.1; omega)]; exact hv1.t hlt (show 8 < 10 by decide)) ?_
            refine J_topI (show (vt σ i 8 : Int32) = shV σ i j by unfold shV; rw [if_neg (fun z => c34 (by rw [z]; rfl)), if_neg (fun z => c43 (by rw [z]; rfl)), if_neg (fun z => c64 (by rw [z]; rfl))]) ?_
            exact J_re [0, 1, 2, 3] rfl c96
          · refine J_aload_n 2 hC dX6_count_67 rfl rfl ?_
            refine fg_X6_45 hC hs1.ky (hs1.p 19 rfl) dX6_count_68 ?_
            refine J_iload_n 0 hC dX6_count_71 rfl rfl ?_
            refine J_iald hC (hs1.k 19 rfl) rfl (inN (hs1.n 19 rfl) (vp_in_nI (show i < 20 by have := hr.2.2.2.2.2.2.2.1; omega) (by decide))) dX6_count_72 ?_
            refine J_topI (show _ = vt σ i 8 by rw [nI_clamp (show i < 2147483648 by have := hr.2.2.2.2.2.2.2.1; omega)]; exact hv1.t hlt (show 8 < 10 by decide)) ?_
            refine J_aload_n 2 hC dX6_count_73 rfl rfl ?_
            refine fg_X6_39 hC hs1.ky (hs1.p 17 rfl) dX6_count_74 ?_
            refine J_iload_n 0 hC dX6_count_77 rfl rfl ?_
            refine J_iald hC (hs1.k 17 rfl) rfl (inN (hs1.n 17 rfl) (vp_in_nI (show i < 20 by have := hr.2.2.2.2.2.2.2.1; omega) (by decide))) dX6_count_78 ?_
            refine J_topI (show _ = vt σ i 6 by rw [nI_clamp (show i < 2147483648 by have := hr.2.2.2.2.2.2.2.1; omega)]; exact hv1.t hlt (show 6 < 10 by decide)) ?_
            refine J_icmp_lt 86 hC dX6_count_79 (by decide) (fun c79 => ?_) (fun c79 => ?_)
            · refine J_iconst (v := 0) hC dX6_count_86 (by decide) ?_
              refine J_goto 96 hC dX6_count_87 (by decide) ?_
              refine J_topI (show (0 : Int32) = shV σ i j by unfold shV; rw [if_neg (fun z => c34 (by rw [z]; rfl)), if_neg (fun z => c43 (by rw [z]; rfl)), if_pos (nI_inj (by omega) (by decide) c64)]; exact (if_neg (fun z => absurd c79 (Int32.not_lt.mpr z))).symm) ?_
              exact J_re [0, 1, 2, 3] rfl c96
            · refine J_iconst (v := 1) hC dX6_count_82 (by decide) ?_
              refine J_goto 96 hC dX6_count_83 (by decide) ?_
              refine J_topI (show (1 : Int32) = shV σ i j by unfold shV; rw [if_neg (fun z => c34 (by rw [z]; rfl)), if_neg (fun z => c43 (by rw [z]; rfl)), if_pos (nI_inj (by omega) (by decide) c64)]; exact (if_pos (Int32.not_lt.mp c79)).symm) ?_
              exact J_re [0, 1, 2, 3] rfl c96
        · refine J_aload_n 2 hC dX6_count_46 rfl rfl ?_
          refine J_iload_n 0 hC dX6_count_47 rfl rfl ?_
          refine cl_X6_136 hC (c_X6_isOpenNow _ y B σ hs1 hv1 hr i hlt) hs1.ky (Nat.le_of_ble_eq_true rfl) ⟨⟨Nat.le_of_ble_eq_true rfl, Nat.le_of_ble_eq_true rfl⟩, Nat.le_of_ble_eq_true rfl, Nat.le_of_ble_eq_true rfl⟩ dX6_count_48 (fun r48 S48 e48 => ?_)
          obtain ⟨rfl, e48⟩ := e48
          subst S48
          refine J_if_eq 58 hC dX6_count_51 (by decide) (fun c51 => ?_) (fun c51 => ?_)
          · refine J_iconst (v := 0) hC dX6_count_58 (by decide) ?_
            refine J_goto 96 hC dX6_count_59 (by decide) ?_
            refine J_topI (show (0 : Int32) = shV σ i j by unfold shV; rw [if_neg (fun z => c34 (by rw [z]; rfl)), if_pos (nI_inj (by omega) (by decide) c43)]; exact c51.symm) ?_
            exact J_re [0, 1, 2, 3] rfl c96
          · refine J_iconst (v := 1) hC dX6_count_54 (by decide) ?_
            refine J_goto 96 hC dX6_count_55 (by decide) ?_
            refine J_topI (show (1 : Int32) = shV σ i j by unfold shV; rw [if_neg (fun z => c34 (by rw [z]; rfl)), if_pos (nI_inj (by omega) (by decide) c43)]; exact (opI1 c51).symm) ?_
            exact J_re [0, 1, 2, 3] rfl c96
      · refine J_iconst (v := 1) hC dX6_count_37 (by decide) ?_
        refine J_goto 96 hC dX6_count_38 (by decide) ?_
        refine J_topI (show (1 : Int32) = shV σ i j by unfold shV; rw [if_pos (nI_inj (by omega) (by decide) c34)]) ?_
        exact J_re [0, 1, 2, 3] rfl c96
  refine J_aload_n 0 hC dX6_count_0 rfl rfl ?_
  refine J_iconst (v := 0) hC dX6_count_1 (by decide) ?_
  refine fp_X6_60 hC hs.ky dX6_count_2 ?_
  refine J_iload_n 1 hC dX6_count_5 rfl rfl ?_
  refine J_iconst (v := 0) hC dX6_count_6 (by decide) ?_
  refine J_iconst (v := 3) hC dX6_count_7 (by decide) ?_
  refine cl_X6_66 hC (c_X6_isIn _ _ _ _) (Nat.le_of_ble_eq_true rfl) ⟨⟨Nat.le_of_ble_eq_true rfl, Nat.le_of_ble_eq_true rfl⟩, Nat.le_of_ble_eq_true rfl, Nat.le_of_ble_eq_true rfl⟩ dX6_count_8 (fun r8 S8 e8 => ?_)
  obtain ⟨rfl, e8⟩ := e8
  subst S8
  refine J_if_ne 20 hC dX6_count_11 (by decide) (fun c11 => ?_) (fun c11 => ?_)
  · obtain ⟨j, hj, rfl⟩ := (isTg_m (n := 4) (by decide)).mp (bI_ne c11)
    refine J_iconst (v := 0) hC dX6_count_20 (by decide) ?_
    refine J_istore_n (lv' := [(2, _), (0, _), (1, _)]) hC dX6_count_21 rfl (by decide) rfl ?_
    refine J_iconst (v := 0) hC dX6_count_22 (by decide) ?_
    refine J_istore_n (lv' := [(3, _), (2, _), (0, _), (1, _)]) hC dX6_count_23 rfl (by decide) rfl ?_
    exact J_re [0, 1, 2, 3] rfl (loop j hj (vn σ + 1) 0 (by omega) (by omega) rfl)
  · refine J_aload_n 0 hC dX6_count_14 rfl rfl ?_
    refine J_iconst (v := 1) hC dX6_count_15 (by decide) ?_
    refine cl_X6_149 hC (c_X6_no _ y _ hs1.ky) hs1.ky (Nat.le_of_ble_eq_true rfl) ⟨⟨Nat.le_of_ble_eq_true rfl, Nat.le_of_ble_eq_true rfl⟩, Nat.le_of_ble_eq_true rfl, Nat.le_of_ble_eq_true rfl⟩ dX6_count_16 (fun r16 S16 e16 => ?_)
    obtain ⟨rfl, e16⟩ := e16
    subst S16
    exact J_iretI hC dX6_count_19 (Nat.le_of_ble_eq_true rfl) (Nat.le_of_ble_eq_true rfl) (Or.inr ⟨fun z => bI_eq c11 ((isTg_m (n := 4) (by decide)).mpr ((isTg_iff (n := 4) (by decide)).mpr z)), mx_no h⟩)

set_option maxHeartbeats 4000000 in
set_option maxRecDepth 100000 in
/-- visits -/
theorem c_X6_visits {G : JG} (S : HS) (y : Nat) (B : Nat → Nat) (σ : Sg) (h : MI y B σ S) : Ct G yX6_visits cX6_visits 1 (some .int) 10 400 300 2600 [.ref y] S (rI (fun r S' => r = nI (pS σ (plV σ)) ∧ MX y B σ S S' 0)) noX := by
  refine Ct.of (by decide) (Nat.le_of_ble_eq_true rfl) (fun X hC hT hin => ?_)
  obtain ⟨hs, hv, hr, hw⟩ := id h
  have n20 : vn σ ≤ 20 := hr.2.2.2.2.2.2.2.1
  have h1 := h.thr (v := 0)
  have hs1 := h1.1
  have hv1 := h1.2.1
  refine J_aload_n 0 hC dX6_visits_0 rfl rfl ?_
  refine J_iconst (v := 0) hC dX6_visits_1 (by decide) ?_
  refine fp_X6_60 hC hs.ky dX6_visits_2 ?_
  refine J_aload_n 0 hC dX6_visits_5 rfl rfl ?_
  refine cl_X6_168 hC (c_workOut _ y B σ h1) hs1.ky (Nat.le_of_ble_eq_true rfl) ⟨⟨Nat.le_of_ble_eq_true rfl, Nat.le_of_ble_eq_true rfl⟩, Nat.le_of_ble_eq_true rfl, Nat.le_of_ble_eq_true rfl⟩ dX6_visits_6 (fun S6 e6 => ?_)
  obtain ⟨a1, a2, a3, a4, a5⟩ := e6
  have hs2 := a1.1
  have hv2 := a1.2.1
  have fr2 : FrM S S6 := (mx_0 h).2.1.trans a2
  have z2 : hI S6 0 y = 0 := a3.trans (hI_same _ _ _ _)
  have hps : pS σ (plV σ) ≤ 20 := Nat.le_trans (ctU_le _ _) n20
  refine J_aload_n 0 hC dX6_visits_9 rfl rfl ?_
  refine fg_X6_133 hC hs2.ky dX6_visits_10 ?_
  refine J_topI a5.2.1 ?_
  exact J_iretI hC dX6_visits_13 (Nat.le_of_ble_eq_true rfl) (Nat.le_of_ble_eq_true rfl) ⟨rfl, a1, fr2, z2⟩

set_option maxHeartbeats 4000000 in
set_option maxRecDepth 100000 in
/-- visit -/
theorem c_X6_visit {G : JG} (S : HS) (y : Nat) (B : Nat → Nat) (σ : Sg) (h : MI y B σ S) (i w : Int32) : Ct G yX6_visit cX6_visit 3 (some .int) 10 400 300 2600 [.ref y, .int i, .int w] S (rI (fun r S' => (∃ k j, k < pS σ (plV σ) ∧ j < 4 ∧ i = nI k ∧ w = nI j ∧ r = pR (plV σ) k j ∧ MX y B σ S S' 0) ∨ (¬ (isTg (pS σ (plV σ)) i ∧ 0 ≤ w ∧ w < 4) ∧ MX y B σ S S' 1))) noX := by
  refine Ct.of (by decide) (Nat.le_of_ble_eq_true rfl) (fun X hC hT hin => ?_)
  obtain ⟨hs, hv, hr, hw⟩ := id h
  have n20 : vn σ ≤ 20 := hr.2.2.2.2.2.2.2.1
  have h1 := h.thr (v := 0)
  have hs1 := h1.1
  have hv1 := h1.2.1
  refine J_aload_n 0 hC dX6_visit_0 rfl rfl ?_
  refine J_iconst (v := 0) hC dX6_visit_1 (by decide) ?_
  refine fp_X6_60 hC hs.ky dX6_visit_2 ?_
  refine J_aload_n 0 hC dX6_visit_5 rfl rfl ?_
  refine cl_X6_168 hC (c_workOut _ y B σ h1) hs1.ky (Nat.le_of_ble_eq_true rfl) ⟨⟨Nat.le_of_ble_eq_true rfl, Nat.le_of_ble_eq_true rfl⟩, Nat.le_of_ble_eq_true rfl, Nat.le_of_ble_eq_true rfl⟩ dX6_visit_6 (fun S6 e6 => ?_)
  obtain ⟨a1, a2, a3, a4, a5⟩ := e6
  have hs2 := a1.1
  have hv2 := a1.2.1
  have fr2 : FrM S S6 := (mx_0 h).2.1.trans a2
  have z2 : hI S6 0 y = 0 := a3.trans (hI_same _ _ _ _)
  have hps : pS σ (plV σ) ≤ 20 := Nat.le_trans (ctU_le _ _) n20
  refine J_iload_n 1 hC dX6_visit_9 rfl rfl ?_
  refine J_iconst (v := 0) hC dX6_visit_10 (by decide) ?_
  refine J_aload_n 0 hC dX6_visit_11 rfl rfl ?_
  refine fg_X6_133 hC hs2.ky dX6_visit_12 ?_
  refine J_topI a5.2.1 ?_
  refine J_iconst (v := 1) hC dX6_visit_15 (by decide) ?_
  refine J_isub hC dX6_visit_16 ?_
  refine cl_X6_66 hC (c_X6_isIn _ _ _ _) (Nat.le_of_ble_eq_true rfl) ⟨⟨Nat.le_of_ble_eq_true rfl, Nat.le_of_ble_eq_true rfl⟩, Nat.le_of_ble_eq_true rfl, Nat.le_of_ble_eq_true rfl⟩ dX6_visit_17 (fun r17 S17 e17 => ?_)
  obtain ⟨rfl, e17⟩ := e17
  subst S17
  refine J_if_eq 45 hC dX6_visit_20 (by decide) (fun c20 => ?_) (fun c20 => ?_)
  · refine J_aload_n 0 hC dX6_visit_45 rfl rfl ?_
    refine J_iconst (v := 1) hC dX6_visit_46 (by decide) ?_
    refine cl_X6_149 hC (c_X6_no _ y _ hs2.ky) hs2.ky (Nat.le_of_ble_eq_true rfl) ⟨⟨Nat.le_of_ble_eq_true rfl, Nat.le_of_ble_eq_true rfl⟩, Nat.le_of_ble_eq_true rfl, Nat.le_of_ble_eq_true rfl⟩ dX6_visit_47 (fun r47 S47 e47 => ?_)
    obtain ⟨rfl, e47⟩ := e47
    subst S47
    exact J_iretI hC dX6_visit_50 (Nat.le_of_ble_eq_true rfl) (Nat.le_of_ble_eq_true rfl) (Or.inr ⟨fun z => bI_eq c20 ((isTg_m hps).mpr z.1), a1.thr, frm_thr fr2 hs2, hI_same _ _ _ _⟩)
  · refine J_iload_n 2 hC dX6_visit_23 rfl rfl ?_
    refine J_iconst (v := 0) hC dX6_visit_24 (by decide) ?_
    refine J_iconst (v := 3) hC dX6_visit_25 (by decide) ?_
    refine cl_X6_66 hC (c_X6_isIn _ _ _ _) (Nat.le_of_ble_eq_true rfl) ⟨⟨Nat.le_of_ble_eq_true rfl, Nat.le_of_ble_eq_true rfl⟩, Nat.le_of_ble_eq_true rfl, Nat.le_of_ble_eq_true rfl⟩ dX6_visit_26 (fun r26 S26 e26 => ?_)
    obtain ⟨rfl, e26⟩ := e26
    subst S26
    refine J_if_eq 45 hC dX6_visit_29 (by decide) (fun c29 => ?_) (fun c29 => ?_)
    · refine J_aload_n 0 hC dX6_visit_45 rfl rfl ?_
      refine J_iconst (v := 1) hC dX6_visit_46 (by decide) ?_
      refine cl_X6_149 hC (c_X6_no _ y _ hs2.ky) hs2.ky (Nat.le_of_ble_eq_true rfl) ⟨⟨Nat.le_of_ble_eq_true rfl, Nat.le_of_ble_eq_true rfl⟩, Nat.le_of_ble_eq_true rfl, Nat.le_of_ble_eq_true rfl⟩ dX6_visit_47 (fun r47 S47 e47 => ?_)
      obtain ⟨rfl, e47⟩ := e47
      subst S47
      exact J_iretI hC dX6_visit_50 (Nat.le_of_ble_eq_true rfl) (Nat.le_of_ble_eq_true rfl) (Or.inr ⟨fun z => bI_eq c29 ((isTg_m (n := 4) (by decide)).mpr ((isTg_iff (n := 4) (by decide)).mpr z.2)), a1.thr, frm_thr fr2 hs2, hI_same _ _ _ _⟩)
    · obtain ⟨k, hk, rfl⟩ := (isTg_m hps).mp (bI_ne c20)
      obtain ⟨j, hj, rfl⟩ := (isTg_m (n := 4) (by decide)).mp (bI_ne c29)
      refine J_aload_n 0 hC dX6_visit_32 rfl rfl ?_
      refine fg_X6_57 hC hs2.ky (hs2.p 25 rfl) dX6_visit_33 ?_
      refine J_iconst (v := 4) hC dX6_visit_36 (by decide) ?_
      refine J_iload_n 1 hC dX6_visit_37 rfl rfl ?_
      refine J_imul hC dX6_visit_38 ?_
      refine J_iload_n 2 hC dX6_visit_39 rfl rfl ?_
      refine J_iadd hC dX6_visit_40 ?_
      refine J_topI (show (4 : Int32) * nI k + nI j = nI (4 * k + j) by rw [nI_4, nI_add]) ?_
      refine J_iald hC (hs2.k 25 rfl) rfl (inN (hs2.n 25 rfl) (vp_in_nI (show 4 * k + j < 80 by omega) (by decide))) dX6_visit_41 ?_
      refine J_topI (show _ = pR (plV σ) k j by rw [nI_clamp (by omega)]; exact a5.2.2 k hk j hj) ?_
      refine J_goto 50 hC dX6_visit_42 (by decide) ?_
      exact J_iretI hC dX6_visit_50 (Nat.le_of_ble_eq_true rfl) (Nat.le_of_ble_eq_true rfl) (Or.inl ⟨k, j, hk, hj, rfl, rfl, rfl, a1, fr2, z2⟩)

set_option maxHeartbeats 4000000 in
set_option maxRecDepth 100000 in
/-- use -/
theorem c_X6_use {G : JG} (S : HS) (y : Nat) (B : Nat → Nat) (σ : Sg) (h : MI y B σ S) : Ct G yX6_use cX6_use 3 (some .double) 10 400 300 2600 [.ref y] S (rD (fun r S' => r = FP.ddiv (FP.i2d (pM (plV σ))) (FP.i2d (vg σ 2)) ∧ MX y B σ S S' 0)) noX := by
  refine Ct.of (by decide) (Nat.le_of_ble_eq_true rfl) (fun X hC hT hin => ?_)
  obtain ⟨hs, hv, hr, hw⟩ := id h
  have n20 : vn σ ≤ 20 := hr.2.2.2.2.2.2.2.1
  have h1 := h.thr (v := 0)
  have hs1 := h1.1
  have hv1 := h1.2.1
  have loop : ∀ (S6 : HS), MX y B σ S S6 0 → MW y B σ S6 → ∀ (m i : Nat), pS σ (plV σ) - i < m → i ≤ pS σ (plV σ) → J X G (QQ X G (rD (fun r S' => r = FP.ddiv (FP.i2d (pM (plV σ))) (FP.i2d (vg σ 2)) ∧ MX y B σ S S' 0)) noX 300 2600) 3 21 100 13 [(2, .int (nI i)), (1, .int (smV σ (plV σ) i)), (0, .ref y)] [] S6 := by
    intro S6 hmx a5 m
    have hs2 := hmx.1.1
    have hv2 := hmx.1.2.1
    have hps : pS σ (plV σ) ≤ 20 := Nat.le_trans (ctU_le _ _) n20
    induction m with
    | zero => intro i h; omega
    | succ m ih =>
    intro i hm hi
    refine J_iload_n 0 hC dX6_use_13 rfl rfl ?_
    refine J_aload_n 2 hC dX6_use_14 rfl rfl ?_
    refine fg_X6_133 hC hs2.ky dX6_use_15 ?_
    refine J_topI a5.2.1 ?_
    refine J_icmp_ge 43 hC dX6_use_18 (by decide) (fun c18 => ?_) (fun c18 => ?_)
    · have e : i = pS σ (plV σ) := Nat.le_antisymm hi (Nat.not_lt.mp (fun q => absurd c18 (nI_ge q (by omega))))
      refine J_iload_n 1 hC dX6_use_43 rfl rfl ?_
      refine J_topI (show smV σ (plV σ) i = pM (plV σ) by rw [e]; exact (PW.v hr).2.2.2.symm) ?_
      refine J_i2d hC dX6_use_44 ?_
      refine J_aload_n 2 hC dX6_use_45 rfl rfl ?_
      refine fg_X6_7 hC hs2.ky dX6_use_46 ?_
      refine J_topI hv2.1.2.1 ?_
      refine J_i2d hC dX6_use_49 ?_
      refine J_ddiv hC dX6_use_50 (by exact Jvm.Free.Fl.ddiv_out (Jvm.Free.Fl.i2d_fin _).noNaN (Jvm.Free.Fl.i2d_fin _) (Jvm.Free.Fl.i2d_nz (fun z => absurd hr.2.2.1.1 (by rw [z]; decide)))) ?_
      exact J_dretI hC dX6_use_51 (Nat.le_of_ble_eq_true rfl) (Nat.le_of_ble_eq_true rfl) ⟨rfl, hmx⟩
    · have hlt : i < pS σ (plV σ) := Nat.not_le.mp (fun q => c18 (nI_le q (by omega)))
      obtain ⟨g, hg, hgR, -⟩ := (PW.v hr).1 i hlt
      refine J_iload_n 1 hC dX6_use_21 rfl rfl ?_
      refine J_aload_n 2 hC dX6_use_22 rfl rfl ?_
      refine fg_X6_36 hC hs2.ky (hs2.p 16 rfl) dX6_use_23 ?_
      refine J_aload_n 2 hC dX6_use_26 rfl rfl ?_
      refine fg_X6_57 hC hs2.ky (hs2.p 25 rfl) dX6_use_27 ?_
      refine J_iconst (v := 4) hC dX6_use_30 (by decide) ?_
      refine J_iload_n 0 hC dX6_use_31 rfl rfl ?_
      refine J_imul hC dX6_use_32 ?_
      refine J_topI (show (4 : Int32) * nI i = nI (4 * i + 0) from nI_4 i) ?_
      refine J_iald hC (hs2.k 25 rfl) rfl (inN (hs2.n 25 rfl) (vp_in_nI (show 4 * i + 0 < 80 by omega) (by decide))) dX6_use_33 ?_
      refine J_topI (show _ = nI g by rw [nI_clamp (by omega)]; exact (a5.2.2 i hlt 0 (by decide)).trans hgR) ?_
      refine J_iald hC (hs2.k 16 rfl) rfl (inN (hs2.n 16 rfl) (vp_in_nI (show g < 20 by have := hr.2.2.2.2.2.2.2.1; omega) (by decide))) dX6_use_34 ?_
      refine J_topI (show _ = vt σ g 5 by rw [nI_clamp (show g < 2147483648 by have := hr.2.2.2.2.2.2.2.1; omega)]; exact hv2.t hg (show 5 < 10 by decide)) ?_
      refine J_iadd hC dX6_use_35 ?_
      refine J_topI (show smV σ (plV σ) i + vt σ g 5 = smV σ (plV σ) (i + 1) by rw [smV, hgR, nI_clamp (by omega)]) ?_
      refine J_istore_n (lv' := [(1, _), (2, _), (0, _)]) hC dX6_use_36 rfl (by decide) rfl ?_
      refine J_iinc (lv' := [(2, _), (1, _), (0, _)]) 1 hC dX6_use_37 rfl (nI_1 i) (by decide) rfl ?_
      refine J_goto 13 hC dX6_use_40 (by decide) ?_
      exact J_re [0, 1, 2] rfl (ih (i + 1) (by omega) (by omega))
  refine J_aload_n 0 hC dX6_use_0 rfl rfl ?_
  refine J_iconst (v := 0) hC dX6_use_1 (by decide) ?_
  refine fp_X6_60 hC hs.ky dX6_use_2 ?_
  refine J_aload_n 0 hC dX6_use_5 rfl rfl ?_
  refine cl_X6_168 hC (c_workOut _ y B σ h1) hs1.ky (Nat.le_of_ble_eq_true rfl) ⟨⟨Nat.le_of_ble_eq_true rfl, Nat.le_of_ble_eq_true rfl⟩, Nat.le_of_ble_eq_true rfl, Nat.le_of_ble_eq_true rfl⟩ dX6_use_6 (fun S6 e6 => ?_)
  obtain ⟨a1, a2, a3, a4, a5⟩ := e6
  have hs2 := a1.1
  have hv2 := a1.2.1
  have fr2 : FrM S S6 := (mx_0 h).2.1.trans a2
  have z2 : hI S6 0 y = 0 := a3.trans (hI_same _ _ _ _)
  have hps : pS σ (plV σ) ≤ 20 := Nat.le_trans (ctU_le _ _) n20
  refine J_iconst (v := 0) hC dX6_use_9 (by decide) ?_
  refine J_istore_n (lv' := [(1, _), (0, _)]) hC dX6_use_10 rfl (by decide) rfl ?_
  refine J_iconst (v := 0) hC dX6_use_11 (by decide) ?_
  refine J_istore_n (lv' := [(2, _), (1, _), (0, _)]) hC dX6_use_12 rfl (by decide) rfl ?_
  exact J_re [0, 1, 2] rfl (loop S6 ⟨a1, fr2, z2⟩ a5 (pS σ (plV σ) + 1) 0 (by omega) (by omega))
