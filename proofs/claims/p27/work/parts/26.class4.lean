/-! settlePlan: printed by wip/p27/class4.py -/
set_option maxHeartbeats 4000000 in
set_option maxRecDepth 100000 in
/-- settlePlan, where the plan stands -/
theorem c_settle_s {G : JG} (S : HS) (x n : Nat) (A : Nat → Nat → Nat) (hs : Shp G x A n S) (hf : ¬ hI S 1 (A 0 7) = 0) : Ct G yX5_settlePlan cX5_settlePlan 3 none 7 260 0 0 [.ref x] S (rV (fun S' => S' = S)) noX := by
  refine Ct.of (by decide) (Nat.le_of_ble_eq_true rfl) (fun X hC hT hin => ?_)
  refine J_aload_n 0 hC dX5_settlePlan_0 rfl rfl ?_
  refine fg_X5_42 hC hs.kx hs.pp dX5_settlePlan_1 ?_
  refine fg_X5_116 hC hs.kp dX5_settlePlan_4 ?_
  refine J_if_eq 11 hC dX5_settlePlan_7 (by decide) (fun c7 => absurd c7 hf) (fun c7 => ?_)
  exact J_vretI hC dX5_settlePlan_10 (Nat.le_of_ble_eq_true rfl) (Nat.le_of_ble_eq_true rfl) rfl

set_option maxHeartbeats 4000000 in
set_option maxRecDepth 100000 in
/-- settlePlan, where the plan doesn't stand -/
theorem c_settle_n {G : JG} (S : HS) (x : Nat) (A : Nat → Nat → Nat) (σ : Sg) (hs : Shp G x A (vn σ) S) (hv : Vl x A σ S) (hr : Rng σ) (hoc : OcI A σ S) (hf : hI S 1 (A 0 7) = 0) : Ct G yX5_settlePlan cX5_settlePlan 3 none 7 260 0 0 [.ref x] S (rV (fun S' => FrP S S' ∧ PlOK A σ (plV σ) S' ∧ (∀ k, k < vn σ → hI S' 1 (A 3 k) = 1 ∧ OutOK A σ k S') ∧ hI S' 1 (A 0 7) = 1)) noX := by
  refine Ct.of (by decide) (Nat.le_of_ble_eq_true rfl) (fun X hC hT hin => ?_)
  have hln := hr.ln
  have n20 := hs.n20
  have loop2 : ∀ (m : Nat) (π : Pl) (T : HS), lnV σ - pT π < m → stI A σ S π T → plF σ m π = plV σ → J X G (QQ X G (rV (fun S' => FrP S S' ∧ PlOK A σ (plV σ) S' ∧ (∀ k, k < vn σ → hI S' 1 (A 3 k) = 1 ∧ OutOK A σ k S') ∧ hI S' 1 (A 0 7) = 1)) noX 0 0) 3 0 0 61 [(1, .int (nI (pT π))), (0, .ref x)] [] T := by
    intro m
    induction m with
    | zero => intro π T h; omega
    | succ m ih =>
      intro π T hm hI0 hpl
      have hsT := hI0.1.shp hs hI0.2.1.pnt
      have hvT := hI0.1.vl hs hv
      have h1100 := hI0.2.2.2
      refine J_iload_n 0 hC dX5_settlePlan_61 rfl rfl ?_
      refine J_aload_n 1 hC dX5_settlePlan_62 rfl rfl ?_
      refine fg_X5_21 hC hsT.kx dX5_settlePlan_63 ?_
      refine J_topI (hvT.2.2.1.2.1.trans hln.1) ?_
      refine J_icmp_ge 84 hC dX5_settlePlan_66 (by decide) (fun c66 => ?_) (fun c66 => ?_)
      · refine J_aload_n 1 hC dX5_settlePlan_84 rfl rfl ?_
        refine fg_X5_42 hC hsT.kx hsT.pp dX5_settlePlan_85 ?_
        refine J_iconst (v := 1) hC dX5_settlePlan_88 (by decide) ?_
        refine fp_X5_116 hC hsT.kp ⟨rfl, rfl⟩ dX5_settlePlan_89 ?_
        refine J_vretI hC dX5_settlePlan_92 (Nat.le_of_ble_eq_true rfl) (Nat.le_of_ble_eq_true rfl) ?_
        have hge : ¬ pT π < lnV σ := fun q => absurd c66 (nI_ge q (by omega))
        rw [plF, if_neg hge] at hpl
        obtain ⟨f1, f2, f3, -⟩ := hI0
        subst hpl
        have np : ∀ {k}, k < vn σ → A 3 k ≠ A 0 7 := fun hk => hK_ne (hsT.ko hk) hsT.kp (by decide)
        refine ⟨f1.trans ⟨fun _ => Eq.refl _, fun _ => Eq.refl _, fun _ _ => Eq.refl _, fun _ _ _ => Eq.refl _, fun j a _ q2 _ => hI_na (fun z => q2 (by rw [z]; exact hsT.kp)), fun _ _ _ _ => Eq.refl _⟩, ⟨⟨f2.1.1, f2.1.2.1, fun k hk => (hI_nk (by decide)).trans (f2.1.2.2.1 k hk), (hI_nk (by decide)).trans f2.1.2.2.2⟩, (hI_nk (by decide)).trans f2.2.1, f2.2.2⟩, fun k hk => ⟨(hI_na (np hk)).trans (f3 k hk).1, fun j a b => (hI_na (np hk)).trans ((f3 k hk).2.1 j a b), (f3 k hk).2.2⟩, hI_same _ _ _ _⟩
      · have hlt : pT π < lnV σ := Nat.not_le.mp (fun q => c66 (nI_le q (by omega)))
        rw [plF, if_pos hlt] at hpl
        refine J_iload_n 0 hC dX5_settlePlan_69 rfl rfl ?_
        refine J_iconst (v := 1) hC dX5_settlePlan_70 (by decide) ?_
        refine J_iadd hC dX5_settlePlan_71 ?_
        refine J_aload_n 1 hC dX5_settlePlan_72 rfl rfl ?_
        refine J_iload_n 0 hC dX5_settlePlan_73 rfl rfl ?_
        refine cl_X5_273 hC (c_takeBest T x A σ hsT hvT hr (fun k hk => (hI0.2.2.1 k hk).2.2) (pF π) (pU π) hI0.2.1.1 (nI (pT π))) hsT.kx (Nat.le_of_ble_eq_true rfl) ⟨⟨Nat.le_of_ble_eq_true rfl, Nat.le_of_ble_eq_true rfl⟩, Nat.le_of_ble_eq_true rfl, Nat.le_of_ble_eq_true rfl⟩ dX5_settlePlan_74 (fun r74 S74 e74 => ?_)
        have hst := st_step hs hv hr hI0 hlt e74
        have h11 := hst.1.2.2.2
        refine cl_X5_276 hC (c_J9_max_7cf53 _ _ _) (Nat.le_of_ble_eq_true rfl) ⟨⟨Nat.le_of_ble_eq_true rfl, Nat.le_of_ble_eq_true rfl⟩, Nat.le_of_ble_eq_true rfl, Nat.le_of_ble_eq_true rfl⟩ dX5_settlePlan_77 (fun r77 S77 e77 => ?_)
        obtain ⟨rfl, e77⟩ := e77
        subst S77
        refine J_topI hst.2.1 ?_
        refine J_istore_n (lv' := [(1, _), (0, _)]) hC dX5_settlePlan_80 rfl (by decide) rfl ?_
        refine J_goto 61 hC dX5_settlePlan_81 (by decide) ?_
        exact J_re [0, 1] rfl (ih (stV σ π) S74 (by have := hst.2.2; omega) hst.1 hpl)
  have loop1 : ∀ (m i : Nat) (T : HS), vn σ - i < m → i ≤ vn σ → svI A σ S i T → J X G (QQ X G (rV (fun S' => FrP S S' ∧ PlOK A σ (plV σ) S' ∧ (∀ k, k < vn σ → hI S' 1 (A 3 k) = 1 ∧ OutOK A σ k S') ∧ hI S' 1 (A 0 7) = 1)) noX 0 0) 3 0 0 20 [(1, .int (nI i)), (0, .ref x)] [] T := by
    intro m
    induction m with
    | zero => intro i T h; omega
    | succ m ih =>
      intro i T hm hi hI0
      have hsT := hI0.1.shp hs (fun q e => by rw [hI0.2.1] at e; cases e)
      have hvT := hI0.1.vl hs hv
      refine J_iload_n 0 hC dX5_settlePlan_20 rfl rfl ?_
      refine J_aload_n 1 hC dX5_settlePlan_21 rfl rfl ?_
      refine fg_X5_35 hC hsT.kx hsT.pl dX5_settlePlan_22 ?_
      refine cl_X5_102 hC (c_size _ (A 0 5) hsT.kl) hsT.kl (Nat.le_of_ble_eq_true rfl) ⟨⟨Nat.le_of_ble_eq_true rfl, Nat.le_of_ble_eq_true rfl⟩, Nat.le_of_ble_eq_true rfl, Nat.le_of_ble_eq_true rfl⟩ dX5_settlePlan_25 (fun r25 S25 e25 => ?_)
      obtain ⟨rfl, e25⟩ := e25
      subst S25
      refine J_topI hvT.2.2.2.2.1 ?_
      refine J_icmp_ge 59 hC dX5_settlePlan_28 (by decide) (fun c28 => ?_) (fun c28 => ?_)
      · have e1 : i = vn σ := Nat.le_antisymm hi (Nat.not_lt.mp (fun q => absurd c28 (nI_ge q (by omega))))
        subst e1
        refine J_iconst (v := 0) hC dX5_settlePlan_59 (by decide) ?_
        refine J_istore_n (lv' := [(1, _), (0, _)]) hC dX5_settlePlan_60 rfl (by decide) rfl ?_
        exact J_re [0, 1] rfl (loop2 (lnV σ + 1) π0 T (by show lnV σ - 0 < lnV σ + 1; omega) (sv_done hI0) rfl)
      · have hlt : i < vn σ := Nat.not_le.mp (fun q => c28 (nI_le q (by omega)))
        refine J_aload_n 1 hC dX5_settlePlan_31 rfl rfl ?_
        refine fg_X5_35 hC hsT.kx hsT.pl dX5_settlePlan_32 ?_
        refine J_iload_n 0 hC dX5_settlePlan_35 rfl rfl ?_
        refine cl_X5_179 hC (c_get _ (A 0 5) (A 0 6) (vn σ) i (A 1 i) hsT.kl hsT.pe (hsT.ked hlt) hvT.2.2.2.2.1 hlt (hsT.ned hlt) (hsT.ned2 hlt) hsT.n20 (hsT.pg hlt)) hsT.kl (Nat.le_of_ble_eq_true rfl) ⟨⟨Nat.le_of_ble_eq_true rfl, Nat.le_of_ble_eq_true rfl⟩, Nat.le_of_ble_eq_true rfl, Nat.le_of_ble_eq_true rfl⟩ dX5_settlePlan_36 (fun r36 S36 e36 => ?_)
        obtain ⟨rfl, e36⟩ := e36
        subst S36
        refine J_castT hC (hsT.kg hlt) dX5_settlePlan_39 ?_
        refine J_astore_n (lv' := [(2, _), (1, _), (0, _)]) hC dX5_settlePlan_42 rfl (by decide) rfl ?_
        refine J_aload_n 0 hC dX5_settlePlan_43 rfl rfl ?_
        refine J_iconst (v := 0) hC dX5_settlePlan_44 (by decide) ?_
        refine fp_X5_270 hC (hsT.kg hlt) ⟨rfl, rfl⟩ dX5_settlePlan_45 ?_
        have hm1 := mark_step hsT hlt hI0
        have hs1 := hm1.1.shp hs (fun q e => by rw [hm1.2.1] at e; cases e)
        have hv1 := hm1.1.vl hs hv
        rcases hm1.2.2.2.2.2.2 i hlt with hz | hz
        · refine J_aload_n 2 hC dX5_settlePlan_48 rfl rfl ?_
          refine J_aload_n 0 hC dX5_settlePlan_49 rfl rfl ?_
          refine cl_X5_167 hC (c_survey_n _ x A σ hs1 hv1 hr i hlt hz) hsT.kx (Nat.le_of_ble_eq_true rfl) ⟨⟨Nat.le_of_ble_eq_true rfl, Nat.le_of_ble_eq_true rfl⟩, Nat.le_of_ble_eq_true rfl, Nat.le_of_ble_eq_true rfl⟩ dX5_settlePlan_50 (fun S50 e50 => ?_)
          obtain ⟨I', V', rfl, g1, g2, g3, g4, g5⟩ := e50
          have hI1 := survey_step hs1 hlt hm1 g1 g2 g3 g4 g5
          refine J_iinc (lv' := [(1, _), (2, _), (0, _)]) 1 hC dX5_settlePlan_53 rfl (nI_1 i) (by decide) rfl ?_
          refine J_goto 20 hC dX5_settlePlan_56 (by decide) ?_
          exact J_re [0, 2] rfl (ih (i + 1) _ (by omega) (by omega) hI1)
        · refine J_aload_n 2 hC dX5_settlePlan_48 rfl rfl ?_
          refine J_aload_n 0 hC dX5_settlePlan_49 rfl rfl ?_
          refine cl_X5_167 hC (c_survey_s _ x (vn σ) A hs1 i hlt (by rw [hz.1]; decide)) hsT.kx (Nat.le_of_ble_eq_true rfl) ⟨⟨Nat.le_of_ble_eq_true rfl, Nat.le_of_ble_eq_true rfl⟩, Nat.le_of_ble_eq_true rfl, Nat.le_of_ble_eq_true rfl⟩ dX5_settlePlan_50 (fun S50 e50 => ?_)
          subst S50
          have hI1 : svI A σ S (i + 1) (sI T 11 (A 1 i) 0) := ⟨hm1.1, hm1.2.1, hm1.2.2.1, hm1.2.2.2.1, fun k hk => by by_cases e : k = i; subst e; exact ⟨hm1.2.2.2.2.2.1, hz.1⟩; exact hm1.2.2.2.2.1 k (by omega), hm1.2.2.2.2.2.2⟩
          refine J_iinc (lv' := [(1, _), (2, _), (0, _)]) 1 hC dX5_settlePlan_53 rfl (nI_1 i) (by decide) rfl ?_
          refine J_goto 20 hC dX5_settlePlan_56 (by decide) ?_
          exact J_re [0, 2] rfl (ih (i + 1) _ (by omega) (by omega) hI1)
  refine J_aload_n 0 hC dX5_settlePlan_0 rfl rfl ?_
  refine fg_X5_42 hC hs.kx hs.pp dX5_settlePlan_1 ?_
  refine fg_X5_116 hC hs.kp dX5_settlePlan_4 ?_
  refine J_if_eq 11 hC dX5_settlePlan_7 (by decide) (fun c7 => ?_) (fun c7 => absurd hf c7)
  refine J_aload_n 0 hC dX5_settlePlan_11 rfl rfl ?_
  refine fg_X5_42 hC hs.kx hs.pp dX5_settlePlan_12 ?_
  refine cl_X5_269 hC (c_X2_clear S (A 0 7) hs.kp) hs.kp (Nat.le_of_ble_eq_true rfl) ⟨⟨Nat.le_of_ble_eq_true rfl, Nat.le_of_ble_eq_true rfl⟩, Nat.le_of_ble_eq_true rfl, Nat.le_of_ble_eq_true rfl⟩ dX5_settlePlan_15 (fun S15 e15 => ?_)
  subst S15
  refine J_iconst (v := 0) hC dX5_settlePlan_18 (by decide) ?_
  refine J_istore_n (lv' := [(1, _), (0, _)]) hC dX5_settlePlan_19 rfl (by decide) rfl ?_
  refine J_re [0, 1] rfl (loop1 (vn σ + 1) 0 _ (by omega) (by omega) ?_)
  have np : ∀ {k}, k < vn σ → A 3 k ≠ A 0 7 := fun hk => hK_ne (hs.ko hk) hs.kp (by decide)
  have eS : ∀ j a, hI (sP (sI (sI S 2 (A 0 7) 0) 3 (A 0 7) 0) 4 (A 0 7) none) j a = hI (sI (sI S 2 (A 0 7) 0) 3 (A 0 7) 0) j a := fun _ _ => rfl
  refine ⟨clear_frp hs, hP_same _ _ _ _, (eS _ _).trans ((hI_nk (by decide)).trans (hI_same _ _ _ _)), (eS _ _).trans (hI_same _ _ _ _), fun k hk => absurd hk (Nat.not_lt_zero k), fun k hk => ?_⟩
  rcases hoc k hk with q | ⟨q1, q2, q3⟩
  · exact Or.inl ((eS _ _).trans ((hI_nk (by decide)).trans ((hI_nk (by decide)).trans q)))
  · exact Or.inr ⟨(eS _ _).trans ((hI_nk (by decide)).trans ((hI_nk (by decide)).trans q1)), fun j a b => (eS _ _).trans ((hI_na (np hk)).trans ((hI_na (np hk)).trans (q2 j a b))), q3⟩
