/-! workOut: printed by wip/whole/model3.py -/
def WV (B : Nat → Nat) (σ : Sg) (S : HS) (k : Nat) (V : Nat → Nat → Int32) : Prop := (∀ j a, a ≠ B 22 → a ≠ B 23 → V j a = hV S j a) ∧ ∀ k', k' < k → ∀ t, t < lnV σ → V (900 * k' + t) (B 22) = thV σ k' (nI t) ∧ V (900 * k' + t) (B 23) = nI (rnA σ k' t)
def WV2 (B : Nat → Nat) (σ : Sg) (S : HS) (k m : Nat) (V : Nat → Nat → Int32) : Prop := WV B σ S k V ∧ ∀ t, m ≤ t → t < lnV σ → V (900 * k + t) (B 22) = thV σ k (nI t) ∧ V (900 * k + t) (B 23) = nI (rnA σ k t)
theorem WV2.step {B : Nat → Nat} {σ : Sg} {S : HS} {k m : Nat} {V : Nat → Nat → Int32} (h : WV2 B σ S k (m + 1) V) (hm : m < lnV σ) (h9 : lnV σ ≤ 900) (hn : B 22 ≠ B 23) : WV2 B σ S k m (up2 (up2 V (900 * k + m) (B 22) (thV σ k (nI m))) (900 * k + m) (B 23) (nI (rnD σ k (lnV σ) (lnV σ - m)))) := by
  obtain ⟨⟨h1, h2⟩, h3⟩ := h
  have e22 : ∀ {i}, i ≠ 900 * k + m → up2 (up2 V (900 * k + m) (B 22) (thV σ k (nI m))) (900 * k + m) (B 23) (nI (rnD σ k (lnV σ) (lnV σ - m))) i (B 22) = V i (B 22) := fun hi => (up2_nk hi).trans (up2_nk hi)
  have e23 : ∀ {i}, i ≠ 900 * k + m → up2 (up2 V (900 * k + m) (B 22) (thV σ k (nI m))) (900 * k + m) (B 23) (nI (rnD σ k (lnV σ) (lnV σ - m))) i (B 23) = V i (B 23) := fun hi => (up2_nk hi).trans (up2_nk hi)
  refine ⟨⟨fun j a q1 q2 => (up2_na q2).trans ((up2_na q1).trans (h1 j a q1 q2)), fun k' hk t ht => ?_⟩, fun t h4 h5 => ?_⟩
  · have hne : 900 * k' + t ≠ 900 * k + m := by omega
    rw [e22 hne, e23 hne]
    exact h2 k' hk t ht
  · by_cases c : t = m
    · subst c
      refine ⟨(up2_na hn).trans (up2_same _ _ _ _), (up2_same _ _ _ _).trans ?_⟩
      unfold rnA
      rw [if_pos hm]
    · have hne : 900 * k + t ≠ 900 * k + m := by omega
      rw [e22 hne, e23 hne]
      exact h3 t (by omega) h5

set_option maxHeartbeats 4000000 in
set_option maxRecDepth 100000 in
/-- workOut -/
theorem c_workOut {G : JG} (S : HS) (y : Nat) (B : Nat → Nat) (σ : Sg) (h : MI y B σ S) : Ct G yX6_workOut cX6_workOut 4 none 7 280 21 100 [.ref y] S (rV (fun S' => MI y B σ S' ∧ FrM S S' ∧ hI S' 0 y = hI S 0 y ∧ hI S' 21 y = 1 ∧ MW y B σ S')) noX := by
  refine Ct.of (by decide) (Nat.le_of_ble_eq_true rfl) (fun X hC hT hin => ?_)
  have h0 := h
  obtain ⟨hs, hv, hr, hw⟩ := h
  have hln := hr.ln
  have n20 : vn σ ≤ 20 := hr.2.2.2.2.2.2.2.1
  have hs1 : MShp y B (sI S 21 y 1) := hs.sI
  have hv1 : MVl y B σ (sI S 21 y 1) := hv.sI (Or.inr (Or.inl rfl))
  have n23 : B 22 ≠ B 23 := hs.ne rfl rfl (by decide)
  have vl : ∀ {V : Nat → Nat → Int32}, (∀ j a, a ≠ B 22 → a ≠ B 23 → V j a = hV S j a) → MVl y B σ (wIV (sI S 21 y 1) (hI (sI S 21 y 1)) V) := fun {V} hV0 => by
    obtain ⟨v1, w9, wt, w19, wc⟩ := hv1
    exact ⟨v1, fun t ht => (hV0 _ _ (hs.ne rfl rfl (by decide)) (hs.ne rfl rfl (by decide))).trans (w9 t ht), fun k hk j hj => (hV0 _ _ (hs.ne (mIn_f hj) rfl (by omega)) (hs.ne (mIn_f hj) rfl (by omega))).trans (wt k hk j hj), fun k h1 h2 => (hV0 _ _ (hs.ne rfl rfl (by decide)) (hs.ne rfl rfl (by decide))).trans (w19 k h1 h2), wc⟩
  have loop : ∀ (m k : Nat) (V : Nat → Nat → Int32), vn σ - k < m → k ≤ vn σ → WV B σ S k V → J X G (QQ X G (rV (fun S' => MI y B σ S' ∧ FrM S S' ∧ hI S' 0 y = hI S 0 y ∧ hI S' 21 y = 1 ∧ MW y B σ S')) noX 21 100) 4 0 0 15 [(1, .int (nI k)), (0, .ref y)] [] (wIV (sI S 21 y 1) (hI (sI S 21 y 1)) V) := by
    intro m
    induction m with
    | zero => intro k V h; omega
    | succ m ih =>
      intro k V hm hk hV0
      have hsT := hs1.w (hI (sI S 21 y 1)) V
      have hvT := vl hV0.1
      refine J_iload_n 0 hC dX6_workOut_15 rfl rfl ?_
      refine J_aload_n 1 hC dX6_workOut_16 rfl rfl ?_
      refine fg_X6_63 hC hsT.ky dX6_workOut_17 ?_
      refine J_topI hvT.1.2.2.2.2.2.2.2.2 ?_
      refine J_icmp_ge 107 hC dX6_workOut_20 (by decide) (fun c20 => ?_) (fun c20 => ?_)
      · have e1 : k = vn σ := Nat.le_antisymm hk (Nat.not_lt.mp (fun q => absurd c20 (nI_ge q (by omega))))
        rw [e1] at hV0
        refine J_aload_n 1 hC dX6_workOut_107 rfl rfl ?_
        refine cl_X6_130 hC (c_makePlan _ y B σ hsT hvT hr (fun k hk t ht => hV0.2 k hk t ht)) hsT.ky (Nat.le_of_ble_eq_true rfl) ⟨⟨Nat.le_of_ble_eq_true rfl, Nat.le_of_ble_eq_true rfl⟩, Nat.le_of_ble_eq_true rfl, Nat.le_of_ble_eq_true rfl⟩ dX6_workOut_108 (fun S108 e108 => ?_)
        obtain ⟨a1, a2, a3, a4, a5, a6⟩ := e108
        have fr1 : FrM S (wIV (sI S 21 y 1) (hI (sI S 21 y 1)) V) := FrM.trans (frm_thr FrM.rfl hs) (FrM.w (fun _ _ _ => rfl) (fun j a q => hV0.1 j a (fun z => by rw [z] at q; have e := hs1.k 22 rfl; rw [e] at q; exact absurd q (by decide)) (fun z => by rw [z] at q; have e := hs1.k 23 rfl; rw [e] at q; exact absurd q (by decide))))
        have e21 : hI S108 21 y = 1 := a4.trans (hI_same S 21 y 1)
        exact J_vretI hC dX6_workOut_111 (Nat.le_of_ble_eq_true rfl) (Nat.le_of_ble_eq_true rfl) ⟨⟨a1, a2, hr, Or.inr ⟨e21, a6⟩⟩, fr1.trans a3, a5.trans (hI_nk (S := S) (k := 21) (a := y) (v := 1) (show 0 ≠ 21 by decide)), e21, a6⟩
      · have hlt : k < vn σ := Nat.not_le.mp (fun q => c20 (nI_le q (by omega)))
        refine J_iconst (v := 0) hC dX6_workOut_23 (by decide) ?_
        refine J_istore_n (lv' := [(2, _), (1, _), (0, _)]) hC dX6_workOut_24 rfl (by decide) rfl ?_
        refine J_aload_n 2 hC dX6_workOut_25 rfl rfl ?_
        refine fg_X6_7 hC hsT.ky dX6_workOut_26 ?_
        refine J_topI (hvT.1.2.1.trans hln.1) ?_
        refine J_iconst (v := 1) hC dX6_workOut_29 (by decide) ?_
        refine J_isub hC dX6_workOut_30 ?_
        refine J_istore_n (lv' := [(3, _), (2, _), (1, _), (0, _)]) hC dX6_workOut_31 rfl (by decide) rfl ?_
        have in2 : ∀ (m : Nat) (V : Nat → Nat → Int32), m ≤ lnV σ → WV2 B σ S k m V → J X G (QQ X G (rV (fun S' => MI y B σ S' ∧ FrM S S' ∧ hI S' 0 y = hI S 0 y ∧ hI S' 21 y = 1 ∧ MW y B σ S')) noX 21 100) 4 0 0 32 [(3, .int (nI m - 1)), (2, .int (nI (rnD σ k (lnV σ) (lnV σ - m)))), (1, .int (nI k)), (0, .ref y)] [] (wIV (sI S 21 y 1) (hI (sI S 21 y 1)) V) := by
          intro m
          induction m with
          | zero =>
            intro V hm2 hV2
            refine J_iload_n 0 hC dX6_workOut_32 rfl rfl ?_
            refine J_if_lt 101 hC dX6_workOut_33 (by decide) (fun c33 => ?_) (fun c33 => absurd (show nI 0 - 1 < 0 by decide) c33)
            refine J_iinc (lv' := [(1, _), (3, _), (2, _), (0, _)]) 2 hC dX6_workOut_101 rfl (nI_1 k) (by decide) rfl ?_
            refine J_goto 15 hC dX6_workOut_104 (by decide) ?_
            exact J_re [0, 3] rfl (ih (k + 1) V (by omega) (by omega) ⟨hV2.1.1, fun k' hk' t ht => by by_cases e : k' = k; rw [e]; exact hV2.2 t (by omega) ht; exact hV2.1.2 k' (by omega) t ht⟩)
          | succ m ih2 =>
            intro V hm2 hV2
            rw [nI_pred]
            have hsT := hs1.w (hI (sI S 21 y 1)) V
            have hvT := vl hV2.1.1
            refine J_iload_n 0 hC dX6_workOut_32 rfl rfl ?_
            refine J_if_lt 101 hC dX6_workOut_33 (by decide) (fun c33 => absurd c33 (nI_pos (show m < 2147483648 by omega))) (fun c33 => ?_)
            refine J_aload_n 3 hC dX6_workOut_36 rfl rfl ?_
            refine fg_X6_51 hC hsT.ky (hsT.p 22 rfl) dX6_workOut_37 ?_
            refine J_sipush (v := 900) hC dX6_workOut_40 (by decide) ?_
            refine J_iload_n 2 hC dX6_workOut_43 rfl rfl ?_
            refine J_imul hC dX6_workOut_44 ?_
            refine J_iload_n 0 hC dX6_workOut_45 rfl rfl ?_
            refine J_iadd hC dX6_workOut_46 ?_
            refine J_topI (nI_900 k m) ?_
            refine J_aload_n 3 hC dX6_workOut_47 rfl rfl ?_
            refine J_aload_n 3 hC dX6_workOut_48 rfl rfl ?_
            refine fg_X6_20 hC hsT.ky (hsT.p 11 rfl) dX6_workOut_49 ?_
            refine J_iload_n 2 hC dX6_workOut_52 rfl rfl ?_
            refine J_iald hC (hsT.k 11 rfl) rfl (inN (hsT.n 11 rfl) (vp_in_nI (show k < 20 by have := hr.2.2.2.2.2.2.2.1; omega) (by decide))) dX6_workOut_53 ?_
            refine J_topI (show _ = vt σ k 0 by rw [nI_clamp (show k < 2147483648 by have := hr.2.2.2.2.2.2.2.1; omega)]; exact hvT.t hlt (show 0 < 10 by decide)) ?_
            refine J_aload_n 3 hC dX6_workOut_54 rfl rfl ?_
            refine fg_X6_24 hC hsT.ky (hsT.p 12 rfl) dX6_workOut_55 ?_
            refine J_iload_n 2 hC dX6_workOut_58 rfl rfl ?_
            refine J_iald hC (hsT.k 12 rfl) rfl (inN (hsT.n 12 rfl) (vp_in_nI (show k < 20 by have := hr.2.2.2.2.2.2.2.1; omega) (by decide))) dX6_workOut_59 ?_
            refine J_topI (show _ = vt σ k 1 by rw [nI_clamp (show k < 2147483648 by have := hr.2.2.2.2.2.2.2.1; omega)]; exact hvT.t hlt (show 1 < 10 by decide)) ?_
            refine J_iload_n 0 hC dX6_workOut_60 rfl rfl ?_
            refine cl_X6_110 hC (c_X6_heightOf _ y B σ hsT hvT hr _ _ _) hsT.ky (Nat.le_of_ble_eq_true rfl) ⟨⟨Nat.le_of_ble_eq_true rfl, Nat.le_of_ble_eq_true rfl⟩, Nat.le_of_ble_eq_true rfl, Nat.le_of_ble_eq_true rfl⟩ dX6_workOut_61 (fun r61 S61 e61 => ?_)
            obtain ⟨rfl, e61⟩ := e61
            subst S61
            refine J_topI (show _ = thV σ k (nI m) from rfl) ?_
            refine J_iast hC (hsT.k 22 rfl) rfl (inN (hsT.n 22 rfl) (vp_in_nI (show 900 * k + m < 18000 by omega) (by decide))) dX6_workOut_64 ?_
            refine J_eqS (show _ = wIV (sI S 21 y 1) (hI (sI S 21 y 1)) (up2 V (900 * k + m) (B 22) (thV σ k (nI m))) by rw [nI_clamp (show 900 * k + m < 2147483648 by omega)]; exact sV_wIV _ _ _ _ _ _) ?_
            have hsU := hs1.w (hI (sI S 21 y 1)) (up2 V (900 * k + m) (B 22) (thV σ k (nI m)))
            have hvU := vl (V := up2 V (900 * k + m) (B 22) (thV σ k (nI m))) (fun j a q1 q2 => (up2_na q1).trans (hV2.1.1 j a q1 q2))
            refine J_aload_n 3 hC dX6_workOut_65 rfl rfl ?_
            refine J_iload_n 2 hC dX6_workOut_66 rfl rfl ?_
            refine J_iload_n 0 hC dX6_workOut_67 rfl rfl ?_
            refine cl_X6_127 hC (c_X6_reasonOf _ y B σ hsU hvU hr k hlt m (by omega)) hsU.ky (Nat.le_of_ble_eq_true rfl) ⟨⟨Nat.le_of_ble_eq_true rfl, Nat.le_of_ble_eq_true rfl⟩, Nat.le_of_ble_eq_true rfl, Nat.le_of_ble_eq_true rfl⟩ dX6_workOut_68 (fun r68 S68 e68 => ?_)
            obtain ⟨rfl, e68⟩ := e68
            subst S68
            refine J_if_ne 80 hC dX6_workOut_71 (by decide) (fun c71 => ?_) (fun c71 => ?_)
            · refine J_iconst (v := 0) hC dX6_workOut_80 (by decide) ?_
              refine J_topI (show (0 : Int32) = (nI (rnD σ k (lnV σ) (lnV σ - m))) by rw [rnD_m (m := m) (by omega), if_neg c71]; rfl) ?_
              refine J_istore_n (lv' := [(2, _), (3, _), (1, _), (0, _)]) hC dX6_workOut_81 rfl (by decide) rfl ?_
              refine J_aload_n 3 hC dX6_workOut_82 rfl rfl ?_
              refine fg_X6_54 hC hsU.ky (hsU.p 23 rfl) dX6_workOut_83 ?_
              refine J_sipush (v := 900) hC dX6_workOut_86 (by decide) ?_
              refine J_iload_n 2 hC dX6_workOut_89 rfl rfl ?_
              refine J_imul hC dX6_workOut_90 ?_
              refine J_iload_n 1 hC dX6_workOut_91 rfl rfl ?_
              refine J_iadd hC dX6_workOut_92 ?_
              refine J_topI (nI_900 k m) ?_
              refine J_iload_n 0 hC dX6_workOut_93 rfl rfl ?_
              refine J_iast hC (hsU.k 23 rfl) rfl (inN (hsU.n 23 rfl) (vp_in_nI (show 900 * k + m < 18000 by omega) (by decide))) dX6_workOut_94 ?_
              refine J_eqS (show _ = wIV (sI S 21 y 1) (hI (sI S 21 y 1)) (up2 (up2 V (900 * k + m) (B 22) (thV σ k (nI m))) (900 * k + m) (B 23) (nI (rnD σ k (lnV σ) (lnV σ - m)))) by rw [nI_clamp (show 900 * k + m < 2147483648 by omega)]; exact sV_wIV _ _ _ _ _ _) ?_
              refine J_iinc (lv' := [(3, _), (2, _), (1, _), (0, _)]) 1 hC dX6_workOut_95 rfl (show nI m + Int32.ofInt (-1) = nI m - 1 by rw [Int32.sub_eq_add_neg]; rfl) (by decide) rfl ?_
              refine J_goto 32 hC dX6_workOut_98 (by decide) ?_
              exact J_re [0, 1, 2, 3] rfl (ih2 _ (by omega) (hV2.step (by omega) hln.2.2 n23))
            · refine J_iload_n 1 hC dX6_workOut_74 rfl rfl ?_
              refine J_iconst (v := 1) hC dX6_workOut_75 (by decide) ?_
              refine J_iadd hC dX6_workOut_76 ?_
              refine J_topI (show nI (rnD σ k (lnV σ) (lnV σ - (m + 1))) + 1 = (nI (rnD σ k (lnV σ) (lnV σ - m))) by rw [nI_1, rnD_m (m := m) (by omega), if_pos c71]) ?_
              refine J_goto 81 hC dX6_workOut_77 (by decide) ?_
              refine J_istore_n (lv' := [(2, _), (3, _), (1, _), (0, _)]) hC dX6_workOut_81 rfl (by decide) rfl ?_
              refine J_aload_n 3 hC dX6_workOut_82 rfl rfl ?_
              refine fg_X6_54 hC hsU.ky (hsU.p 23 rfl) dX6_workOut_83 ?_
              refine J_sipush (v := 900) hC dX6_workOut_86 (by decide) ?_
              refine J_iload_n 2 hC dX6_workOut_89 rfl rfl ?_
              refine J_imul hC dX6_workOut_90 ?_
              refine J_iload_n 1 hC dX6_workOut_91 rfl rfl ?_
              refine J_iadd hC dX6_workOut_92 ?_
              refine J_topI (nI_900 k m) ?_
              refine J_iload_n 0 hC dX6_workOut_93 rfl rfl ?_
              refine J_iast hC (hsU.k 23 rfl) rfl (inN (hsU.n 23 rfl) (vp_in_nI (show 900 * k + m < 18000 by omega) (by decide))) dX6_workOut_94 ?_
              refine J_eqS (show _ = wIV (sI S 21 y 1) (hI (sI S 21 y 1)) (up2 (up2 V (900 * k + m) (B 22) (thV σ k (nI m))) (900 * k + m) (B 23) (nI (rnD σ k (lnV σ) (lnV σ - m)))) by rw [nI_clamp (show 900 * k + m < 2147483648 by omega)]; exact sV_wIV _ _ _ _ _ _) ?_
              refine J_iinc (lv' := [(3, _), (2, _), (1, _), (0, _)]) 1 hC dX6_workOut_95 rfl (show nI m + Int32.ofInt (-1) = nI m - 1 by rw [Int32.sub_eq_add_neg]; rfl) (by decide) rfl ?_
              refine J_goto 32 hC dX6_workOut_98 (by decide) ?_
              exact J_re [0, 1, 2, 3] rfl (ih2 _ (by omega) (hV2.step (by omega) hln.2.2 n23))
        refine J_re [0, 1, 2, 3] rfl (J_eqL (show [(3, Value.int (nI (lnV σ) - 1)), (2, Value.int 0), (1, Value.int (nI k)), (0, Value.ref y)] = [(3, Value.int (nI (lnV σ) - 1)), (2, Value.int (nI (rnD σ k (lnV σ) (lnV σ - lnV σ)))), (1, Value.int (nI k)), (0, Value.ref y)] by rw [Nat.sub_self]; rfl) (in2 (lnV σ) V (Nat.le_refl _) ⟨hV0, fun t h1 h2 => absurd h2 (by omega)⟩))
  refine J_aload_n 0 hC dX6_workOut_0 rfl rfl ?_
  refine fg_X6_123 hC hs.ky dX6_workOut_1 ?_
  refine J_if_eq 8 hC dX6_workOut_4 (by decide) (fun c4 => ?_) (fun c4 => ?_)
  · refine J_aload_n 0 hC dX6_workOut_8 rfl rfl ?_
    refine J_iconst (v := 1) hC dX6_workOut_9 (by decide) ?_
    refine fp_X6_123 hC hs.ky ⟨rfl, rfl⟩ dX6_workOut_10 ?_
    refine J_iconst (v := 0) hC dX6_workOut_13 (by decide) ?_
    refine J_istore_n (lv' := [(1, _), (0, _)]) hC dX6_workOut_14 rfl (by decide) rfl ?_
    exact J_re [0, 1] rfl (loop (vn σ + 1) 0 (hV S) (by omega) (by omega) ⟨fun _ _ _ _ => rfl, fun k hk => absurd hk (Nat.not_lt_zero k)⟩)
  · refine J_vretI hC dX6_workOut_7 (Nat.le_of_ble_eq_true rfl) (Nat.le_of_ble_eq_true rfl) ?_
    rcases hw with q | ⟨q1, q2⟩
    · exact (c4 q).elim
    · exact ⟨h0, FrM.rfl, rfl, q1, q2⟩
