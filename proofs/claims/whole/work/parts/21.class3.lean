/-! survey, share, the next night, the plan: printed by wip/whole/class3.py -/
set_option maxHeartbeats 4000000 in
set_option maxRecDepth 100000 in
/-- survey of a target whose outlook stands -/
theorem c_survey_s {G : JG} (S : HS) (x n : Nat) (A : Nat → Nat → Nat) (hs : Shp G x A n S) (k : Nat) (hk : k < n) (hf : ¬ hI S 1 (A 3 k) = 0) : Ct G yX5_survey cX5_survey 5 none 5 180 0 0 [.ref x, .ref (A 1 k)] S (rV (fun S' => S' = S)) noX := by
  refine Ct.of (by decide) (Nat.le_of_ble_eq_true rfl) (fun X hC hT hin => ?_)
  refine J_aload_n 1 hC dX5_survey_0 rfl rfl ?_
  refine fg_X5_137 hC (hs.kg hk) (hs.po hk) dX5_survey_1 ?_
  refine fg_X5_141 hC (hs.ko hk) dX5_survey_4 ?_
  refine J_if_eq 11 hC dX5_survey_7 (by decide) (fun c7 => absurd c7 hf) (fun c7 => ?_)
  exact J_vretI hC dX5_survey_10 (Nat.le_of_ble_eq_true rfl) (Nat.le_of_ble_eq_true rfl) rfl

set_option maxHeartbeats 4000000 in
set_option maxRecDepth 100000 in
/-- survey of a target whose outlook doesn't stand -/
theorem c_survey_n {G : JG} (S : HS) (x : Nat) (A : Nat → Nat → Nat) (σ : Sg) (hs : Shp G x A (vn σ) S) (hv : Vl x A σ S) (hr : Rng σ) (k : Nat) (hk : k < vn σ) (hf : hI S 1 (A 3 k) = 0) : Ct G yX5_survey cX5_survey 5 none 5 180 0 0 [.ref x, .ref (A 1 k)] S (rV (fun S' => ∃ I' V', S' = wIV S I' V' ∧ (∀ j a, a ≠ A 3 k → I' j a = hI S j a) ∧ I' 1 (A 3 k) = 1 ∧ (∀ j, 2 ≤ j → j < 8 → I' j (A 3 k) = oF σ k (lnV σ) (lnV σ) j) ∧ (∀ j a, a ≠ A 4 k → V' j a = hV S j a) ∧ (∀ i, i < 900 → V' i (A 4 k) = nI (rnA σ k i)))) noX := by
  refine Ct.of (by decide) (Nat.le_of_ble_eq_true rfl) (fun X hC hT hin => ?_)
  obtain ⟨hLe, hL60, hL900⟩ := hr.ln
  obtain ⟨L, hLg⟩ : ∃ L, L = lnV σ := ⟨_, rfl⟩
  rw [← hLg] at hLe hL60 hL900
  have loop : ∀ (m : Nat), m ≤ L → ∀ I V, sInv A σ S k L m I V → J X G (QQ X G (rV (fun S' => ∃ I' V', S' = wIV S I' V' ∧ (∀ j a, a ≠ A 3 k → I' j a = hI S j a) ∧ I' 1 (A 3 k) = 1 ∧ (∀ j, 2 ≤ j → j < 8 → I' j (A 3 k) = oF σ k (lnV σ) (lnV σ) j) ∧ (∀ j a, a ≠ A 4 k → V' j a = hV S j a) ∧ (∀ i, i < 900 → V' i (A 4 k) = nI (rnA σ k i)))) noX 0 0) 5 0 0 27 [(3, .int (nI m - 1)), (2, .int (nI (rnD σ k L (L - m)))), (0, .ref x), (1, .ref (A 1 k))] [] (wIV S I V) := by
    intro m
    induction m with
    | zero =>
      intro hm I V hq
      have hs' := hs.w I V
      refine J_iload_n 0 hC dX5_survey_27 rfl rfl ?_
      refine J_if_lt 90 hC dX5_survey_28 (by decide) (fun c28 => ?_) (fun c28 => absurd (show nI 0 - 1 < 0 by decide) c28)
      refine J_aload_n 3 hC dX5_survey_90 rfl rfl ?_
      refine fg_X5_137 hC (hs'.kg hk) (hs'.po hk) dX5_survey_91 ?_
      refine J_iconst (v := 1) hC dX5_survey_94 (by decide) ?_
      refine fp_X5_141 hC (hs'.ko hk) ⟨rfl, rfl⟩ dX5_survey_95 ?_
      refine J_vretI hC dX5_survey_98 (Nat.le_of_ble_eq_true rfl) (Nat.le_of_ble_eq_true rfl) ?_
      obtain ⟨h1, h2, h3, h4, h5⟩ := hq
      refine ⟨up2 I 1 (A 3 k) 1, V, rfl, fun j a ha => (up2_na ha).trans (h1 j a ha), up2_same _ _ _ _, fun j h2j h8j => ?_, h4, fun i hi => ?_⟩
      · rw [up2_nk (show j ≠ 1 by omega), h3 j h2j h8j, ← hLg]; rfl
      · rw [h5 i hi]
        unfold rnA
        rw [← hLg]
        by_cases c : i < L
        · rw [if_pos c, if_pos ⟨Nat.zero_le i, c⟩]
        · rw [if_neg c, if_neg (fun z => c z.2)]; rfl
    | succ m ih =>
      intro hm I V hq
      rw [nI_pred]
      have hs' := hs.w I V
      have hv' : Vl x A σ (wIV S I V) := hv.w hs (fun j a q1 _ _ => hq.1 j a (fun z => q1 (by rw [z]; exact hs.ko hk))) (fun j a q1 _ => hq.2.2.2.1 j a (fun z => q1 (by rw [z]; exact hs.kru hk)))
      refine J_iload_n 0 hC dX5_survey_27 rfl rfl ?_
      refine J_if_lt 90 hC dX5_survey_28 (by decide) (fun c28 => absurd c28 (nI_pos (show m < 2147483648 by omega))) (fun c28 => ?_)
      refine J_aload_n 2 hC dX5_survey_31 rfl rfl ?_
      refine J_aload_n 3 hC dX5_survey_32 rfl rfl ?_
      refine fg_X5_154 hC (hs'.kg hk) (hs'.ppt hk) dX5_survey_33 ?_
      refine J_iload_n 0 hC dX5_survey_36 rfl rfl ?_
      refine cl_X5_157 hC (c_hT hs' hv' k hk _) hs'.kx (Nat.le_of_ble_eq_true rfl) ⟨⟨Nat.le_of_ble_eq_true rfl, Nat.le_of_ble_eq_true rfl⟩, Nat.le_of_ble_eq_true rfl, Nat.le_of_ble_eq_true rfl⟩ dX5_survey_37 (fun r37 S37 e37 => ?_)
      obtain ⟨rfl, e37⟩ := e37
      subst S37
      refine J_istore (lv' := [(4, _), (3, _), (2, _), (0, _), (1, _)]) hC dX5_survey_40 (by decide) rfl ?_
      refine J_aload_n 3 hC dX5_survey_42 rfl rfl ?_
      refine J_aload_n 4 hC dX5_survey_43 rfl rfl ?_
      refine J_iload_n 1 hC dX5_survey_44 rfl rfl ?_
      refine J_iload 0 hC dX5_survey_45 rfl ?_
      refine cl_X5_165 hC (c_X5_reasonAgainst _ x A σ hs' hv' k hk _) hs'.kx (Nat.le_of_ble_eq_true rfl) ⟨⟨Nat.le_of_ble_eq_true rfl, Nat.le_of_ble_eq_true rfl⟩, Nat.le_of_ble_eq_true rfl, Nat.le_of_ble_eq_true rfl⟩ dX5_survey_47 (fun r47 S47 e47 => ?_)
      obtain ⟨rfl, e47⟩ := e47
      subst S47
      refine J_if_ne 59 hC dX5_survey_50 (by decide) (fun c50 => ?_) (fun c50 => ?_)
      · have er : (0 : Int32) = (nI (rnD σ k L (L - m))) := by rw [rnD_m (m := m) (by omega), if_neg c50]; rfl
        refine J_iconst (v := 0) hC dX5_survey_59 (by decide) ?_
        rw [er]
        refine J_istore_n (lv' := [(2, _), (4, _), (3, _), (0, _), (1, _)]) hC dX5_survey_60 rfl (by decide) rfl ?_
        refine J_aload_n 4 hC dX5_survey_61 rfl rfl ?_
        refine fg_X5_137 hC (hs'.kg hk) (hs'.po hk) dX5_survey_62 ?_
        refine J_iload_n 2 hC dX5_survey_65 rfl rfl ?_
        refine J_iload 1 hC dX5_survey_66 rfl ?_
        refine cl_X5_260 hC (c_X1_noteHeight _ (A 3 k) _ _ (hs'.ko hk)) (hs'.ko hk) (Nat.le_of_ble_eq_true rfl) ⟨⟨Nat.le_of_ble_eq_true rfl, Nat.le_of_ble_eq_true rfl⟩, Nat.le_of_ble_eq_true rfl, Nat.le_of_ble_eq_true rfl⟩ dX5_survey_68 (fun S68 e68 => ?_)
        obtain ⟨I1, e68, q5, q6, qo⟩ := nhW e68
        subst e68
        refine J_aload_n 4 hC dX5_survey_71 rfl rfl ?_
        refine fg_X5_137 hC (hs'.kg hk) (hs'.po hk) dX5_survey_72 ?_
        refine J_iload_n 2 hC dX5_survey_75 rfl rfl ?_
        refine J_iload_n 0 hC dX5_survey_76 rfl rfl ?_
        refine J_aload_n 4 hC dX5_survey_77 rfl rfl ?_
        refine fg_X5_263 hC (hs'.kg hk) dX5_survey_78 ?_
        rw [show hI (wIV S I1 V) 4 (A 1 k) = vt σ k 5 from (qo 4 _ (Or.inl (hK_ne (hs.kg hk) (hs.ko hk) (by decide)))).trans ((hq.1 4 _ (hK_ne (hs.kg hk) (hs.ko hk) (by decide))).trans (hv.tg hk).2.2.2.1)]
        refine cl_X5_264 hC (c_X1_noteRun _ (A 3 k) (A 4 k) _ _ _ (hs'.ko hk) (hs'.pru hk) (hs'.kru hk) (hs'.nru hk) (nI_pos' (by omega)) (nI_lt (b := 900) (by omega) (by decide))) (hs'.ko hk) (Nat.le_of_ble_eq_true rfl) ⟨⟨Nat.le_of_ble_eq_true rfl, Nat.le_of_ble_eq_true rfl⟩, Nat.le_of_ble_eq_true rfl, Nat.le_of_ble_eq_true rfl⟩ dX5_survey_81 (fun S81 e81 => ?_)
        obtain ⟨I2, V2, e81, w2, w3, w4, w7, wo, wv, wu⟩ := nrW (nI_clamp (show m < 2147483648 by omega)) e81
        subst e81
        refine J_iinc (lv' := [(3, _), (2, _), (4, _), (0, _), (1, _)]) 2 hC dX5_survey_84 rfl (show nI m + Int32.ofInt (-1) = nI m - 1 by rw [Int32.sub_eq_add_neg]; rfl) (by decide) rfl ?_
        refine J_goto 27 hC dX5_survey_87 (by decide) ?_
        exact J_re [0, 1, 3, 4] rfl (ih (by omega) I2 V2 (sInv_step hL900 (by omega) hq q5 q6 qo w2 w3 w4 w7 wo wv wu))
      · have er : nI (rnD σ k L (L - (m + 1))) + 1 = (nI (rnD σ k L (L - m))) := by rw [nI_1, rnD_m (m := m) (by omega), if_pos c50]
        refine J_iload_n 2 hC dX5_survey_53 rfl rfl ?_
        refine J_iconst (v := 1) hC dX5_survey_54 (by decide) ?_
        refine J_iadd hC dX5_survey_55 ?_
        rw [er]
        refine J_goto 60 hC dX5_survey_56 (by decide) ?_
        refine J_istore_n (lv' := [(2, _), (4, _), (3, _), (0, _), (1, _)]) hC dX5_survey_60 rfl (by decide) rfl ?_
        refine J_aload_n 4 hC dX5_survey_61 rfl rfl ?_
        refine fg_X5_137 hC (hs'.kg hk) (hs'.po hk) dX5_survey_62 ?_
        refine J_iload_n 2 hC dX5_survey_65 rfl rfl ?_
        refine J_iload 1 hC dX5_survey_66 rfl ?_
        refine cl_X5_260 hC (c_X1_noteHeight _ (A 3 k) _ _ (hs'.ko hk)) (hs'.ko hk) (Nat.le_of_ble_eq_true rfl) ⟨⟨Nat.le_of_ble_eq_true rfl, Nat.le_of_ble_eq_true rfl⟩, Nat.le_of_ble_eq_true rfl, Nat.le_of_ble_eq_true rfl⟩ dX5_survey_68 (fun S68 e68 => ?_)
        obtain ⟨I1, e68, q5, q6, qo⟩ := nhW e68
        subst e68
        refine J_aload_n 4 hC dX5_survey_71 rfl rfl ?_
        refine fg_X5_137 hC (hs'.kg hk) (hs'.po hk) dX5_survey_72 ?_
        refine J_iload_n 2 hC dX5_survey_75 rfl rfl ?_
        refine J_iload_n 0 hC dX5_survey_76 rfl rfl ?_
        refine J_aload_n 4 hC dX5_survey_77 rfl rfl ?_
        refine fg_X5_263 hC (hs'.kg hk) dX5_survey_78 ?_
        rw [show hI (wIV S I1 V) 4 (A 1 k) = vt σ k 5 from (qo 4 _ (Or.inl (hK_ne (hs.kg hk) (hs.ko hk) (by decide)))).trans ((hq.1 4 _ (hK_ne (hs.kg hk) (hs.ko hk) (by decide))).trans (hv.tg hk).2.2.2.1)]
        refine cl_X5_264 hC (c_X1_noteRun _ (A 3 k) (A 4 k) _ _ _ (hs'.ko hk) (hs'.pru hk) (hs'.kru hk) (hs'.nru hk) (nI_pos' (by omega)) (nI_lt (b := 900) (by omega) (by decide))) (hs'.ko hk) (Nat.le_of_ble_eq_true rfl) ⟨⟨Nat.le_of_ble_eq_true rfl, Nat.le_of_ble_eq_true rfl⟩, Nat.le_of_ble_eq_true rfl, Nat.le_of_ble_eq_true rfl⟩ dX5_survey_81 (fun S81 e81 => ?_)
        obtain ⟨I2, V2, e81, w2, w3, w4, w7, wo, wv, wu⟩ := nrW (nI_clamp (show m < 2147483648 by omega)) e81
        subst e81
        refine J_iinc (lv' := [(3, _), (2, _), (4, _), (0, _), (1, _)]) 2 hC dX5_survey_84 rfl (show nI m + Int32.ofInt (-1) = nI m - 1 by rw [Int32.sub_eq_add_neg]; rfl) (by decide) rfl ?_
        refine J_goto 27 hC dX5_survey_87 (by decide) ?_
        exact J_re [0, 1, 3, 4] rfl (ih (by omega) I2 V2 (sInv_step hL900 (by omega) hq q5 q6 qo w2 w3 w4 w7 wo wv wu))
  refine J_aload_n 1 hC dX5_survey_0 rfl rfl ?_
  refine fg_X5_137 hC (hs.kg hk) (hs.po hk) dX5_survey_1 ?_
  refine fg_X5_141 hC (hs.ko hk) dX5_survey_4 ?_
  refine J_if_eq 11 hC dX5_survey_7 (by decide) (fun c7 => ?_) (fun c7 => absurd hf c7)
  refine J_aload_n 1 hC dX5_survey_11 rfl rfl ?_
  refine fg_X5_137 hC (hs.kg hk) (hs.po hk) dX5_survey_12 ?_
  refine cl_X5_257 hC (c_X1_clear S (A 3 k) (A 4 k) (hs.ko hk) (hs.pru hk) (hs.kru hk) (hs.nru hk)) (hs.ko hk) (Nat.le_of_ble_eq_true rfl) ⟨⟨Nat.le_of_ble_eq_true rfl, Nat.le_of_ble_eq_true rfl⟩, Nat.le_of_ble_eq_true rfl, Nat.le_of_ble_eq_true rfl⟩ dX5_survey_15 (fun S15 e15 => ?_)
  subst S15
  refine J_iconst (v := 0) hC dX5_survey_18 (by decide) ?_
  refine J_istore_n (lv' := [(2, _), (0, _), (1, _)]) hC dX5_survey_19 rfl (by decide) rfl ?_
  refine J_aload_n 1 hC dX5_survey_20 rfl rfl ?_
  refine fg_X5_23 hC hs.kx dX5_survey_21 ?_
  have hxo : x ≠ A 3 k := hK_ne hs.kx (hs.ko hk) (by decide)
  refine J_topI ((hI_na hxo).trans ((hI_na hxo).trans ((hI_na hxo).trans ((hI_na hxo).trans ((hI_na hxo).trans ((hI_na hxo).trans (hv.2.2.1.2.1.trans hLe))))))) ?_
  refine J_iconst (v := 1) hC dX5_survey_24 (by decide) ?_
  refine J_isub hC dX5_survey_25 ?_
  refine J_istore_n (lv' := [(3, _), (2, _), (0, _), (1, _)]) hC dX5_survey_26 rfl (by decide) rfl ?_
  refine J_re [0, 1, 2, 3] rfl (J_eqL (show _ = [(3, Value.int (nI L - 1)), (2, Value.int (nI (rnD σ k L (L - L)))), (0, Value.ref x), (1, Value.ref (A 1 k))] by rw [Nat.sub_self]; rfl) (loop L (Nat.le_refl L) (up2 (up2 (up2 (up2 (up2 (up2 (hI S) 2 (A 3 k) (-1)) 3 (A 3 k) (-1)) 4 (A 3 k) 0) 5 (A 3 k) (-1)) 6 (A 3 k) 0) 7 (A 3 k) (-1)) (fun i b => if b = A 4 k ∧ i < 900 then 0 else hV S i b) ?_))
  refine ⟨fun j a ha => ?_, ?_, fun j h2j h8j => ?_, fun j a ha => if_neg (fun z => ha z.1), fun i hi => ?_⟩
  · exact (up2_na ha).trans ((up2_na ha).trans ((up2_na ha).trans ((up2_na ha).trans ((up2_na ha).trans (up2_na ha)))))
  · exact (up2_nk (by decide)).trans ((up2_nk (by decide)).trans ((up2_nk (by decide)).trans ((up2_nk (by decide)).trans ((up2_nk (by decide)).trans (up2_nk (by decide))))))
  · rw [Nat.sub_self]
    rcases (show j = 2 ∨ j = 3 ∨ j = 4 ∨ j = 5 ∨ j = 6 ∨ j = 7 by omega) with rfl | rfl | rfl | rfl | rfl | rfl <;> simp [up2, oF]
  · rw [if_neg (show ¬ (L ≤ i ∧ i < L) by omega)]
    exact if_pos ⟨rfl, hi⟩
