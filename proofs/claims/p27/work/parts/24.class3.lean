/-! survey, share, the next night, the plan: printed by wip/p27/class3.py -/
set_option maxHeartbeats 4000000 in
set_option maxRecDepth 100000 in
/-- survey of a target whose outlook stands -/
theorem c_survey_s {G : JG} (S : HS) (x n : Nat) (A : Nat → Nat → Nat) (hs : Shp G x A n S) (k : Nat) (hk : k < n) (hf : ¬ hI S 1 (A 3 k) = 0) : Ct G yX5_survey cX5_survey 5 none 5 180 0 0 [.ref x, .ref (A 1 k)] S (rV (fun S' => S' = S)) noX := by
  refine Ct.of (by decide) (Nat.le_of_ble_eq_true rfl) (fun X hC hT hin => ?_)
  refine J_aload_n 1 hC dX5_survey_0 rfl rfl ?_
  refine fg_X5_135 hC (hs.kg hk) (hs.po hk) dX5_survey_1 ?_
  refine fg_X5_139 hC (hs.ko hk) dX5_survey_4 ?_
  refine J_if_eq 11 hC dX5_survey_7 (by decide) (fun c7 => absurd c7 hf) (fun c7 => ?_)
  exact J_vretI hC dX5_survey_10 (Nat.le_of_ble_eq_true rfl) (Nat.le_of_ble_eq_true rfl) rfl

set_option maxHeartbeats 4000000 in
set_option maxRecDepth 100000 in
/-- survey of a target whose outlook doesn't stand -/
theorem c_survey_n {G : JG} (S : HS) (x : Nat) (A : Nat → Nat → Nat) (σ : Sg) (hs : Shp G x A (vn σ) S) (hv : Vl x A σ S) (hr : Rng σ) (k : Nat) (hk : k < vn σ) (hf : hI S 1 (A 3 k) = 0) : Ct G yX5_survey cX5_survey 5 none 5 180 0 0 [.ref x, .ref (A 1 k)] S (rV (fun S' => ∃ I' V', S' = wIV S I' V' ∧ (∀ j a, a ≠ A 3 k → I' j a = hI S j a) ∧ I' 1 (A 3 k) = 1 ∧ (∀ j, 2 ≤ j → j < 8 → I' j (A 3 k) = oF σ k (lnV σ) (lnV σ) j) ∧ (∀ j a, a ≠ A 4 k → V' j a = hV S j a) ∧ (∀ i, i < 900 → V' i (A 4 k) = nI (rnA σ k i)))) noX := by
  refine Ct.of (by decide) (Nat.le_of_ble_eq_true rfl) (fun X hC hT hin => ?_)
  obtain ⟨hLe, hL60, hL900⟩ := hr.ln
  obtain ⟨L, hLg⟩ : ∃ L, L = lnV σ := ⟨_, rfl⟩
  rw [← hLg] at hLe hL60 hL900
  have loop : ∀ (m : Nat), m ≤ L → ∀ I V, sInv A σ S k L m I V → J X G (QQ X G (rV (fun S' => ∃ I' V', S' = wIV S I' V' ∧ (∀ j a, a ≠ A 3 k → I' j a = hI S j a) ∧ I' 1 (A 3 k) = 1 ∧ (∀ j, 2 ≤ j → j < 8 → I' j (A 3 k) = oF σ k (lnV σ) (lnV σ) j) ∧ (∀ j a, a ≠ A 4 k → V' j a = hV S j a) ∧ (∀ i, i < 900 → V' i (A 4 k) = nI (rnA σ k i)))) noX 0 0) 5 0 0 27 [(3, .int (nI m - 1)), (2, .int (nI (rnD σ k L (L - m)))), (0, .ref x), (1, .ref (A 1 k))] [] (wIV S I V) := by
    intro m
    induction m with
    | zero =>
      intro hm I V hq
      have hs' := hs.w I V
      refine J_iload_n 0 hC dX5_survey_27 rfl rfl ?_
      refine J_if_lt 90 hC dX5_survey_28 (by decide) (fun c28 => ?_) (fun c28 => absurd (show nI 0 - 1 < 0 by decide) c28)
      refine J_aload_n 3 hC dX5_survey_90 rfl rfl ?_
      refine fg_X5_135 hC (hs'.kg hk) (hs'.po hk) dX5_survey_91 ?_
      refine J_iconst (v := 1) hC dX5_survey_94 (by decide) ?_
      refine fp_X5_139 hC (hs'.ko hk) ⟨rfl, rfl⟩ dX5_survey_95 ?_
      refine J_vretI hC dX5_survey_98 (Nat.le_of_ble_eq_true rfl) (Nat.le_of_ble_eq_true rfl) ?_
      obtain ⟨h1, h2, h3, h4, h5⟩ := hq
      refine ⟨up2 I 1 (A 3 k) 1, V, rfl, fun j a ha => (up2_na ha).trans (h1 j a ha), up2_same _ _ _ _, fun j h2j h8j => ?_, h4, fun i hi => ?_⟩
      · rw [up2_nk (show j ≠ 1 by omega), h3 j h2j h8j, ← hLg]; rfl
      · rw [h5 i hi]
        unfold rnA
        rw [← hLg]
        by_cases c : i < L
        · rw [if_pos c, if_pos ⟨Nat.zero_le i, c⟩]
        · rw [if_neg c, if_neg (fun z => c z.2)]; rfl
    | succ m ih =>
      intro hm I V hq
      rw [nI_pred]
      have hs' := hs.w I V
      have hv' : Vl x A σ (wIV S I V) := hv.w hs (fun j a q1 _ _ => hq.1 j a (fun z => q1 (by rw [z]; exact hs.ko hk))) (fun j a q1 _ => hq.2.2.2.1 j a (fun z => q1 (by rw [z]; exact hs.kru hk)))
      refine J_iload_n 0 hC dX5_survey_27 rfl rfl ?_
      refine J_if_lt 90 hC dX5_survey_28 (by decide) (fun c28 => absurd c28 (nI_pos (show m < 2147483648 by omega))) (fun c28 => ?_)
      refine J_aload_n 2 hC dX5_survey_31 rfl rfl ?_
      refine J_aload_n 3 hC dX5_survey_32 rfl rfl ?_
      refine fg_X5_152 hC (hs'.kg hk) (hs'.ppt hk) dX5_survey_33 ?_
      refine J_iload_n 0 hC dX5_survey_36 rfl rfl ?_
      refine cl_X5_155 hC (c_hT hs' hv' k hk _) hs'.kx (Nat.le_of_ble_eq_true rfl) ⟨⟨Nat.le_of_ble_eq_true rfl, Nat.le_of_ble_eq_true rfl⟩, Nat.le_of_ble_eq_true rfl, Nat.le_of_ble_eq_true rfl⟩ dX5_survey_37 (fun r37 S37 e37 => ?_)
      obtain ⟨rfl, e37⟩ := e37
      subst S37
      refine J_istore (lv' := [(4, _), (3, _), (2, _), (0, _), (1, _)]) hC dX5_survey_40 (by decide) rfl ?_
      refine J_aload_n 3 hC dX5_survey_42 rfl rfl ?_
      refine J_aload_n 4 hC dX5_survey_43 rfl rfl ?_
      refine J_iload_n 1 hC dX5_survey_44 rfl rfl ?_
      refine J_iload 0 hC dX5_survey_45 rfl ?_
      refine cl_X5_163 hC (c_X5_reasonAgainst _ x A σ hs' hv' k hk _) hs'.kx (Nat.le_of_ble_eq_true rfl) ⟨⟨Nat.le_of_ble_eq_true rfl, Nat.le_of_ble_eq_true rfl⟩, Nat.le_of_ble_eq_true rfl, Nat.le_of_ble_eq_true rfl⟩ dX5_survey_47 (fun r47 S47 e47 => ?_)
      obtain ⟨rfl, e47⟩ := e47
      subst S47
      refine J_if_ne 59 hC dX5_survey_50 (by decide) (fun c50 => ?_) (fun c50 => ?_)
      · have er : (0 : Int32) = (nI (rnD σ k L (L - m))) := by rw [rnD_m (m := m) (by omega), if_neg c50]; rfl
        refine J_iconst (v := 0) hC dX5_survey_59 (by decide) ?_
        rw [er]
        refine J_istore_n (lv' := [(2, _), (4, _), (3, _), (0, _), (1, _)]) hC dX5_survey_60 rfl (by decide) rfl ?_
        refine J_aload_n 4 hC dX5_survey_61 rfl rfl ?_
        refine fg_X5_135 hC (hs'.kg hk) (hs'.po hk) dX5_survey_62 ?_
        refine J_iload_n 2 hC dX5_survey_65 rfl rfl ?_
        refine J_iload 1 hC dX5_survey_66 rfl ?_
        refine cl_X5_258 hC (c_X1_noteHeight _ (A 3 k) _ _ (hs'.ko hk)) (hs'.ko hk) (Nat.le_of_ble_eq_true rfl) ⟨⟨Nat.le_of_ble_eq_true rfl, Nat.le_of_ble_eq_true rfl⟩, Nat.le_of_ble_eq_true rfl, Nat.le_of_ble_eq_true rfl⟩ dX5_survey_68 (fun S68 e68 => ?_)
        obtain ⟨I1, e68, q5, q6, qo⟩ := nhW e68
        subst e68
        refine J_aload_n 4 hC dX5_survey_71 rfl rfl ?_
        refine fg_X5_135 hC (hs'.kg hk) (hs'.po hk) dX5_survey_72 ?_
        refine J_iload_n 2 hC dX5_survey_75 rfl rfl ?_
        refine J_iload_n 0 hC dX5_survey_76 rfl rfl ?_
        refine J_aload_n 4 hC dX5_survey_77 rfl rfl ?_
        refine fg_X5_261 hC (hs'.kg hk) dX5_survey_78 ?_
        rw [show hI (wIV S I1 V) 4 (A 1 k) = vt σ k 5 from (qo 4 _ (Or.inl (hK_ne (hs.kg hk) (hs.ko hk) (by decide)))).trans ((hq.1 4 _ (hK_ne (hs.kg hk) (hs.ko hk) (by decide))).trans (hv.tg hk).2.2.2.1)]
        refine cl_X5_262 hC (c_X1_noteRun _ (A 3 k) (A 4 k) _ _ _ (hs'.ko hk) (hs'.pru hk) (hs'.kru hk) (hs'.nru hk) (nI_pos' (by omega)) (nI_lt (b := 900) (by omega) (by decide))) (hs'.ko hk) (Nat.le_of_ble_eq_true rfl) ⟨⟨Nat.le_of_ble_eq_true rfl, Nat.le_of_ble_eq_true rfl⟩, Nat.le_of_ble_eq_true rfl, Nat.le_of_ble_eq_true rfl⟩ dX5_survey_81 (fun S81 e81 => ?_)
        obtain ⟨I2, V2, e81, w2, w3, w4, w7, wo, wv, wu⟩ := nrW (nI_clamp (show m < 2147483648 by omega)) e81
        subst e81
        refine J_iinc (lv' := [(3, _), (2, _), (4, _), (0, _), (1, _)]) 2 hC dX5_survey_84 rfl (show nI m + Int32.ofInt (-1) = nI m - 1 by rw [Int32.sub_eq_add_neg]; rfl) (by decide) rfl ?_
        refine J_goto 27 hC dX5_survey_87 (by decide) ?_
        exact J_re [0, 1, 3, 4] rfl (ih (by omega) I2 V2 (sInv_step hL900 (by omega) hq q5 q6 qo w2 w3 w4 w7 wo wv wu))
      · have er : nI (rnD σ k L (L - (m + 1))) + 1 = (nI (rnD σ k L (L - m))) := by rw [nI_1, rnD_m (m := m) (by omega), if_pos c50]
        refine J_iload_n 2 hC dX5_survey_53 rfl rfl ?_
        refine J_iconst (v := 1) hC dX5_survey_54 (by decide) ?_
        refine J_iadd hC dX5_survey_55 ?_
        rw [er]
        refine J_goto 60 hC dX5_survey_56 (by decide) ?_
        refine J_istore_n (lv' := [(2, _), (4, _), (3, _), (0, _), (1, _)]) hC dX5_survey_60 rfl (by decide) rfl ?_
        refine J_aload_n 4 hC dX5_survey_61 rfl rfl ?_
        refine fg_X5_135 hC (hs'.kg hk) (hs'.po hk) dX5_survey_62 ?_
        refine J_iload_n 2 hC dX5_survey_65 rfl rfl ?_
        refine J_iload 1 hC dX5_survey_66 rfl ?_
        refine cl_X5_258 hC (c_X1_noteHeight _ (A 3 k) _ _ (hs'.ko hk)) (hs'.ko hk) (Nat.le_of_ble_eq_true rfl) ⟨⟨Nat.le_of_ble_eq_true rfl, Nat.le_of_ble_eq_true rfl⟩, Nat.le_of_ble_eq_true rfl, Nat.le_of_ble_eq_true rfl⟩ dX5_survey_68 (fun S68 e68 => ?_)
        obtain ⟨I1, e68, q5, q6, qo⟩ := nhW e68
        subst e68
        refine J_aload_n 4 hC dX5_survey_71 rfl rfl ?_
        refine fg_X5_135 hC (hs'.kg hk) (hs'.po hk) dX5_survey_72 ?_
        refine J_iload_n 2 hC dX5_survey_75 rfl rfl ?_
        refine J_iload_n 0 hC dX5_survey_76 rfl rfl ?_
        refine J_aload_n 4 hC dX5_survey_77 rfl rfl ?_
        refine fg_X5_261 hC (hs'.kg hk) dX5_survey_78 ?_
        rw [show hI (wIV S I1 V) 4 (A 1 k) = vt σ k 5 from (qo 4 _ (Or.inl (hK_ne (hs.kg hk) (hs.ko hk) (by decide)))).trans ((hq.1 4 _ (hK_ne (hs.kg hk) (hs.ko hk) (by decide))).trans (hv.tg hk).2.2.2.1)]
        refine cl_X5_262 hC (c_X1_noteRun _ (A 3 k) (A 4 k) _ _ _ (hs'.ko hk) (hs'.pru hk) (hs'.kru hk) (hs'.nru hk) (nI_pos' (by omega)) (nI_lt (b := 900) (by omega) (by decide))) (hs'.ko hk) (Nat.le_of_ble_eq_true rfl) ⟨⟨Nat.le_of_ble_eq_true rfl, Nat.le_of_ble_eq_true rfl⟩, Nat.le_of_ble_eq_true rfl, Nat.le_of_ble_eq_true rfl⟩ dX5_survey_81 (fun S81 e81 => ?_)
        obtain ⟨I2, V2, e81, w2, w3, w4, w7, wo, wv, wu⟩ := nrW (nI_clamp (show m < 2147483648 by omega)) e81
        subst e81
        refine J_iinc (lv' := [(3, _), (2, _), (4, _), (0, _), (1, _)]) 2 hC dX5_survey_84 rfl (show nI m + Int32.ofInt (-1) = nI m - 1 by rw [Int32.sub_eq_add_neg]; rfl) (by decide) rfl ?_
        refine J_goto 27 hC dX5_survey_87 (by decide) ?_
        exact J_re [0, 1, 3, 4] rfl (ih (by omega) I2 V2 (sInv_step hL900 (by omega) hq q5 q6 qo w2 w3 w4 w7 wo wv wu))
  refine J_aload_n 1 hC dX5_survey_0 rfl rfl ?_
  refine fg_X5_135 hC (hs.kg hk) (hs.po hk) dX5_survey_1 ?_
  refine fg_X5_139 hC (hs.ko hk) dX5_survey_4 ?_
  refine J_if_eq 11 hC dX5_survey_7 (by decide) (fun c7 => ?_) (fun c7 => absurd hf c7)
  refine J_aload_n 1 hC dX5_survey_11 rfl rfl ?_
  refine fg_X5_135 hC (hs.kg hk) (hs.po hk) dX5_survey_12 ?_
  refine cl_X5_255 hC (c_X1_clear S (A 3 k) (A 4 k) (hs.ko hk) (hs.pru hk) (hs.kru hk) (hs.nru hk)) (hs.ko hk) (Nat.le_of_ble_eq_true rfl) ⟨⟨Nat.le_of_ble_eq_true rfl, Nat.le_of_ble_eq_true rfl⟩, Nat.le_of_ble_eq_true rfl, Nat.le_of_ble_eq_true rfl⟩ dX5_survey_15 (fun S15 e15 => ?_)
  subst S15
  refine J_iconst (v := 0) hC dX5_survey_18 (by decide) ?_
  refine J_istore_n (lv' := [(2, _), (0, _), (1, _)]) hC dX5_survey_19 rfl (by decide) rfl ?_
  refine J_aload_n 1 hC dX5_survey_20 rfl rfl ?_
  refine fg_X5_21 hC hs.kx dX5_survey_21 ?_
  have hxo : x ≠ A 3 k := hK_ne hs.kx (hs.ko hk) (by decide)
  refine J_topI ((hI_na hxo).trans ((hI_na hxo).trans ((hI_na hxo).trans ((hI_na hxo).trans ((hI_na hxo).trans ((hI_na hxo).trans (hv.2.2.1.2.1.trans hLe))))))) ?_
  refine J_iconst (v := 1) hC dX5_survey_24 (by decide) ?_
  refine J_isub hC dX5_survey_25 ?_
  refine J_istore_n (lv' := [(3, _), (2, _), (0, _), (1, _)]) hC dX5_survey_26 rfl (by decide) rfl ?_
  refine J_re [0, 1, 2, 3] rfl (J_eqL (show _ = [(3, Value.int (nI L - 1)), (2, Value.int (nI (rnD σ k L (L - L)))), (0, Value.ref x), (1, Value.ref (A 1 k))] by rw [Nat.sub_self]; rfl) (loop L (Nat.le_refl L) (up2 (up2 (up2 (up2 (up2 (up2 (hI S) 2 (A 3 k) (-1)) 3 (A 3 k) (-1)) 4 (A 3 k) 0) 5 (A 3 k) (-1)) 6 (A 3 k) 0) 7 (A 3 k) (-1)) (fun i b => if b = A 4 k ∧ i < 900 then 0 else hV S i b) ?_))
  refine ⟨fun j a ha => ?_, ?_, fun j h2j h8j => ?_, fun j a ha => if_neg (fun z => ha z.1), fun i hi => ?_⟩
  · exact (up2_na ha).trans ((up2_na ha).trans ((up2_na ha).trans ((up2_na ha).trans ((up2_na ha).trans (up2_na ha)))))
  · exact (up2_nk (by decide)).trans ((up2_nk (by decide)).trans ((up2_nk (by decide)).trans ((up2_nk (by decide)).trans ((up2_nk (by decide)).trans (up2_nk (by decide))))))
  · rw [Nat.sub_self]
    rcases (show j = 2 ∨ j = 3 ∨ j = 4 ∨ j = 5 ∨ j = 6 ∨ j = 7 by omega) with rfl | rfl | rfl | rfl | rfl | rfl <;> simp [up2, oF]
  · rw [if_neg (show ¬ (L ≤ i ∧ i < L) by omega)]
    exact if_pos ⟨rfl, hi⟩

set_option maxHeartbeats 4000000 in
set_option maxRecDepth 100000 in
/-- meritAt -/
theorem c_merit {G : JG} (S : HS) (x : Nat) (A : Nat → Nat → Nat) (σ : Sg) (hs : Shp G x A (vn σ) S) (hv : Vl x A σ S) (hr : Rng σ) (ho : ∀ k, k < vn σ → ∀ i, i < 900 → hV S i (A 4 k) = nI (rnA σ k i)) (f : Option Nat) (u : Nat → Bool) (hp : PlR A σ f u S) (k : Nat) (hk : k < vn σ) (t : Int32) : Ct G yX5_meritAt cX5_meritAt 4 (some .int) 5 160 0 0 [.ref x, .ref (A 1 k), .int t] S (rI (fun r S' => r = meV σ t f u k ∧ S' = S)) noX := by
  refine Ct.of (by decide) (Nat.le_of_ble_eq_true rfl) (fun X hC hT hin => ?_)
  refine J_aload_n 1 hC dX5_meritAt_0 rfl rfl ?_
  refine fg_X5_270 hC (hs.kg hk) dX5_meritAt_1 ?_
  refine J_topI (hp.2.2.1 k hk) ?_
  refine J_if_ne 18 hC dX5_meritAt_4 (by decide) (fun c4 => ?_) (fun c4 => ?_)
  · refine J_ldcw (v := -1000000) hC dX5_meritAt_18 (mG 443 (by decide +kernel) rfl) ?_
    exact J_iretI hC dX5_meritAt_21 (Nat.le_of_ble_eq_true rfl) (Nat.le_of_ble_eq_true rfl) ⟨(if_pos (zI_ne c4)).symm, rfl⟩
  · refine J_aload_n 1 hC dX5_meritAt_7 rfl rfl ?_
    refine J_aload_n 0 hC dX5_meritAt_8 rfl rfl ?_
    refine fg_X5_172 hC hs.kx dX5_meritAt_9 ?_
    refine cl_X5_175 hC (c_op hs hv k hk) (hs.kg hk) (Nat.le_of_ble_eq_true rfl) ⟨⟨Nat.le_of_ble_eq_true rfl, Nat.le_of_ble_eq_true rfl⟩, Nat.le_of_ble_eq_true rfl, Nat.le_of_ble_eq_true rfl⟩ dX5_meritAt_12 (fun r12 S12 e12 => ?_)
    obtain ⟨rfl, e12⟩ := e12
    subst S12
    refine J_if_ne 22 hC dX5_meritAt_15 (by decide) (fun c15 => ?_) (fun c15 => ?_)
    · refine J_aload_n 0 hC dX5_meritAt_22 rfl rfl ?_
      refine fg_X5_42 hC hs.kx hs.pp dX5_meritAt_23 ?_
      refine J_aload_n 1 hC dX5_meritAt_26 rfl rfl ?_
      refine cl_X5_287 hC (c_mur S (A 0 7) (A 1 k) (A 2 k) hs.kp (hs.kg hk) (hs.ppt hk) (hs.kpt hk) (fun q e => by obtain ⟨j, hj, rfl⟩ := hs.pnt e; exact ⟨hs.kg hj, A 2 j, hs.ppt hj, hs.kpt hj⟩)) hs.kp (Nat.le_of_ble_eq_true rfl) ⟨⟨Nat.le_of_ble_eq_true rfl, Nat.le_of_ble_eq_true rfl⟩, Nat.le_of_ble_eq_true rfl, Nat.le_of_ble_eq_true rfl⟩ dX5_meritAt_27 (fun r27 S27 e27 => ?_)
      obtain ⟨rfl, e27⟩ := e27
      subst S27
      refine J_topI (wt_eq hs hv hp hk) ?_
      refine J_istore_n (lv' := [(3, _), (0, _), (1, _), (2, _)]) hC dX5_meritAt_30 rfl (by decide) rfl ?_
      refine J_aload_n 2 hC dX5_meritAt_31 rfl rfl ?_
      refine fg_X5_135 hC (hs.kg hk) (hs.po hk) dX5_meritAt_32 ?_
      refine J_iload_n 3 hC dX5_meritAt_35 rfl rfl ?_
      refine J_iload_n 0 hC dX5_meritAt_36 rfl rfl ?_
      refine J_iadd hC dX5_meritAt_37 ?_
      refine J_aload_n 2 hC dX5_meritAt_38 rfl rfl ?_
      refine fg_X5_261 hC (hs.kg hk) dX5_meritAt_39 ?_
      refine J_topI (hv.tg hk).2.2.2.1 ?_
      refine cl_X5_291 hC (c_X1_lasts S (A 3 k) (A 4 k) _ _ (hs.ko hk) (hs.pru hk) (hs.kru hk) (hs.nru hk)) (hs.ko hk) (Nat.le_of_ble_eq_true rfl) ⟨⟨Nat.le_of_ble_eq_true rfl, Nat.le_of_ble_eq_true rfl⟩, Nat.le_of_ble_eq_true rfl, Nat.le_of_ble_eq_true rfl⟩ dX5_meritAt_42 (fun r42 S42 e42 => ?_)
      obtain ⟨rfl, e42⟩ := e42
      subst S42
      refine J_topI (show _ = laI σ k (t + wtV σ f k) from ?_) ?_
      · unfold laI
        by_cases c0 : 0 ≤ t + wtV σ f k ∧ t + wtV σ f k < 900
        · rw [ho k hk _ (vp_in_lt (in900 c0.1 c0.2))]
        · unfold bI
          rw [if_neg (fun z => c0 ⟨z.1, z.2.1⟩), if_neg (fun z => c0 ⟨z.1, z.2.1⟩)]
      refine J_if_ne 52 hC dX5_meritAt_45 (by decide) (fun c45 => ?_) (fun c45 => ?_)
      · refine J_bipush (v := 100) hC dX5_meritAt_52 (by decide) ?_
        refine J_aload_n 2 hC dX5_meritAt_54 rfl rfl ?_
        refine fg_X5_294 hC (hs.kg hk) dX5_meritAt_55 ?_
        refine J_topI (hv.tg hk).2.2.1 ?_
        refine J_imul hC dX5_meritAt_58 ?_
        refine J_aload_n 1 hC dX5_meritAt_59 rfl rfl ?_
        refine J_aload_n 2 hC dX5_meritAt_60 rfl rfl ?_
        refine fg_X5_152 hC (hs.kg hk) (hs.ppt hk) dX5_meritAt_61 ?_
        refine J_iload_n 3 hC dX5_meritAt_64 rfl rfl ?_
        refine J_iload_n 0 hC dX5_meritAt_65 rfl rfl ?_
        refine J_iadd hC dX5_meritAt_66 ?_
        refine cl_X5_155 hC (c_hT hs hv k hk _) hs.kx (Nat.le_of_ble_eq_true rfl) ⟨⟨Nat.le_of_ble_eq_true rfl, Nat.le_of_ble_eq_true rfl⟩, Nat.le_of_ble_eq_true rfl, Nat.le_of_ble_eq_true rfl⟩ dX5_meritAt_67 (fun r67 S67 e67 => ?_)
        obtain ⟨rfl, e67⟩ := e67
        subst S67
        refine J_bipush (v := 10) hC dX5_meritAt_70 (by decide) ?_
        refine J_idiv hC dX5_meritAt_72 (by decide) ?_
        refine J_iadd hC dX5_meritAt_73 ?_
        refine J_iload_n 0 hC dX5_meritAt_74 rfl rfl ?_
        refine J_isub hC dX5_meritAt_75 ?_
        exact J_iretI hC dX5_meritAt_76 (Nat.le_of_ble_eq_true rfl) (Nat.le_of_ble_eq_true rfl) ⟨((if_neg (zI_eq c4)).trans ((if_neg c15).trans (if_neg c45))).symm, rfl⟩
      · refine J_ldcw (v := -1000000) hC dX5_meritAt_48 (mG 443 (by decide +kernel) rfl) ?_
        exact J_iretI hC dX5_meritAt_51 (Nat.le_of_ble_eq_true rfl) (Nat.le_of_ble_eq_true rfl) ⟨((if_neg (zI_eq c4)).trans ((if_neg c15).trans (if_pos c45))).symm, rfl⟩
    · refine J_ldcw (v := -1000000) hC dX5_meritAt_18 (mG 443 (by decide +kernel) rfl) ?_
      exact J_iretI hC dX5_meritAt_21 (Nat.le_of_ble_eq_true rfl) (Nat.le_of_ble_eq_true rfl) ⟨((if_neg (zI_eq c4)).trans (if_pos c15)).symm, rfl⟩

set_option maxHeartbeats 4000000 in
set_option maxRecDepth 100000 in
/-- takeBest -/
theorem c_takeBest {G : JG} (S : HS) (x : Nat) (A : Nat → Nat → Nat) (σ : Sg) (hs : Shp G x A (vn σ) S) (hv : Vl x A σ S) (hr : Rng σ) (ho : ∀ k, k < vn σ → ∀ i, i < 900 → hV S i (A 4 k) = nI (rnA σ k i)) (f : Option Nat) (u : Nat → Bool) (hp : PlR A σ f u S) (t : Int32) : Ct G yX5_takeBest cX5_takeBest 7 (some .int) 6 200 0 0 [.ref x, .int t] S (rI (fun r S' => ((bsV σ t f u (vn σ)).1 = none ∧ r = t ∧ S' = S) ∨ ∃ g m, bsV σ t f u (vn σ) = (some g, m) ∧ r = t + wtV σ f g + vt σ g 5 ∧ S' = tkS A S g t (wtV σ f g) m)) noX := by
  refine Ct.of (by decide) (Nat.le_of_ble_eq_true rfl) (fun X hC hT hin => ?_)
  have n20 := hs.n20
  have loop : ∀ (m i : Nat), vn σ - i < m → i ≤ vn σ → J X G (QQ X G (rI (fun r S' => ((bsV σ t f u (vn σ)).1 = none ∧ r = t ∧ S' = S) ∨ ∃ g m, bsV σ t f u (vn σ) = (some g, m) ∧ r = t + wtV σ f g + vt σ g 5 ∧ S' = tkS A S g t (wtV σ f g) m)) noX 0 0) 7 0 0 9 [(4, .int (nI i)), (2, va_rf ((bsV σ t f u i).1.map (A 1))), (3, .int (bsV σ t f u i).2), (0, .ref x), (1, .int t)] [] S := by
    intro m
    induction m with
    | zero => intro i h; omega
    | succ m ih =>
      intro i hm hi
      rcases hb : bsV σ t f u i with ⟨b, mb⟩
      cases b with
      | none =>
        refine J_iload 0 hC dX5_takeBest_9 rfl ?_
        refine J_aload_n 3 hC dX5_takeBest_11 rfl rfl ?_
        refine fg_X5_35 hC hs.kx hs.pl dX5_takeBest_12 ?_
        refine cl_X5_102 hC (c_size S (A 0 5) hs.kl) hs.kl (Nat.le_of_ble_eq_true rfl) ⟨⟨Nat.le_of_ble_eq_true rfl, Nat.le_of_ble_eq_true rfl⟩, Nat.le_of_ble_eq_true rfl, Nat.le_of_ble_eq_true rfl⟩ dX5_takeBest_15 (fun r15 S15 e15 => ?_)
        obtain ⟨rfl, e15⟩ := e15
        subst S15
        refine J_topI hv.2.2.2.2.1 ?_
        refine J_icmp_ge 62 hC dX5_takeBest_18 (by decide) (fun c18 => ?_) (fun c18 => ?_)
        · have e1 : i = vn σ := Nat.le_antisymm hi (Nat.not_lt.mp (fun q => absurd c18 (nI_ge q (by omega))))
          refine J_aloadN_n 1 hC dX5_takeBest_62 rfl rfl ?_
          refine J_ifnonnullN hC dX5_takeBest_63 ?_
          refine J_iload_n 4 hC dX5_takeBest_66 rfl rfl ?_
          refine J_goto 80 hC dX5_takeBest_67 (by decide) ?_
          exact J_iretI hC dX5_takeBest_80 (Nat.le_of_ble_eq_true rfl) (Nat.le_of_ble_eq_true rfl) (Or.inl ⟨by rw [← e1, hb], rfl, rfl⟩)
        · have hlt : i < vn σ := Nat.not_le.mp (fun q => c18 (nI_le q (by omega)))
          refine J_aload_n 3 hC dX5_takeBest_21 rfl rfl ?_
          refine fg_X5_35 hC hs.kx hs.pl dX5_takeBest_22 ?_
          refine J_iload 0 hC dX5_takeBest_25 rfl ?_
          refine cl_X5_179 hC (c_get S (A 0 5) (A 0 6) (vn σ) i (A 1 i) hs.kl hs.pe (hs.ked hlt) hv.2.2.2.2.1 hlt (hs.ned hlt) (hs.ned2 hlt) hs.n20 (hs.pg hlt)) hs.kl (Nat.le_of_ble_eq_true rfl) ⟨⟨Nat.le_of_ble_eq_true rfl, Nat.le_of_ble_eq_true rfl⟩, Nat.le_of_ble_eq_true rfl, Nat.le_of_ble_eq_true rfl⟩ dX5_takeBest_27 (fun r27 S27 e27 => ?_)
          obtain ⟨rfl, e27⟩ := e27
          subst S27
          refine J_castT hC (hs.kg hlt) dX5_takeBest_30 ?_
          refine J_astore (lv' := [(5, _), (4, _), (2, _), (3, _), (0, _), (1, _)]) hC dX5_takeBest_33 (by decide) rfl ?_
          refine J_aload_n 4 hC dX5_takeBest_35 rfl rfl ?_
          refine J_aload 0 hC dX5_takeBest_36 rfl ?_
          refine J_iload_n 5 hC dX5_takeBest_38 rfl rfl ?_
          refine cl_X5_281 hC (c_merit S x A σ hs hv hr ho f u hp i hlt t) hs.kx (Nat.le_of_ble_eq_true rfl) ⟨⟨Nat.le_of_ble_eq_true rfl, Nat.le_of_ble_eq_true rfl⟩, Nat.le_of_ble_eq_true rfl, Nat.le_of_ble_eq_true rfl⟩ dX5_takeBest_39 (fun r39 S39 e39 => ?_)
          obtain ⟨rfl, e39⟩ := e39
          subst S39
          refine J_istore (lv' := [(6, _), (5, _), (4, _), (2, _), (3, _), (0, _), (1, _)]) hC dX5_takeBest_42 (by decide) rfl ?_
          refine J_iload 0 hC dX5_takeBest_44 rfl ?_
          refine J_iload_n 4 hC dX5_takeBest_46 rfl rfl ?_
          refine J_icmp_le 56 hC dX5_takeBest_47 (by decide) (fun c47 => ?_) (fun c47 => ?_)
          · refine J_iinc (lv' := [(4, _), (6, _), (5, _), (2, _), (3, _), (0, _), (1, _)]) 2 hC dX5_takeBest_56 rfl (nI_1 i) (by decide) rfl ?_
            refine J_goto 9 hC dX5_takeBest_59 (by decide) ?_
            have e2 := (show bsV σ t f u (i + 1) = (none, mb) from by rw [bsV, hb, if_neg (Int32.not_lt.mpr c47)])
            have e3 := ih (i + 1) (by omega) (by omega)
            rw [e2] at e3
            exact J_re [0, 3, 4, 5, 6] rfl e3
          · refine J_aload 1 hC dX5_takeBest_50 rfl ?_
            refine J_astore_n (lv' := [(2, _), (6, _), (5, _), (4, _), (3, _), (0, _), (1, _)]) hC dX5_takeBest_52 rfl (by decide) rfl ?_
            refine J_iload 1 hC dX5_takeBest_53 rfl ?_
            refine J_istore_n (lv' := [(3, _), (2, _), (6, _), (5, _), (4, _), (0, _), (1, _)]) hC dX5_takeBest_55 rfl (by decide) rfl ?_
            refine J_iinc (lv' := [(4, _), (3, _), (2, _), (6, _), (5, _), (0, _), (1, _)]) 4 hC dX5_takeBest_56 rfl (nI_1 i) (by decide) rfl ?_
            refine J_goto 9 hC dX5_takeBest_59 (by decide) ?_
            have e2 := (show bsV σ t f u (i + 1) = (some i, meV σ t f u i) from by rw [bsV, hb, if_pos (Int32.not_le.mp c47)])
            have e3 := ih (i + 1) (by omega) (by omega)
            rw [e2] at e3
            exact J_re [0, 2, 1, 5, 6] rfl e3
      | some g =>
        have hg : g < vn σ := by have := (bs_lt hb).1; omega
        refine J_iload 0 hC dX5_takeBest_9 rfl ?_
        refine J_aload_n 3 hC dX5_takeBest_11 rfl rfl ?_
        refine fg_X5_35 hC hs.kx hs.pl dX5_takeBest_12 ?_
        refine cl_X5_102 hC (c_size S (A 0 5) hs.kl) hs.kl (Nat.le_of_ble_eq_true rfl) ⟨⟨Nat.le_of_ble_eq_true rfl, Nat.le_of_ble_eq_true rfl⟩, Nat.le_of_ble_eq_true rfl, Nat.le_of_ble_eq_true rfl⟩ dX5_takeBest_15 (fun r15 S15 e15 => ?_)
        obtain ⟨rfl, e15⟩ := e15
        subst S15
        refine J_topI hv.2.2.2.2.1 ?_
        refine J_icmp_ge 62 hC dX5_takeBest_18 (by decide) (fun c18 => ?_) (fun c18 => ?_)
        · have e1 : i = vn σ := Nat.le_antisymm hi (Nat.not_lt.mp (fun q => absurd c18 (nI_ge q (by omega))))
          refine J_aload_n 1 hC dX5_takeBest_62 rfl rfl ?_
          refine J_ifnonnull 70 hC dX5_takeBest_63 (by decide) ?_
          rw [e1] at hb
          have hx := bs_open hb
          have hsz : ctU u (vn σ) < 20 := Nat.lt_of_lt_of_le (ctU_lt hg hx.1) n20
          have hs2 : (hI S 2 (A 0 7)).toNatClampNeg = ctU u (vn σ) := by rw [hp.2.2.2, nI_clamp (by omega)]
          refine J_aload_n 3 hC dX5_takeBest_70 rfl rfl ?_
          refine fg_X5_42 hC hs.kx hs.pp dX5_takeBest_71 ?_
          refine J_aload_n 1 hC dX5_takeBest_74 rfl rfl ?_
          refine J_iload_n 4 hC dX5_takeBest_75 rfl rfl ?_
          refine J_iload_n 2 hC dX5_takeBest_76 rfl rfl ?_
          refine cl_X5_284 hC (c_X2_take S (A 0 7) (A 1 g) (A 2 g) (A 0 8) (A 5 (hI S 2 (A 0 7)).toNatClampNeg) t mb hs.kp (hs.kg hg) (hs.ppt hg) (hs.kpt hg) (fun q e => by obtain ⟨j, hj, rfl⟩ := hs.pnt e; exact ⟨hs.kg hj, A 2 j, hs.ppt hj, hs.kpt hj⟩) (by rw [hp.2.2.2]; exact nI_pos' (by omega)) (by rw [hp.2.2.2]; exact nI_lt hsz (by decide)) hs.pr hs.kr hs.nr (hs.row (by rw [hs2]; omega)) (hs.krow (by rw [hs2]; omega)) (hs.nrow (by rw [hs2]; omega))) hs.kp (Nat.le_of_ble_eq_true rfl) ⟨⟨Nat.le_of_ble_eq_true rfl, Nat.le_of_ble_eq_true rfl⟩, Nat.le_of_ble_eq_true rfl, Nat.le_of_ble_eq_true rfl⟩ dX5_takeBest_77 (fun r77 S77 e77 => ?_)
          obtain ⟨rfl, e77⟩ := e77
          rw [wt_eq hs hv hp hg] at e77
          refine J_topI (show _ = t + wtV σ f g + vt σ g 5 from by rw [wt_eq hs hv hp hg, (hv.tg hg).2.2.2.1]) ?_
          exact J_iretI hC dX5_takeBest_80 (Nat.le_of_ble_eq_true rfl) (Nat.le_of_ble_eq_true rfl) (Or.inr ⟨g, mb, hb, rfl, e77⟩)
        · have hlt : i < vn σ := Nat.not_le.mp (fun q => c18 (nI_le q (by omega)))
          refine J_aload_n 3 hC dX5_takeBest_21 rfl rfl ?_
          refine fg_X5_35 hC hs.kx hs.pl dX5_takeBest_22 ?_
          refine J_iload 0 hC dX5_takeBest_25 rfl ?_
          refine cl_X5_179 hC (c_get S (A 0 5) (A 0 6) (vn σ) i (A 1 i) hs.kl hs.pe (hs.ked hlt) hv.2.2.2.2.1 hlt (hs.ned hlt) (hs.ned2 hlt) hs.n20 (hs.pg hlt)) hs.kl (Nat.le_of_ble_eq_true rfl) ⟨⟨Nat.le_of_ble_eq_true rfl, Nat.le_of_ble_eq_true rfl⟩, Nat.le_of_ble_eq_true rfl, Nat.le_of_ble_eq_true rfl⟩ dX5_takeBest_27 (fun r27 S27 e27 => ?_)
          obtain ⟨rfl, e27⟩ := e27
          subst S27
          refine J_castT hC (hs.kg hlt) dX5_takeBest_30 ?_
          refine J_astore (lv' := [(5, _), (4, _), (2, _), (3, _), (0, _), (1, _)]) hC dX5_takeBest_33 (by decide) rfl ?_
          refine J_aload_n 4 hC dX5_takeBest_35 rfl rfl ?_
          refine J_aload 0 hC dX5_takeBest_36 rfl ?_
          refine J_iload_n 5 hC dX5_takeBest_38 rfl rfl ?_
          refine cl_X5_281 hC (c_merit S x A σ hs hv hr ho f u hp i hlt t) hs.kx (Nat.le_of_ble_eq_true rfl) ⟨⟨Nat.le_of_ble_eq_true rfl, Nat.le_of_ble_eq_true rfl⟩, Nat.le_of_ble_eq_true rfl, Nat.le_of_ble_eq_true rfl⟩ dX5_takeBest_39 (fun r39 S39 e39 => ?_)
          obtain ⟨rfl, e39⟩ := e39
          subst S39
          refine J_istore (lv' := [(6, _), (5, _), (4, _), (2, _), (3, _), (0, _), (1, _)]) hC dX5_takeBest_42 (by decide) rfl ?_
          refine J_iload 0 hC dX5_takeBest_44 rfl ?_
          refine J_iload_n 4 hC dX5_takeBest_46 rfl rfl ?_
          refine J_icmp_le 56 hC dX5_takeBest_47 (by decide) (fun c47 => ?_) (fun c47 => ?_)
          · refine J_iinc (lv' := [(4, _), (6, _), (5, _), (2, _), (3, _), (0, _), (1, _)]) 2 hC dX5_takeBest_56 rfl (nI_1 i) (by decide) rfl ?_
            refine J_goto 9 hC dX5_takeBest_59 (by decide) ?_
            have e2 := (show bsV σ t f u (i + 1) = ((some g), mb) from by rw [bsV, hb, if_neg (Int32.not_lt.mpr c47)])
            have e3 := ih (i + 1) (by omega) (by omega)
            rw [e2] at e3
            exact J_re [0, 3, 4, 5, 6] rfl e3
          · refine J_aload 1 hC dX5_takeBest_50 rfl ?_
            refine J_astore_n (lv' := [(2, _), (6, _), (5, _), (4, _), (3, _), (0, _), (1, _)]) hC dX5_takeBest_52 rfl (by decide) rfl ?_
            refine J_iload 1 hC dX5_takeBest_53 rfl ?_
            refine J_istore_n (lv' := [(3, _), (2, _), (6, _), (5, _), (4, _), (0, _), (1, _)]) hC dX5_takeBest_55 rfl (by decide) rfl ?_
            refine J_iinc (lv' := [(4, _), (3, _), (2, _), (6, _), (5, _), (0, _), (1, _)]) 4 hC dX5_takeBest_56 rfl (nI_1 i) (by decide) rfl ?_
            refine J_goto 9 hC dX5_takeBest_59 (by decide) ?_
            have e2 := (show bsV σ t f u (i + 1) = (some i, meV σ t f u i) from by rw [bsV, hb, if_pos (Int32.not_le.mp c47)])
            have e3 := ih (i + 1) (by omega) (by omega)
            rw [e2] at e3
            exact J_re [0, 2, 1, 5, 6] rfl e3
  refine J_null hC dX5_takeBest_0 ?_
  refine J_astoreN_n (lv' := [(2, _), (0, _), (1, _)]) hC dX5_takeBest_1 rfl (by decide) rfl ?_
  refine J_ldcw (v := -1000000) hC dX5_takeBest_2 (mG 443 (by decide +kernel) rfl) ?_
  refine J_istore_n (lv' := [(3, _), (2, _), (0, _), (1, _)]) hC dX5_takeBest_5 rfl (by decide) rfl ?_
  refine J_iconst (v := 0) hC dX5_takeBest_6 (by decide) ?_
  refine J_istore (lv' := [(4, _), (3, _), (2, _), (0, _), (1, _)]) hC dX5_takeBest_7 (by decide) rfl ?_
  exact J_re [0, 2, 1, 3, 4] rfl (loop (vn σ + 1) 0 (by omega) (by omega))
