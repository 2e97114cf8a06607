/-! the digest: printed by wip/whole/class8.py -/
set_option maxHeartbeats 4000000 in
set_option maxRecDepth 100000 in
theorem c_X5_blendTargets {G : JG} (S : HS) (x : Nat) (A : Nat → Nat → Nat) (σ : Sg) (hs : Shp G x A (vn σ) S) (hv : Vl x A σ S) (ho : ∀ k, k < vn σ → OutOK A σ k S) (d : Int64) : Ct G yX5_blendTargets cX5_blendTargets 8 (some .long) 4 160 0 0 [.ref x, .long d] S (rL (fun r S' => r = dgT σ d ∧ S' = S)) noX := by
  refine Ct.of (by decide) (Nat.le_of_ble_eq_true rfl) (fun X hC hT hin => ?_)
  have n20 := hs.n20
  obtain ⟨d0, hd0⟩ : ∃ d0, d0 = bl d (nI (vn σ)) := ⟨_, rfl⟩
  have loop : ∀ (m i : Nat), vn σ - i < m → i ≤ vn σ → J X G (QQ X G (rL (fun r S' => r = dgT σ d ∧ S' = S)) noX 0 0) 8 0 0 15 [(5, .int (nI i)), (3, .long (blT σ d0 i)), (0, .ref x)] [] S := by
    intro m
    induction m with
    | zero => intro i h; omega
    | succ m ih =>
      intro i hm hi
      refine J_iload 0 hC dX5_blendTargets_15 rfl ?_
      refine J_aload_n 2 hC dX5_blendTargets_17 rfl rfl ?_
      refine fg_X5_35 hC hs.kx hs.pl dX5_blendTargets_18 ?_
      refine cl_X5_102 hC (c_size S (A 0 5) hs.kl) hs.kl (Nat.le_of_ble_eq_true rfl) ⟨⟨Nat.le_of_ble_eq_true rfl, Nat.le_of_ble_eq_true rfl⟩, Nat.le_of_ble_eq_true rfl, Nat.le_of_ble_eq_true rfl⟩ dX5_blendTargets_21 (fun r21 S21 e21 => ?_)
      obtain ⟨rfl, e21⟩ := e21
      subst S21
      refine J_topI hv.2.2.2.2.1 ?_
      refine J_icmp_ge 105 hC dX5_blendTargets_24 (by decide) (fun c24 => ?_) (fun c24 => ?_)
      · have e : i = vn σ := Nat.le_antisymm hi (Nat.not_lt.mp (fun q => absurd c24 (nI_ge q (by omega))))
        subst e
        refine J_lload_n 1 hC dX5_blendTargets_105 rfl rfl ?_
        exact J_lretI hC dX5_blendTargets_106 (Nat.le_of_ble_eq_true rfl) (Nat.le_of_ble_eq_true rfl) ⟨by rw [hd0]; rfl, rfl⟩
      · have hlt : i < vn σ := Nat.not_le.mp (fun q => c24 (nI_le q (by omega)))
        refine J_aload_n 2 hC dX5_blendTargets_27 rfl rfl ?_
        refine fg_X5_35 hC hs.kx hs.pl dX5_blendTargets_28 ?_
        refine J_iload 0 hC dX5_blendTargets_31 rfl ?_
        refine cl_X5_179 hC (c_get S (A 0 5) (A 0 6) (vn σ) i (A 1 i) hs.kl hs.pe (hs.ked hlt) hv.2.2.2.2.1 hlt (hs.ned hlt) (hs.ned2 hlt) hs.n20 (hs.pg hlt)) hs.kl (Nat.le_of_ble_eq_true rfl) ⟨⟨Nat.le_of_ble_eq_true rfl, Nat.le_of_ble_eq_true rfl⟩, Nat.le_of_ble_eq_true rfl, Nat.le_of_ble_eq_true rfl⟩ dX5_blendTargets_33 (fun r33 S33 e33 => ?_)
        obtain ⟨rfl, e33⟩ := e33
        subst S33
        refine J_castT hC (hs.kg hlt) dX5_blendTargets_36 ?_
        refine J_astore (lv' := [(6, _), (5, _), (3, _), (0, _)]) hC dX5_blendTargets_39 (by decide) rfl ?_
        refine J_iconst (v := 0) hC dX5_blendTargets_41 (by decide) ?_
        refine J_istore (lv' := [(7, _), (6, _), (5, _), (3, _), (0, _)]) hC dX5_blendTargets_42 (by decide) rfl ?_
        have in2 : ∀ (n j : Nat), 5 - j < n → j ≤ 5 → J X G (QQ X G (rL (fun r S' => r = dgT σ d ∧ S' = S)) noX 0 0) 8 0 0 72 [(7, .int (nI j)), (3, .long (blN (wnV σ i) (blN (vt σ i) (blT σ d0 i) 10) j)), (5, .int (nI i)), (0, .ref x), (6, .ref (A 1 i))] [] S := by
          intro n
          induction n with
          | zero => intro j h; omega
          | succ n ih2 =>
            intro j hj hj5
            refine J_iload 0 hC dX5_blendTargets_72 rfl ?_
            refine J_iconst (v := 5) hC dX5_blendTargets_74 (by decide) ?_
            refine J_icmp_ge 99 hC dX5_blendTargets_75 (by decide) (fun c75 => ?_) (fun c75 => ?_)
            · have e : j = 5 := Nat.le_antisymm hj5 (Nat.not_lt.mp (fun q => absurd c75 (nI_ge q (by decide))))
              subst e
              refine J_iinc (lv' := [(5, _), (7, _), (3, _), (0, _), (6, _)]) 2 hC dX5_blendTargets_99 rfl (nI_1 i) (by decide) rfl ?_
              refine J_goto 15 hC dX5_blendTargets_102 (by decide) ?_
              exact J_re [0, 2, 3] rfl (ih (i + 1) (by omega) (by omega))
            · have hjl : j < 5 := Nat.not_le.mp (fun q => c75 (nI_le q (by omega)))
              refine J_lload_n 1 hC dX5_blendTargets_78 rfl rfl ?_
              refine J_aload 4 hC dX5_blendTargets_79 rfl ?_
              refine fg_X5_135 hC (hs.kg hlt) (hs.po hlt) dX5_blendTargets_81 ?_
              refine J_iload 0 hC dX5_blendTargets_84 rfl ?_
              refine cl_X5_171 hC (c_X1_fact S (A 3 i) j (hs.ko hlt) hjl) (hs.ko hlt) (Nat.le_of_ble_eq_true rfl) ⟨⟨Nat.le_of_ble_eq_true rfl, Nat.le_of_ble_eq_true rfl⟩, Nat.le_of_ble_eq_true rfl, Nat.le_of_ble_eq_true rfl⟩ dX5_blendTargets_86 (fun r86 S86 e86 => ?_)
              obtain ⟨rfl, e86⟩ := e86
              subst S86
              refine J_topI (wn_eq (ho i hlt) hjl) ?_
              refine cl_X5_216 hC (c_X5_blend S _ _) (Nat.le_of_ble_eq_true rfl) ⟨⟨Nat.le_of_ble_eq_true rfl, Nat.le_of_ble_eq_true rfl⟩, Nat.le_of_ble_eq_true rfl, Nat.le_of_ble_eq_true rfl⟩ dX5_blendTargets_89 (fun r89 S89 e89 => ?_)
              obtain ⟨rfl, e89⟩ := e89
              subst S89
              refine J_lstore_n (lv' := [(3, _), (7, _), (5, _), (0, _), (6, _)]) hC dX5_blendTargets_92 rfl (by decide) rfl ?_
              refine J_iinc (lv' := [(7, _), (3, _), (5, _), (0, _), (6, _)]) 1 hC dX5_blendTargets_93 rfl (nI_1 j) (by decide) rfl ?_
              refine J_goto 72 hC dX5_blendTargets_96 (by decide) ?_
              exact J_re [0, 1, 2, 3, 4] rfl (ih2 (j + 1) (by omega) (by omega))
        have in1 : ∀ (n j : Nat), 10 - j < n → j ≤ 10 → J X G (QQ X G (rL (fun r S' => r = dgT σ d ∧ S' = S)) noX 0 0) 8 0 0 44 [(7, .int (nI j)), (3, .long (blN (vt σ i) (blT σ d0 i) j)), (5, .int (nI i)), (0, .ref x), (6, .ref (A 1 i))] [] S := by
          intro n
          induction n with
          | zero => intro j h; omega
          | succ n ih1 =>
            intro j hj hj5
            refine J_iload 0 hC dX5_blendTargets_44 rfl ?_
            refine J_bipush (v := 10) hC dX5_blendTargets_46 (by decide) ?_
            refine J_icmp_ge 69 hC dX5_blendTargets_48 (by decide) (fun c48 => ?_) (fun c48 => ?_)
            · have e : j = 10 := Nat.le_antisymm hj5 (Nat.not_lt.mp (fun q => absurd c48 (nI_ge q (by decide))))
              subst e
              refine J_iconst (v := 0) hC dX5_blendTargets_69 (by decide) ?_
              refine J_istore (lv' := [(7, _), (3, _), (5, _), (0, _), (6, _)]) hC dX5_blendTargets_70 (by decide) rfl ?_
              exact J_re [0, 1, 2, 3, 4] rfl (in2 6 0 (by omega) (by omega))
            · have hjl : j < 10 := Nat.not_le.mp (fun q => c48 (nI_le q (by omega)))
              refine J_lload_n 1 hC dX5_blendTargets_51 rfl rfl ?_
              refine J_aload 4 hC dX5_blendTargets_52 rfl ?_
              refine J_iload 0 hC dX5_blendTargets_54 rfl ?_
              refine cl_X5_145 hC (c_X4_fact S (A 1 i) (A 2 i) j (hs.kg hlt) (hs.ppt hlt) (hs.kpt hlt) hjl) (hs.kg hlt) (Nat.le_of_ble_eq_true rfl) ⟨⟨Nat.le_of_ble_eq_true rfl, Nat.le_of_ble_eq_true rfl⟩, Nat.le_of_ble_eq_true rfl, Nat.le_of_ble_eq_true rfl⟩ dX5_blendTargets_56 (fun r56 S56 e56 => ?_)
              obtain ⟨rfl, e56⟩ := e56
              subst S56
              refine J_topI (tfS_eq hv hlt hjl) ?_
              refine cl_X5_216 hC (c_X5_blend S _ _) (Nat.le_of_ble_eq_true rfl) ⟨⟨Nat.le_of_ble_eq_true rfl, Nat.le_of_ble_eq_true rfl⟩, Nat.le_of_ble_eq_true rfl, Nat.le_of_ble_eq_true rfl⟩ dX5_blendTargets_59 (fun r59 S59 e59 => ?_)
              obtain ⟨rfl, e59⟩ := e59
              subst S59
              refine J_lstore_n (lv' := [(3, _), (7, _), (5, _), (0, _), (6, _)]) hC dX5_blendTargets_62 rfl (by decide) rfl ?_
              refine J_iinc (lv' := [(7, _), (3, _), (5, _), (0, _), (6, _)]) 1 hC dX5_blendTargets_63 rfl (nI_1 j) (by decide) rfl ?_
              refine J_goto 44 hC dX5_blendTargets_66 (by decide) ?_
              exact J_re [0, 1, 2, 3, 4] rfl (ih1 (j + 1) (by omega) (by omega))
        exact J_re [0, 3, 2, 4, 1] rfl (in1 11 0 (by omega) (by omega))
  refine J_lload_n 1 hC dX5_blendTargets_0 rfl rfl ?_
  refine J_aload_n 0 hC dX5_blendTargets_1 rfl rfl ?_
  refine fg_X5_35 hC hs.kx hs.pl dX5_blendTargets_2 ?_
  refine cl_X5_102 hC (c_size S (A 0 5) hs.kl) hs.kl (Nat.le_of_ble_eq_true rfl) ⟨⟨Nat.le_of_ble_eq_true rfl, Nat.le_of_ble_eq_true rfl⟩, Nat.le_of_ble_eq_true rfl, Nat.le_of_ble_eq_true rfl⟩ dX5_blendTargets_5 (fun r5 S5 e5 => ?_)
  obtain ⟨rfl, e5⟩ := e5
  subst S5
  refine J_topI hv.2.2.2.2.1 ?_
  refine cl_X5_216 hC (c_X5_blend S _ _) (Nat.le_of_ble_eq_true rfl) ⟨⟨Nat.le_of_ble_eq_true rfl, Nat.le_of_ble_eq_true rfl⟩, Nat.le_of_ble_eq_true rfl, Nat.le_of_ble_eq_true rfl⟩ dX5_blendTargets_8 (fun r8 S8 e8 => ?_)
  obtain ⟨rfl, e8⟩ := e8
  subst S8
  refine J_lstore_n (lv' := [(3, _), (0, _), (1, _)]) hC dX5_blendTargets_11 rfl (by decide) rfl ?_
  refine J_iconst (v := 0) hC dX5_blendTargets_12 (by decide) ?_
  refine J_istore (lv' := [(5, _), (3, _), (0, _), (1, _)]) hC dX5_blendTargets_13 (by decide) rfl ?_
  refine J_re [0, 1, 2] rfl (J_eqL ?_ (loop (vn σ + 1) 0 (by omega) (by omega)))
  rw [hd0]; rfl

set_option maxHeartbeats 4000000 in
set_option maxRecDepth 100000 in
theorem c_X5_blendPlan {G : JG} (S : HS) (x : Nat) (A : Nat → Nat → Nat) (σ : Sg) (hs : Shp G x A (vn σ) S) (hv : Vl x A σ S) (hp : PlOK A σ (plV σ) S) (d : Int64) : Ct G yX5_blendPlan cX5_blendPlan 7 (some .long) 3 120 0 0 [.ref x, .long d] S (rL (fun r S' => r = dgP σ d ∧ S' = S)) noX := by
  refine Ct.of (by decide) (Nat.le_of_ble_eq_true rfl) (fun X hC hT hin => ?_)
  have hps : pS σ (plV σ) ≤ 20 := Nat.le_trans (ctU_le _ _) hs.n20
  obtain ⟨d0, hd0⟩ : ∃ d0, d0 = bl d (nI (pS σ (plV σ))) := ⟨_, rfl⟩
  have loop : ∀ (m i : Nat), pS σ (plV σ) - i < m → i ≤ pS σ (plV σ) → J X G (QQ X G (rL (fun r S' => r = dgP σ d ∧ S' = S)) noX 0 0) 7 0 0 15 [(5, .int (nI i)), (3, .long (blP (plV σ) d0 i)), (0, .ref x)] [] S := by
    intro m
    induction m with
    | zero => intro i h; omega
    | succ m ih =>
      intro i hm hi
      refine J_iload 0 hC dX5_blendPlan_15 rfl ?_
      refine J_aload_n 2 hC dX5_blendPlan_17 rfl rfl ?_
      refine fg_X5_42 hC hs.kx hs.pp dX5_blendPlan_18 ?_
      refine fg_X5_190 hC hs.kp dX5_blendPlan_21 ?_
      refine J_topI (show _ = nI (pS σ (plV σ)) from hp.1.2.2.2) ?_
      refine J_icmp_ge 66 hC dX5_blendPlan_24 (by decide) (fun c24 => ?_) (fun c24 => ?_)
      · have e : i = pS σ (plV σ) := Nat.le_antisymm hi (Nat.not_lt.mp (fun q => absurd c24 (nI_ge q (by omega))))
        refine J_lload_n 1 hC dX5_blendPlan_66 rfl rfl ?_
        exact J_lretI hC dX5_blendPlan_67 (Nat.le_of_ble_eq_true rfl) (Nat.le_of_ble_eq_true rfl) ⟨by rw [hd0, e]; rfl, rfl⟩
      · have hlt : i < pS σ (plV σ) := Nat.not_le.mp (fun q => c24 (nI_le q (by omega)))
        refine J_iconst (v := 0) hC dX5_blendPlan_27 (by decide) ?_
        refine J_istore (lv' := [(6, _), (5, _), (3, _), (0, _)]) hC dX5_blendPlan_28 (by decide) rfl ?_
        have h20 : i < 20 := by omega
        have in1 : ∀ (n j : Nat), 4 - j < n → j ≤ 4 → J X G (QQ X G (rL (fun r S' => r = dgP σ d ∧ S' = S)) noX 0 0) 7 0 0 30 [(6, .int (nI j)), (3, .long (blN (pR (plV σ) i) (blP (plV σ) d0 i) j)), (5, .int (nI i)), (0, .ref x)] [] S := by
          intro n
          induction n with
          | zero => intro j h; omega
          | succ n ih1 =>
            intro j hj hj5
            refine J_iload 0 hC dX5_blendPlan_30 rfl ?_
            refine J_iconst (v := 4) hC dX5_blendPlan_32 (by decide) ?_
            refine J_icmp_ge 60 hC dX5_blendPlan_33 (by decide) (fun c33 => ?_) (fun c33 => ?_)
            · have e : j = 4 := Nat.le_antisymm hj5 (Nat.not_lt.mp (fun q => absurd c33 (nI_ge q (by decide))))
              subst e
              refine J_iinc (lv' := [(5, _), (6, _), (3, _), (0, _)]) 2 hC dX5_blendPlan_60 rfl (nI_1 i) (by decide) rfl ?_
              refine J_goto 15 hC dX5_blendPlan_63 (by decide) ?_
              exact J_re [0, 2, 3] rfl (ih (i + 1) (by omega) (by omega))
            · have hjl : j < 4 := Nat.not_le.mp (fun q => c33 (nI_le q (by omega)))
              refine J_lload_n 1 hC dX5_blendPlan_36 rfl rfl ?_
              refine J_aload_n 3 hC dX5_blendPlan_37 rfl rfl ?_
              refine fg_X5_42 hC hs.kx hs.pp dX5_blendPlan_38 ?_
              refine fg_X5_197 hC hs.kp hs.pr dX5_blendPlan_41 ?_
              refine J_iload 2 hC dX5_blendPlan_44 rfl ?_
              refine J_aald2 hC hs.kr (inN hs.nr (vp_in_nI h20 (by decide))) (by rw [nI_clamp (by omega)]; exact hs.row h20) dX5_blendPlan_46 ?_
              refine J_iload 0 hC dX5_blendPlan_47 rfl ?_
              refine J_iald hC (hs.krow h20) rfl (inN (hs.nrow h20) (vp_in_nI hjl (by decide))) dX5_blendPlan_49 ?_
              refine J_topI (show _ = pR (plV σ) i j by rw [nI_clamp (by omega)]; exact hp.2.2 i hlt j hjl) ?_
              refine cl_X5_216 hC (c_X5_blend S _ _) (Nat.le_of_ble_eq_true rfl) ⟨⟨Nat.le_of_ble_eq_true rfl, Nat.le_of_ble_eq_true rfl⟩, Nat.le_of_ble_eq_true rfl, Nat.le_of_ble_eq_true rfl⟩ dX5_blendPlan_50 (fun r50 S50 e50 => ?_)
              obtain ⟨rfl, e50⟩ := e50
              subst S50
              refine J_lstore_n (lv' := [(3, _), (6, _), (5, _), (0, _)]) hC dX5_blendPlan_53 rfl (by decide) rfl ?_
              refine J_iinc (lv' := [(6, _), (3, _), (5, _), (0, _)]) 1 hC dX5_blendPlan_54 rfl (nI_1 j) (by decide) rfl ?_
              refine J_goto 30 hC dX5_blendPlan_57 (by decide) ?_
              exact J_re [0, 1, 2, 3] rfl (ih1 (j + 1) (by omega) (by omega))
        exact J_re [0, 2, 1, 3] rfl (in1 5 0 (by omega) (by omega))
  refine J_lload_n 1 hC dX5_blendPlan_0 rfl rfl ?_
  refine J_aload_n 0 hC dX5_blendPlan_1 rfl rfl ?_
  refine fg_X5_42 hC hs.kx hs.pp dX5_blendPlan_2 ?_
  refine fg_X5_190 hC hs.kp dX5_blendPlan_5 ?_
  refine J_topI (show _ = nI (pS σ (plV σ)) from hp.1.2.2.2) ?_
  refine cl_X5_216 hC (c_X5_blend S _ _) (Nat.le_of_ble_eq_true rfl) ⟨⟨Nat.le_of_ble_eq_true rfl, Nat.le_of_ble_eq_true rfl⟩, Nat.le_of_ble_eq_true rfl, Nat.le_of_ble_eq_true rfl⟩ dX5_blendPlan_8 (fun r8 S8 e8 => ?_)
  obtain ⟨rfl, e8⟩ := e8
  subst S8
  refine J_lstore_n (lv' := [(3, _), (0, _), (1, _)]) hC dX5_blendPlan_11 rfl (by decide) rfl ?_
  refine J_iconst (v := 0) hC dX5_blendPlan_12 (by decide) ?_
  refine J_istore (lv' := [(5, _), (3, _), (0, _), (1, _)]) hC dX5_blendPlan_13 (by decide) rfl ?_
  refine J_re [0, 1, 2] rfl (J_eqL ?_ (loop (pS σ (plV σ) + 1) 0 (by omega) (by omega)))
  rw [hd0]; rfl

set_option maxHeartbeats 4000000 in
set_option maxRecDepth 100000 in
/-- digest -/
theorem c_X5_digest {G : JG} (S : HS) (x : Nat) (A : Nat → Nat → Nat) (σ : Sg) (h : CI G x A σ S) : Ct G yX5_digest cX5_digest 3 (some .long) 10 400 70 1200 [.ref x] S (rL (fun r S' => CI G x A σ S' ∧ FrC S S' ∧ r = dgV σ)) noX := by
  refine Ct.of (by decide) (Nat.le_of_ble_eq_true rfl) (fun X hC hT hin => ?_)
  have h0 := h
  obtain ⟨hs, hv, hr, ho, hp⟩ := h
  refine J_aload_n 0 hC dX5_digest_0 rfl rfl ?_
  refine cl_X5_187 hC (c_settle S x A σ h0) hs.kx (Nat.le_of_ble_eq_true rfl) ⟨⟨Nat.le_of_ble_eq_true rfl, Nat.le_of_ble_eq_true rfl⟩, Nat.le_of_ble_eq_true rfl, Nat.le_of_ble_eq_true rfl⟩ dX5_digest_1 (fun S1 e1 => ?_)
  obtain ⟨hc1, hf1, hp1, ho1⟩ := e1
  obtain ⟨hs1, hv1, -, -, -⟩ := id hc1
  refine J_ldc2 (v := 347) hC dX5_digest_4 (mG 312 (by decide +kernel) rfl) ?_
  refine J_lstore_n (lv' := [(1, _), (0, _)]) hC dX5_digest_7 rfl (by decide) rfl ?_
  refine J_lload_n 0 hC dX5_digest_8 rfl rfl ?_
  refine J_aload_n 1 hC dX5_digest_9 rfl rfl ?_
  refine fg_X5_172 hC hs1.kx dX5_digest_10 ?_
  refine J_topI hv1.2.2.1.2.2 ?_
  refine cl_X5_216 hC (c_X5_blend S1 _ _) (Nat.le_of_ble_eq_true rfl) ⟨⟨Nat.le_of_ble_eq_true rfl, Nat.le_of_ble_eq_true rfl⟩, Nat.le_of_ble_eq_true rfl, Nat.le_of_ble_eq_true rfl⟩ dX5_digest_13 (fun r13 S13 e13 => ?_)
  obtain ⟨rfl, e13⟩ := e13
  subst S13
  refine J_lstore_n (lv' := [(1, _), (0, _)]) hC dX5_digest_16 rfl (by decide) rfl ?_
  refine J_lload_n 0 hC dX5_digest_17 rfl rfl ?_
  refine J_aload_n 1 hC dX5_digest_18 rfl rfl ?_
  refine fg_X5_21 hC hs1.kx dX5_digest_19 ?_
  refine J_topI hv1.2.2.1.2.1 ?_
  refine cl_X5_216 hC (c_X5_blend S1 _ _) (Nat.le_of_ble_eq_true rfl) ⟨⟨Nat.le_of_ble_eq_true rfl, Nat.le_of_ble_eq_true rfl⟩, Nat.le_of_ble_eq_true rfl, Nat.le_of_ble_eq_true rfl⟩ dX5_digest_22 (fun r22 S22 e22 => ?_)
  obtain ⟨rfl, e22⟩ := e22
  subst S22
  refine J_lstore_n (lv' := [(1, _), (0, _)]) hC dX5_digest_25 rfl (by decide) rfl ?_
  refine J_lload_n 0 hC dX5_digest_26 rfl rfl ?_
  refine J_aload_n 1 hC dX5_digest_27 rfl rfl ?_
  refine fg_X5_12 hC hs1.kx hs1.pz dX5_digest_28 ?_
  refine fg_X5_57 hC hs1.kz dX5_digest_31 ?_
  refine J_topI hv1.1.2.1 ?_
  refine cl_X5_216 hC (c_X5_blend S1 _ _) (Nat.le_of_ble_eq_true rfl) ⟨⟨Nat.le_of_ble_eq_true rfl, Nat.le_of_ble_eq_true rfl⟩, Nat.le_of_ble_eq_true rfl, Nat.le_of_ble_eq_true rfl⟩ dX5_digest_34 (fun r34 S34 e34 => ?_)
  obtain ⟨rfl, e34⟩ := e34
  subst S34
  refine J_lstore_n (lv' := [(1, _), (0, _)]) hC dX5_digest_37 rfl (by decide) rfl ?_
  refine J_lload_n 0 hC dX5_digest_38 rfl rfl ?_
  refine J_aload_n 1 hC dX5_digest_39 rfl rfl ?_
  refine fg_X5_12 hC hs1.kx hs1.pz dX5_digest_40 ?_
  refine fg_X5_220 hC hs1.kz dX5_digest_43 ?_
  refine J_topI hv1.1.1 ?_
  refine cl_X5_216 hC (c_X5_blend S1 _ _) (Nat.le_of_ble_eq_true rfl) ⟨⟨Nat.le_of_ble_eq_true rfl, Nat.le_of_ble_eq_true rfl⟩, Nat.le_of_ble_eq_true rfl, Nat.le_of_ble_eq_true rfl⟩ dX5_digest_46 (fun r46 S46 e46 => ?_)
  obtain ⟨rfl, e46⟩ := e46
  subst S46
  refine J_lstore_n (lv' := [(1, _), (0, _)]) hC dX5_digest_49 rfl (by decide) rfl ?_
  refine J_lload_n 0 hC dX5_digest_50 rfl rfl ?_
  refine J_aload_n 1 hC dX5_digest_51 rfl rfl ?_
  refine fg_X5_18 hC hs1.kx hs1.pm dX5_digest_52 ?_
  refine fg_X5_220 hC hs1.km dX5_digest_55 ?_
  refine J_topI hv1.2.1.1 ?_
  refine cl_X5_216 hC (c_X5_blend S1 _ _) (Nat.le_of_ble_eq_true rfl) ⟨⟨Nat.le_of_ble_eq_true rfl, Nat.le_of_ble_eq_true rfl⟩, Nat.le_of_ble_eq_true rfl, Nat.le_of_ble_eq_true rfl⟩ dX5_digest_58 (fun r58 S58 e58 => ?_)
  obtain ⟨rfl, e58⟩ := e58
  subst S58
  refine J_lstore_n (lv' := [(1, _), (0, _)]) hC dX5_digest_61 rfl (by decide) rfl ?_
  refine J_lload_n 0 hC dX5_digest_62 rfl rfl ?_
  refine J_aload_n 1 hC dX5_digest_63 rfl rfl ?_
  refine fg_X5_18 hC hs1.kx hs1.pm dX5_digest_64 ?_
  refine fg_X5_57 hC hs1.km dX5_digest_67 ?_
  refine J_topI hv1.2.1.2.1 ?_
  refine cl_X5_216 hC (c_X5_blend S1 _ _) (Nat.le_of_ble_eq_true rfl) ⟨⟨Nat.le_of_ble_eq_true rfl, Nat.le_of_ble_eq_true rfl⟩, Nat.le_of_ble_eq_true rfl, Nat.le_of_ble_eq_true rfl⟩ dX5_digest_70 (fun r70 S70 e70 => ?_)
  obtain ⟨rfl, e70⟩ := e70
  subst S70
  refine J_lstore_n (lv' := [(1, _), (0, _)]) hC dX5_digest_73 rfl (by decide) rfl ?_
  refine J_lload_n 0 hC dX5_digest_74 rfl rfl ?_
  refine J_aload_n 1 hC dX5_digest_75 rfl rfl ?_
  refine fg_X5_71 hC hs1.kx dX5_digest_76 ?_
  refine J_topI hv1.2.2.1.1 ?_
  refine cl_X5_216 hC (c_X5_blend S1 _ _) (Nat.le_of_ble_eq_true rfl) ⟨⟨Nat.le_of_ble_eq_true rfl, Nat.le_of_ble_eq_true rfl⟩, Nat.le_of_ble_eq_true rfl, Nat.le_of_ble_eq_true rfl⟩ dX5_digest_79 (fun r79 S79 e79 => ?_)
  obtain ⟨rfl, e79⟩ := e79
  subst S79
  refine J_lstore_n (lv' := [(1, _), (0, _)]) hC dX5_digest_82 rfl (by decide) rfl ?_
  refine J_aload_n 1 hC dX5_digest_83 rfl rfl ?_
  refine J_aload_n 1 hC dX5_digest_84 rfl rfl ?_
  refine J_lload_n 0 hC dX5_digest_85 rfl rfl ?_
  refine cl_X5_223 hC (c_X5_blendTargets S1 x A σ hs1 hv1 ho1 _) hs1.kx (Nat.le_of_ble_eq_true rfl) ⟨⟨Nat.le_of_ble_eq_true rfl, Nat.le_of_ble_eq_true rfl⟩, Nat.le_of_ble_eq_true rfl, Nat.le_of_ble_eq_true rfl⟩ dX5_digest_86 (fun r86 S86 e86 => ?_)
  obtain ⟨rfl, e86⟩ := e86
  subst S86
  refine cl_X5_227 hC (c_X5_blendPlan S1 x A σ hs1 hv1 hp1 _) hs1.kx (Nat.le_of_ble_eq_true rfl) ⟨⟨Nat.le_of_ble_eq_true rfl, Nat.le_of_ble_eq_true rfl⟩, Nat.le_of_ble_eq_true rfl, Nat.le_of_ble_eq_true rfl⟩ dX5_digest_89 (fun r89 S89 e89 => ?_)
  obtain ⟨rfl, e89⟩ := e89
  subst S89
  exact J_lretI hC dX5_digest_92 (Nat.le_of_ble_eq_true rfl) (Nat.le_of_ble_eq_true rfl) ⟨hc1, hf1, rfl⟩
