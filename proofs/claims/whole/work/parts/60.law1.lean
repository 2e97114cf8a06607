/-! the law's wrappers: printed by wip/whole/law1.py -/
abbrev P_setSite (σ : Sg) (v w : Int32) (kc r : Int32) (σ' : Sg) : Prop := (kc = 0 ∧ σ' = setG (setG σ 0 v) 1 w ∧ ((-90 ≤ v ∧ v ≤ 90) ∧ (0 ≤ w ∧ w ≤ 1439)) ∧ r = vg σ 0) ∨ (kc = 1 ∧ σ' = σ ∧ ¬ ((-90 ≤ v ∧ v ≤ 90) ∧ (0 ≤ w ∧ w ≤ 1439)))
set_option maxHeartbeats 4000000 in
set_option maxRecDepth 100000 in
/-- the law's setSite -/
theorem w_setSite {G : JG} (S : HS) (x o : Nat) (σ : Sg) (h : ∃ A, CI G x A σ S) (ho : hK S o = 14) (hn : hN S o = 1) (v w : Int32) : CtX G yL_setSite cL_setSite 5 (some .int) [(0, 10, 13, 13)] 11 430 70 1200 [.ref x, .int v, .int w, .ref o] S (rI (LWP G x o S Int32.toInt64 (P_setSite σ v w))) noX := by
  obtain ⟨A, h⟩ := h
  refine CtX.of (by decide) (Nat.le_of_ble_eq_true rfl) (fun X hC hE => ?_)
  refine J_aload_n 3 hC dL_setSite_0 rfl rfl ?_
  refine J_iconst (v := 0) hC dL_setSite_1 (by decide) ?_
  refine J_aload_n 0 hC dL_setSite_2 rfl rfl ?_
  refine J_iload_n 1 hC dL_setSite_3 rfl rfl ?_
  refine J_iload_n 2 hC dL_setSite_4 rfl rfl ?_
  refine cl_L_7 hC (c_X5_setSite S x A σ h v w) h.1.kx (Nat.le_of_ble_eq_true rfl) ⟨⟨Nat.le_of_ble_eq_true rfl, Nat.le_of_ble_eq_true rfl⟩, Nat.le_of_ble_eq_true rfl, Nat.le_of_ble_eq_true rfl⟩ dL_setSite_5 (fun E S' e => ?_) (fun r S' e => ?_)
  · obtain ⟨rfl, rfl, c⟩ := e
    refine JT_catch (name := eIA) hC [] ⟨0, 10, 13, 13⟩ [] hE (fun z hz => absurd hz List.not_mem_nil) rfl (by decide) (mG 336 (by decide +kernel) rfl) (mN 346 (by decide +kernel) rfl) (fun q => ?_)
    refine J_astore (lv' := [(4, _), (0, _), (1, _), (2, _), (3, _)]) hC dL_setSite_13 (by decide) rfl ?_
    refine J_iconst (v := 1) hC dL_setSite_15 (by decide) ?_
    exact J_iretI hC dL_setSite_16 (Nat.le_of_ble_eq_true rfl) (Nat.le_of_ble_eq_true rfl) (LWP.no 0 (CS.rfl h) ho hn (Or.inr (⟨rfl, rfl, c⟩)) (by decide))
  · obtain ⟨cs, e⟩ := e
    refine J_i2l hC dL_setSite_8 ?_
    refine J_last hC (cs.ho ho) (inN (cs.hn ho hn) (vp_in_nI (show 0 < 1 by decide) (by decide))) dL_setSite_9 ?_
    refine J_goto 17 hC dL_setSite_10 (by decide) ?_
    refine J_iconst (v := 0) hC dL_setSite_17 (by decide) ?_
    exact J_iretI hC dL_setSite_18 (Nat.le_of_ble_eq_true rfl) (Nat.le_of_ble_eq_true rfl) (LWP.ok r _ cs ho hn (Or.inl ⟨rfl, rfl, e⟩) (rfl))

abbrev P_setLength (σ : Sg) (v : Int32) (kc r : Int32) (σ' : Sg) : Prop := (kc = 0 ∧ σ' = setG σ 2 v ∧ (60 ≤ v ∧ v ≤ 900) ∧ r = vg σ 2) ∨ (kc = 1 ∧ σ' = σ ∧ ¬ (60 ≤ v ∧ v ≤ 900))
set_option maxHeartbeats 4000000 in
set_option maxRecDepth 100000 in
/-- the law's setLength -/
theorem w_setLength {G : JG} (S : HS) (x o : Nat) (σ : Sg) (h : ∃ A, CI G x A σ S) (ho : hK S o = 14) (hn : hN S o = 1) (v : Int32) : CtX G yL_setLength cL_setLength 4 (some .int) [(0, 9, 12, 13)] 11 430 70 1200 [.ref x, .int v, .ref o] S (rI (LWP G x o S Int32.toInt64 (P_setLength σ v))) noX := by
  obtain ⟨A, h⟩ := h
  refine CtX.of (by decide) (Nat.le_of_ble_eq_true rfl) (fun X hC hE => ?_)
  refine J_aload_n 2 hC dL_setLength_0 rfl rfl ?_
  refine J_iconst (v := 0) hC dL_setLength_1 (by decide) ?_
  refine J_aload_n 0 hC dL_setLength_2 rfl rfl ?_
  refine J_iload_n 1 hC dL_setLength_3 rfl rfl ?_
  refine cl_L_15 hC (c_X5_setLength S x A σ h v) h.1.kx (Nat.le_of_ble_eq_true rfl) ⟨⟨Nat.le_of_ble_eq_true rfl, Nat.le_of_ble_eq_true rfl⟩, Nat.le_of_ble_eq_true rfl, Nat.le_of_ble_eq_true rfl⟩ dL_setLength_4 (fun E S' e => ?_) (fun r S' e => ?_)
  · obtain ⟨rfl, rfl, c⟩ := e
    refine JT_catch (name := eIA) hC [] ⟨0, 9, 12, 13⟩ [] hE (fun z hz => absurd hz List.not_mem_nil) rfl (by decide) (mG 336 (by decide +kernel) rfl) (mN 346 (by decide +kernel) rfl) (fun q => ?_)
    refine J_astore_n (lv' := [(3, _), (0, _), (1, _), (2, _)]) hC dL_setLength_12 rfl (by decide) rfl ?_
    refine J_iconst (v := 1) hC dL_setLength_13 (by decide) ?_
    exact J_iretI hC dL_setLength_14 (Nat.le_of_ble_eq_true rfl) (Nat.le_of_ble_eq_true rfl) (LWP.no 0 (CS.rfl h) ho hn (Or.inr (⟨rfl, rfl, c⟩)) (by decide))
  · obtain ⟨cs, e⟩ := e
    refine J_i2l hC dL_setLength_7 ?_
    refine J_last hC (cs.ho ho) (inN (cs.hn ho hn) (vp_in_nI (show 0 < 1 by decide) (by decide))) dL_setLength_8 ?_
    refine J_goto 15 hC dL_setLength_9 (by decide) ?_
    refine J_iconst (v := 0) hC dL_setLength_15 (by decide) ?_
    exact J_iretI hC dL_setLength_16 (Nat.le_of_ble_eq_true rfl) (Nat.le_of_ble_eq_true rfl) (LWP.ok r _ cs ho hn (Or.inl ⟨rfl, rfl, e⟩) (rfl))

abbrev P_setMoon (σ : Sg) (u v w : Int32) (kc r : Int32) (σ' : Sg) : Prop := (kc = 0 ∧ σ' = setG (setG (setG σ 4 u) 5 v) 6 w ∧ (((0 ≤ u ∧ u ≤ 1439) ∧ (-90 ≤ v ∧ v ≤ 90)) ∧ (0 ≤ w ∧ w ≤ 29)) ∧ r = lightV w) ∨ (kc = 1 ∧ σ' = σ ∧ ¬ (((0 ≤ u ∧ u ≤ 1439) ∧ (-90 ≤ v ∧ v ≤ 90)) ∧ (0 ≤ w ∧ w ≤ 29)))
set_option maxHeartbeats 4000000 in
set_option maxRecDepth 100000 in
/-- the law's setMoon -/
theorem w_setMoon {G : JG} (S : HS) (x o : Nat) (σ : Sg) (h : ∃ A, CI G x A σ S) (ho : hK S o = 14) (hn : hN S o = 1) (u v w : Int32) : CtX G yL_setMoon cL_setMoon 6 (some .int) [(0, 12, 15, 13)] 11 430 70 1200 [.ref x, .int u, .int v, .int w, .ref o] S (rI (LWP G x o S Int32.toInt64 (P_setMoon σ u v w))) noX := by
  obtain ⟨A, h⟩ := h
  refine CtX.of (by decide) (Nat.le_of_ble_eq_true rfl) (fun X hC hE => ?_)
  refine J_aload 4 hC dL_setMoon_0 rfl ?_
  refine J_iconst (v := 0) hC dL_setMoon_2 (by decide) ?_
  refine J_aload_n 0 hC dL_setMoon_3 rfl rfl ?_
  refine J_iload_n 1 hC dL_setMoon_4 rfl rfl ?_
  refine J_iload_n 2 hC dL_setMoon_5 rfl rfl ?_
  refine J_iload_n 3 hC dL_setMoon_6 rfl rfl ?_
  refine cl_L_19 hC (c_X5_setMoon S x A σ h u v w) h.1.kx (Nat.le_of_ble_eq_true rfl) ⟨⟨Nat.le_of_ble_eq_true rfl, Nat.le_of_ble_eq_true rfl⟩, Nat.le_of_ble_eq_true rfl, Nat.le_of_ble_eq_true rfl⟩ dL_setMoon_7 (fun E S' e => ?_) (fun r S' e => ?_)
  · obtain ⟨rfl, rfl, c⟩ := e
    refine JT_catch (name := eIA) hC [] ⟨0, 12, 15, 13⟩ [] hE (fun z hz => absurd hz List.not_mem_nil) rfl (by decide) (mG 336 (by decide +kernel) rfl) (mN 346 (by decide +kernel) rfl) (fun q => ?_)
    refine J_astore (lv' := [(5, _), (0, _), (1, _), (2, _), (3, _), (4, _)]) hC dL_setMoon_15 (by decide) rfl ?_
    refine J_iconst (v := 1) hC dL_setMoon_17 (by decide) ?_
    exact J_iretI hC dL_setMoon_18 (Nat.le_of_ble_eq_true rfl) (Nat.le_of_ble_eq_true rfl) (LWP.no 0 (CS.rfl h) ho hn (Or.inr (⟨rfl, rfl, c⟩)) (by decide))
  · obtain ⟨cs, e⟩ := e
    refine J_i2l hC dL_setMoon_10 ?_
    refine J_last hC (cs.ho ho) (inN (cs.hn ho hn) (vp_in_nI (show 0 < 1 by decide) (by decide))) dL_setMoon_11 ?_
    refine J_goto 19 hC dL_setMoon_12 (by decide) ?_
    refine J_iconst (v := 0) hC dL_setMoon_19 (by decide) ?_
    exact J_iretI hC dL_setMoon_20 (Nat.le_of_ble_eq_true rfl) (Nat.le_of_ble_eq_true rfl) (LWP.ok r _ cs ho hn (Or.inl ⟨rfl, rfl, e⟩) (rfl))

abbrev P_addClouds (σ : Sg) (v w : Int32) (kc r : Int32) (σ' : Sg) : Prop := (kc = 0 ∧ σ' = addC σ v w ∧ (0 ≤ v ∧ v ≤ w ∧ w < vg σ 2) ∧ vc σ < 8 ∧ r = clN (addC σ v w) (lnV σ)) ∨ (kc = 1 ∧ σ' = σ ∧ ¬ (0 ≤ v ∧ v ≤ w ∧ w < vg σ 2)) ∨ (kc = 2 ∧ σ' = σ ∧ (0 ≤ v ∧ v ≤ w ∧ w < vg σ 2) ∧ vc σ = 8)
set_option maxHeartbeats 4000000 in
set_option maxRecDepth 100000 in
/-- the law's addClouds -/
theorem w_addClouds {G : JG} (S : HS) (x o : Nat) (σ : Sg) (h : ∃ A, CI G x A σ S) (ho : hK S o = 14) (hn : hN S o = 1) (v w : Int32) : CtX G yL_addClouds cL_addClouds 5 (some .int) [(0, 10, 13, 13), (0, 10, 17, 26)] 11 430 70 1200 [.ref x, .int v, .int w, .ref o] S (rI (LWP G x o S Int32.toInt64 (P_addClouds σ v w))) noX := by
  obtain ⟨A, h⟩ := h
  refine CtX.of (by decide) (Nat.le_of_ble_eq_true rfl) (fun X hC hE => ?_)
  refine J_aload_n 3 hC dL_addClouds_0 rfl rfl ?_
  refine J_iconst (v := 0) hC dL_addClouds_1 (by decide) ?_
  refine J_aload_n 0 hC dL_addClouds_2 rfl rfl ?_
  refine J_iload_n 1 hC dL_addClouds_3 rfl rfl ?_
  refine J_iload_n 2 hC dL_addClouds_4 rfl rfl ?_
  refine cl_L_23 hC (c_X5_addClouds S x A σ h v w) h.1.kx (Nat.le_of_ble_eq_true rfl) ⟨⟨Nat.le_of_ble_eq_true rfl, Nat.le_of_ble_eq_true rfl⟩, Nat.le_of_ble_eq_true rfl, Nat.le_of_ble_eq_true rfl⟩ dL_addClouds_5 (fun E S' e => ?_) (fun r S' e => ?_)
  · rcases e with ⟨rfl, rfl, c⟩ | ⟨rfl, rfl, c⟩
    · refine JT_catch (name := eIA) hC [] ⟨0, 10, 13, 13⟩ [⟨0, 10, 17, 26⟩] hE (fun z hz => absurd hz List.not_mem_nil) rfl (by decide) (mG 336 (by decide +kernel) rfl) (mN 346 (by decide +kernel) rfl) (fun q => ?_)
      refine J_astore (lv' := [(4, _), (0, _), (1, _), (2, _), (3, _)]) hC dL_addClouds_13 (by decide) rfl ?_
      refine J_iconst (v := 1) hC dL_addClouds_15 (by decide) ?_
      exact J_iretI hC dL_addClouds_16 (Nat.le_of_ble_eq_true rfl) (Nat.le_of_ble_eq_true rfl) (LWP.no 0 (CS.rfl h) ho hn (Or.inr (Or.inl ⟨rfl, rfl, c⟩)) (by decide))
    · refine JT_catch (name := eIS) hC [⟨0, 10, 13, 13⟩] ⟨0, 10, 17, 26⟩ [] hE (fun z hz => by rw [List.mem_singleton] at hz; subst hz; exact Or.inr ⟨by decide, eIA, mG 336 (by decide +kernel) rfl, by decide⟩) rfl (by decide) (mG 438 (by decide +kernel) rfl) (mN 446 (by decide +kernel) rfl) (fun q => ?_)
      refine J_astore (lv' := [(4, _), (0, _), (1, _), (2, _), (3, _)]) hC dL_addClouds_17 (by decide) rfl ?_
      refine J_iconst (v := 2) hC dL_addClouds_19 (by decide) ?_
      exact J_iretI hC dL_addClouds_20 (Nat.le_of_ble_eq_true rfl) (Nat.le_of_ble_eq_true rfl) (LWP.no 0 (CS.rfl h) ho hn (Or.inr (Or.inr ⟨rfl, rfl, c⟩)) (by decide))
  · obtain ⟨cs, e⟩ := e
    refine J_i2l hC dL_addClouds_8 ?_
    refine J_last hC (cs.ho ho) (inN (cs.hn ho hn) (vp_in_nI (show 0 < 1 by decide) (by decide))) dL_addClouds_9 ?_
    refine J_goto 21 hC dL_addClouds_10 (by decide) ?_
    refine J_iconst (v := 0) hC dL_addClouds_21 (by decide) ?_
    exact J_iretI hC dL_addClouds_22 (Nat.le_of_ble_eq_true rfl) (Nat.le_of_ble_eq_true rfl) (LWP.ok r _ cs ho hn (Or.inl ⟨rfl, rfl, e⟩) (rfl))

abbrev P_sine (σ : Sg) (d : Int32) (kc r : Int32) (σ' : Sg) : Prop := (kc = 0 ∧ σ' = σ ∧ (-10000 ≤ d ∧ d ≤ 10000) ∧ r = sn d) ∨ (kc = 1 ∧ σ' = σ ∧ ¬ (-10000 ≤ d ∧ d ≤ 10000))
set_option maxHeartbeats 4000000 in
set_option maxRecDepth 100000 in
/-- the law's sine -/
theorem w_sine {G : JG} (S : HS) (x o : Nat) (σ : Sg) (h : ∃ A, CI G x A σ S) (ho : hK S o = 14) (hn : hN S o = 1) (d : Int32) : CtX G yL_sine cL_sine 4 (some .int) [(0, 9, 12, 13)] 11 430 70 1200 [.ref x, .int d, .ref o] S (rI (LWP G x o S Int32.toInt64 (P_sine σ d))) noX := by
  obtain ⟨A, h⟩ := h
  refine CtX.of (by decide) (Nat.le_of_ble_eq_true rfl) (fun X hC hE => ?_)
  refine J_aload_n 2 hC dL_sine_0 rfl rfl ?_
  refine J_iconst (v := 0) hC dL_sine_1 (by decide) ?_
  refine J_aload_n 0 hC dL_sine_2 rfl rfl ?_
  refine J_iload_n 1 hC dL_sine_3 rfl rfl ?_
  refine cl_L_28 hC (c_X5_sine S x d) h.1.kx (Nat.le_of_ble_eq_true rfl) ⟨⟨Nat.le_of_ble_eq_true rfl, Nat.le_of_ble_eq_true rfl⟩, Nat.le_of_ble_eq_true rfl, Nat.le_of_ble_eq_true rfl⟩ dL_sine_4 (fun E S' e => ?_) (fun r S' e => ?_)
  · obtain ⟨rfl, rfl, c⟩ := e
    refine JT_catch (name := eIA) hC [] ⟨0, 9, 12, 13⟩ [] hE (fun z hz => absurd hz List.not_mem_nil) rfl (by decide) (mG 336 (by decide +kernel) rfl) (mN 346 (by decide +kernel) rfl) (fun q => ?_)
    refine J_astore_n (lv' := [(3, _), (0, _), (1, _), (2, _)]) hC dL_sine_12 rfl (by decide) rfl ?_
    refine J_iconst (v := 1) hC dL_sine_13 (by decide) ?_
    exact J_iretI hC dL_sine_14 (Nat.le_of_ble_eq_true rfl) (Nat.le_of_ble_eq_true rfl) (LWP.no 0 (CS.rfl h) ho hn (Or.inr (⟨rfl, rfl, c⟩)) (by decide))
  · obtain ⟨se, e⟩ := e
    subst se
    have cs := CS.rfl h
    refine J_i2l hC dL_sine_7 ?_
    refine J_last hC (cs.ho ho) (inN (cs.hn ho hn) (vp_in_nI (show 0 < 1 by decide) (by decide))) dL_sine_8 ?_
    refine J_goto 15 hC dL_sine_9 (by decide) ?_
    refine J_iconst (v := 0) hC dL_sine_15 (by decide) ?_
    exact J_iretI hC dL_sine_16 (Nat.le_of_ble_eq_true rfl) (Nat.le_of_ble_eq_true rfl) (LWP.ok r _ cs ho hn (Or.inl ⟨rfl, rfl, e⟩) (rfl))

abbrev P_addTarget (σ : Sg) (u v f w m : Int32) (kc r : Int32) (σ' : Sg) : Prop := (kc = 0 ∧ σ' = addT σ u v f w m ∧ (((0 ≤ u ∧ u ≤ 1439) ∧ (-90 ≤ v ∧ v ≤ 90)) ∧ (0 ≤ f ∧ f ≤ 3) ∧ (1 ≤ w ∧ w ≤ 9) ∧ (5 ≤ m ∧ m ≤ 120)) ∧ vn σ < 20 ∧ r = nI (vn σ)) ∨ (kc = 1 ∧ σ' = σ ∧ ¬ (((0 ≤ u ∧ u ≤ 1439) ∧ (-90 ≤ v ∧ v ≤ 90)) ∧ (0 ≤ f ∧ f ≤ 3) ∧ (1 ≤ w ∧ w ≤ 9) ∧ (5 ≤ m ∧ m ≤ 120))) ∨ (kc = 2 ∧ σ' = σ ∧ (((0 ≤ u ∧ u ≤ 1439) ∧ (-90 ≤ v ∧ v ≤ 90)) ∧ (0 ≤ f ∧ f ≤ 3) ∧ (1 ≤ w ∧ w ≤ 9) ∧ (5 ≤ m ∧ m ≤ 120)) ∧ vn σ = 20)
set_option maxHeartbeats 4000000 in
set_option maxRecDepth 100000 in
/-- the law's addTarget -/
theorem w_addTarget {G : JG} (S : HS) (x o : Nat) (σ : Sg) (h : ∃ A, CI G x A σ S) (ho : hK S o = 14) (hn : hN S o = 1) (u v f w m : Int32) : CtX G yL_addTarget cL_addTarget 8 (some .int) [(0, 16, 19, 13), (0, 16, 23, 26)] 11 430 70 1200 [.ref x, .int u, .int v, .int f, .int w, .int m, .ref o] S (rI (LWP G x o S Int32.toInt64 (P_addTarget σ u v f w m))) noX := by
  obtain ⟨A, h⟩ := h
  refine CtX.of (by decide) (Nat.le_of_ble_eq_true rfl) (fun X hC hE => ?_)
  refine J_aload 6 hC dL_addTarget_0 rfl ?_
  refine J_iconst (v := 0) hC dL_addTarget_2 (by decide) ?_
  refine J_aload_n 0 hC dL_addTarget_3 rfl rfl ?_
  refine J_iload_n 1 hC dL_addTarget_4 rfl rfl ?_
  refine J_iload_n 2 hC dL_addTarget_5 rfl rfl ?_
  refine J_iload_n 3 hC dL_addTarget_6 rfl rfl ?_
  refine J_iload 4 hC dL_addTarget_7 rfl ?_
  refine J_iload 5 hC dL_addTarget_9 rfl ?_
  refine cl_L_31 hC (c_X5_addTarget S x A σ h u v f w m) h.1.kx (Nat.le_of_ble_eq_true rfl) ⟨⟨Nat.le_of_ble_eq_true rfl, Nat.le_of_ble_eq_true rfl⟩, Nat.le_of_ble_eq_true rfl, Nat.le_of_ble_eq_true rfl⟩ dL_addTarget_11 (fun E S' e => ?_) (fun r S' e => ?_)
  · rcases e with ⟨rfl, rfl, c⟩ | ⟨rfl, rfl, c⟩
    · refine JT_catch (name := eIA) hC [] ⟨0, 16, 19, 13⟩ [⟨0, 16, 23, 26⟩] hE (fun z hz => absurd hz List.not_mem_nil) rfl (by decide) (mG 336 (by decide +kernel) rfl) (mN 346 (by decide +kernel) rfl) (fun q => ?_)
      refine J_astore (lv' := [(7, _), (0, _), (1, _), (2, _), (3, _), (4, _), (5, _), (6, _)]) hC dL_addTarget_19 (by decide) rfl ?_
      refine J_iconst (v := 1) hC dL_addTarget_21 (by decide) ?_
      exact J_iretI hC dL_addTarget_22 (Nat.le_of_ble_eq_true rfl) (Nat.le_of_ble_eq_true rfl) (LWP.no 0 (CS.rfl h) ho hn (Or.inr (Or.inl ⟨rfl, rfl, c⟩)) (by decide))
    · refine JT_catch (name := eIS) hC [⟨0, 16, 19, 13⟩] ⟨0, 16, 23, 26⟩ [] hE (fun z hz => by rw [List.mem_singleton] at hz; subst hz; exact Or.inr ⟨by decide, eIA, mG 336 (by decide +kernel) rfl, by decide⟩) rfl (by decide) (mG 438 (by decide +kernel) rfl) (mN 446 (by decide +kernel) rfl) (fun q => ?_)
      refine J_astore (lv' := [(7, _), (0, _), (1, _), (2, _), (3, _), (4, _), (5, _), (6, _)]) hC dL_addTarget_23 (by decide) rfl ?_
      refine J_iconst (v := 2) hC dL_addTarget_25 (by decide) ?_
      exact J_iretI hC dL_addTarget_26 (Nat.le_of_ble_eq_true rfl) (Nat.le_of_ble_eq_true rfl) (LWP.no 0 (CS.rfl h) ho hn (Or.inr (Or.inr ⟨rfl, rfl, c⟩)) (by decide))
  · obtain ⟨c1, c2, cs, e⟩ := e
    have e := And.intro c1 (And.intro c2 e)
    refine J_i2l hC dL_addTarget_14 ?_
    refine J_last hC (cs.ho ho) (inN (cs.hn ho hn) (vp_in_nI (show 0 < 1 by decide) (by decide))) dL_addTarget_15 ?_
    refine J_goto 27 hC dL_addTarget_16 (by decide) ?_
    refine J_iconst (v := 0) hC dL_addTarget_27 (by decide) ?_
    exact J_iretI hC dL_addTarget_28 (Nat.le_of_ble_eq_true rfl) (Nat.le_of_ble_eq_true rfl) (LWP.ok r _ cs ho hn (Or.inl ⟨rfl, rfl, e⟩) (rfl))

abbrev P_want (σ : Sg) (t u v w : Int32) (kc r : Int32) (σ' : Sg) : Prop := (kc = 0 ∧ ((-1000 ≤ u ∧ u ≤ 1000) ∧ (1 ≤ v ∧ v ≤ 10) ∧ (1 ≤ w ∧ w ≤ 20)) ∧ ∃ k, k < vn σ ∧ t = nI k ∧ σ' = upT σ k (wnF σ k u v w) ∧ r = vt σ k 6) ∨ (kc = 1 ∧ σ' = σ ∧ ¬ isTg (vn σ) t) ∨ (kc = 2 ∧ σ' = σ ∧ isTg (vn σ) t ∧ ¬ ((-1000 ≤ u ∧ u ≤ 1000) ∧ (1 ≤ v ∧ v ≤ 10) ∧ (1 ≤ w ∧ w ≤ 20)))
set_option maxHeartbeats 4000000 in
set_option maxRecDepth 100000 in
/-- the law's want -/
theorem w_want {G : JG} (S : HS) (x o : Nat) (σ : Sg) (h : ∃ A, CI G x A σ S) (ho : hK S o = 14) (hn : hN S o = 1) (t u v w : Int32) : CtX G yL_want cL_want 7 (some .int) [(0, 14, 17, 39), (0, 14, 21, 13)] 11 430 70 1200 [.ref x, .int t, .int u, .int v, .int w, .ref o] S (rI (LWP G x o S Int32.toInt64 (P_want σ t u v w))) noX := by
  obtain ⟨A, h⟩ := h
  refine CtX.of (by decide) (Nat.le_of_ble_eq_true rfl) (fun X hC hE => ?_)
  refine J_aload 5 hC dL_want_0 rfl ?_
  refine J_iconst (v := 0) hC dL_want_2 (by decide) ?_
  refine J_aload_n 0 hC dL_want_3 rfl rfl ?_
  refine J_iload_n 1 hC dL_want_4 rfl rfl ?_
  refine J_iload_n 2 hC dL_want_5 rfl rfl ?_
  refine J_iload_n 3 hC dL_want_6 rfl rfl ?_
  refine J_iload 4 hC dL_want_7 rfl ?_
  refine cl_L_35 hC (c_X5_want S x A σ h t u v w) h.1.kx (Nat.le_of_ble_eq_true rfl) ⟨⟨Nat.le_of_ble_eq_true rfl, Nat.le_of_ble_eq_true rfl⟩, Nat.le_of_ble_eq_true rfl, Nat.le_of_ble_eq_true rfl⟩ dL_want_9 (fun E S' e => ?_) (fun r S' e => ?_)
  · rcases e with ⟨rfl, rfl, c⟩ | ⟨rfl, rfl, c⟩
    · refine JT_catch (name := eIO) hC [] ⟨0, 14, 17, 39⟩ [⟨0, 14, 21, 13⟩] hE (fun z hz => absurd hz List.not_mem_nil) rfl (by decide) (mG 631 (by decide +kernel) rfl) (mN 642 (by decide +kernel) rfl) (fun q => ?_)
      refine J_astore (lv' := [(6, _), (0, _), (1, _), (2, _), (3, _), (4, _), (5, _)]) hC dL_want_17 (by decide) rfl ?_
      refine J_iconst (v := 1) hC dL_want_19 (by decide) ?_
      exact J_iretI hC dL_want_20 (Nat.le_of_ble_eq_true rfl) (Nat.le_of_ble_eq_true rfl) (LWP.no 0 (CS.rfl h) ho hn (Or.inr (Or.inl ⟨rfl, rfl, c⟩)) (by decide))
    · refine JT_catch (name := eIA) hC [⟨0, 14, 17, 39⟩] ⟨0, 14, 21, 13⟩ [] hE (fun z hz => by rw [List.mem_singleton] at hz; subst hz; exact Or.inr ⟨by decide, eIO, mG 631 (by decide +kernel) rfl, by decide⟩) rfl (by decide) (mG 336 (by decide +kernel) rfl) (mN 346 (by decide +kernel) rfl) (fun q => ?_)
      refine J_astore (lv' := [(6, _), (0, _), (1, _), (2, _), (3, _), (4, _), (5, _)]) hC dL_want_21 (by decide) rfl ?_
      refine J_iconst (v := 2) hC dL_want_23 (by decide) ?_
      exact J_iretI hC dL_want_24 (Nat.le_of_ble_eq_true rfl) (Nat.le_of_ble_eq_true rfl) (LWP.no 0 (CS.rfl h) ho hn (Or.inr (Or.inr ⟨rfl, rfl, c⟩)) (by decide))
  · obtain ⟨c1, k, hk, ht, cs, e⟩ := e
    refine J_i2l hC dL_want_12 ?_
    refine J_last hC (cs.ho ho) (inN (cs.hn ho hn) (vp_in_nI (show 0 < 1 by decide) (by decide))) dL_want_13 ?_
    refine J_goto 25 hC dL_want_14 (by decide) ?_
    refine J_iconst (v := 0) hC dL_want_25 (by decide) ?_
    exact J_iretI hC dL_want_26 (Nat.le_of_ble_eq_true rfl) (Nat.le_of_ble_eq_true rfl) (LWP.ok r _ cs ho hn (Or.inl ⟨rfl, c1, k, hk, ht, rfl, e⟩) (rfl))

abbrev P_target (σ : Sg) (t w : Int32) (kc r : Int32) (σ' : Sg) : Prop := (kc = 0 ∧ σ' = σ ∧ ∃ k j, k < vn σ ∧ j < 10 ∧ t = nI k ∧ w = nI j ∧ r = vt σ k j) ∨ (kc = 1 ∧ σ' = σ ∧ ¬ (isTg (vn σ) t ∧ 0 ≤ w ∧ w < 10))
set_option maxHeartbeats 4000000 in
set_option maxRecDepth 100000 in
/-- the law's target -/
theorem w_target {G : JG} (S : HS) (x o : Nat) (σ : Sg) (h : ∃ A, CI G x A σ S) (ho : hK S o = 14) (hn : hN S o = 1) (t w : Int32) : CtX G yL_target cL_target 5 (some .int) [(0, 10, 13, 39)] 11 430 70 1200 [.ref x, .int t, .int w, .ref o] S (rI (LWP G x o S Int32.toInt64 (P_target σ t w))) noX := by
  obtain ⟨A, h⟩ := h
  refine CtX.of (by decide) (Nat.le_of_ble_eq_true rfl) (fun X hC hE => ?_)
  refine J_aload_n 3 hC dL_target_0 rfl rfl ?_
  refine J_iconst (v := 0) hC dL_target_1 (by decide) ?_
  refine J_aload_n 0 hC dL_target_2 rfl rfl ?_
  refine J_iload_n 1 hC dL_target_3 rfl rfl ?_
  refine J_iload_n 2 hC dL_target_4 rfl rfl ?_
  refine cl_L_41 hC (c_X5_target S x A σ h t w) h.1.kx (Nat.le_of_ble_eq_true rfl) ⟨⟨Nat.le_of_ble_eq_true rfl, Nat.le_of_ble_eq_true rfl⟩, Nat.le_of_ble_eq_true rfl, Nat.le_of_ble_eq_true rfl⟩ dL_target_5 (fun E S' e => ?_) (fun r S' e => ?_)
  · obtain ⟨rfl, rfl, c⟩ := e
    refine JT_catch (name := eIO) hC [] ⟨0, 10, 13, 39⟩ [] hE (fun z hz => absurd hz List.not_mem_nil) rfl (by decide) (mG 631 (by decide +kernel) rfl) (mN 642 (by decide +kernel) rfl) (fun q => ?_)
    refine J_astore (lv' := [(4, _), (0, _), (1, _), (2, _), (3, _)]) hC dL_target_13 (by decide) rfl ?_
    refine J_iconst (v := 1) hC dL_target_15 (by decide) ?_
    exact J_iretI hC dL_target_16 (Nat.le_of_ble_eq_true rfl) (Nat.le_of_ble_eq_true rfl) (LWP.no 0 (CS.rfl h) ho hn (Or.inr (⟨rfl, rfl, c⟩)) (by decide))
  · obtain ⟨se, e⟩ := e
    subst se
    have cs := CS.rfl h
    refine J_i2l hC dL_target_8 ?_
    refine J_last hC (cs.ho ho) (inN (cs.hn ho hn) (vp_in_nI (show 0 < 1 by decide) (by decide))) dL_target_9 ?_
    refine J_goto 17 hC dL_target_10 (by decide) ?_
    refine J_iconst (v := 0) hC dL_target_17 (by decide) ?_
    exact J_iretI hC dL_target_18 (Nat.le_of_ble_eq_true rfl) (Nat.le_of_ble_eq_true rfl) (LWP.ok r _ cs ho hn (Or.inl ⟨rfl, rfl, e⟩) (rfl))

abbrev P_height (σ : Sg) (t u : Int32) (kc r : Int32) (σ' : Sg) : Prop := (kc = 0 ∧ σ' = σ ∧ (0 ≤ u ∧ u ≤ vg σ 2 - 1) ∧ ∃ k, k < vn σ ∧ t = nI k ∧ r = thV σ k u) ∨ (kc = 1 ∧ σ' = σ ∧ ¬ isTg (vn σ) t) ∨ (kc = 2 ∧ σ' = σ ∧ isTg (vn σ) t ∧ ¬ (0 ≤ u ∧ u ≤ vg σ 2 - 1))
set_option maxHeartbeats 4000000 in
set_option maxRecDepth 100000 in
/-- the law's height -/
theorem w_height {G : JG} (S : HS) (x o : Nat) (σ : Sg) (h : ∃ A, CI G x A σ S) (ho : hK S o = 14) (hn : hN S o = 1) (t u : Int32) : CtX G yL_height cL_height 5 (some .int) [(0, 10, 13, 39), (0, 10, 17, 13)] 11 430 70 1200 [.ref x, .int t, .int u, .ref o] S (rI (LWP G x o S Int32.toInt64 (P_height σ t u))) noX := by
  obtain ⟨A, h⟩ := h
  refine CtX.of (by decide) (Nat.le_of_ble_eq_true rfl) (fun X hC hE => ?_)
  refine J_aload_n 3 hC dL_height_0 rfl rfl ?_
  refine J_iconst (v := 0) hC dL_height_1 (by decide) ?_
  refine J_aload_n 0 hC dL_height_2 rfl rfl ?_
  refine J_iload_n 1 hC dL_height_3 rfl rfl ?_
  refine J_iload_n 2 hC dL_height_4 rfl rfl ?_
  refine cl_L_44 hC (c_X5_height S x A σ h t u) h.1.kx (Nat.le_of_ble_eq_true rfl) ⟨⟨Nat.le_of_ble_eq_true rfl, Nat.le_of_ble_eq_true rfl⟩, Nat.le_of_ble_eq_true rfl, Nat.le_of_ble_eq_true rfl⟩ dL_height_5 (fun E S' e => ?_) (fun r S' e => ?_)
  · rcases e with ⟨rfl, rfl, c⟩ | ⟨rfl, rfl, c⟩
    · refine JT_catch (name := eIO) hC [] ⟨0, 10, 13, 39⟩ [⟨0, 10, 17, 13⟩] hE (fun z hz => absurd hz List.not_mem_nil) rfl (by decide) (mG 631 (by decide +kernel) rfl) (mN 642 (by decide +kernel) rfl) (fun q => ?_)
      refine J_astore (lv' := [(4, _), (0, _), (1, _), (2, _), (3, _)]) hC dL_height_13 (by decide) rfl ?_
      refine J_iconst (v := 1) hC dL_height_15 (by decide) ?_
      exact J_iretI hC dL_height_16 (Nat.le_of_ble_eq_true rfl) (Nat.le_of_ble_eq_true rfl) (LWP.no 0 (CS.rfl h) ho hn (Or.inr (Or.inl ⟨rfl, rfl, c⟩)) (by decide))
    · refine JT_catch (name := eIA) hC [⟨0, 10, 13, 39⟩] ⟨0, 10, 17, 13⟩ [] hE (fun z hz => by rw [List.mem_singleton] at hz; subst hz; exact Or.inr ⟨by decide, eIO, mG 631 (by decide +kernel) rfl, by decide⟩) rfl (by decide) (mG 336 (by decide +kernel) rfl) (mN 346 (by decide +kernel) rfl) (fun q => ?_)
      refine J_astore (lv' := [(4, _), (0, _), (1, _), (2, _), (3, _)]) hC dL_height_17 (by decide) rfl ?_
      refine J_iconst (v := 2) hC dL_height_19 (by decide) ?_
      exact J_iretI hC dL_height_20 (Nat.le_of_ble_eq_true rfl) (Nat.le_of_ble_eq_true rfl) (LWP.no 0 (CS.rfl h) ho hn (Or.inr (Or.inr ⟨rfl, rfl, c⟩)) (by decide))
  · obtain ⟨se, e⟩ := e
    subst se
    have cs := CS.rfl h
    refine J_i2l hC dL_height_8 ?_
    refine J_last hC (cs.ho ho) (inN (cs.hn ho hn) (vp_in_nI (show 0 < 1 by decide) (by decide))) dL_height_9 ?_
    refine J_goto 21 hC dL_height_10 (by decide) ?_
    refine J_iconst (v := 0) hC dL_height_21 (by decide) ?_
    exact J_iretI hC dL_height_22 (Nat.le_of_ble_eq_true rfl) (Nat.le_of_ble_eq_true rfl) (LWP.ok r _ cs ho hn (Or.inl ⟨rfl, rfl, e⟩) (rfl))

abbrev P_nearness (σ : Sg) (t u : Int32) (kc r : Int32) (σ' : Sg) : Prop := (kc = 0 ∧ σ' = σ ∧ ∃ k j, k < vn σ ∧ j < vn σ ∧ t = nI k ∧ u = nI j ∧ r = nearV (vt σ k 0) (vt σ k 1) (vt σ j 0) (vt σ j 1)) ∨ (kc = 1 ∧ σ' = σ ∧ ¬ (isTg (vn σ) t ∧ isTg (vn σ) u))
set_option maxHeartbeats 4000000 in
set_option maxRecDepth 100000 in
/-- the law's nearness -/
theorem w_nearness {G : JG} (S : HS) (x o : Nat) (σ : Sg) (h : ∃ A, CI G x A σ S) (ho : hK S o = 14) (hn : hN S o = 1) (t u : Int32) : CtX G yL_nearness cL_nearness 5 (some .int) [(0, 10, 13, 39)] 11 430 70 1200 [.ref x, .int t, .int u, .ref o] S (rI (LWP G x o S Int32.toInt64 (P_nearness σ t u))) noX := by
  obtain ⟨A, h⟩ := h
  refine CtX.of (by decide) (Nat.le_of_ble_eq_true rfl) (fun X hC hE => ?_)
  refine J_aload_n 3 hC dL_nearness_0 rfl rfl ?_
  refine J_iconst (v := 0) hC dL_nearness_1 (by decide) ?_
  refine J_aload_n 0 hC dL_nearness_2 rfl rfl ?_
  refine J_iload_n 1 hC dL_nearness_3 rfl rfl ?_
  refine J_iload_n 2 hC dL_nearness_4 rfl rfl ?_
  refine cl_L_47 hC (c_X5_nearness S x A σ h t u) h.1.kx (Nat.le_of_ble_eq_true rfl) ⟨⟨Nat.le_of_ble_eq_true rfl, Nat.le_of_ble_eq_true rfl⟩, Nat.le_of_ble_eq_true rfl, Nat.le_of_ble_eq_true rfl⟩ dL_nearness_5 (fun E S' e => ?_) (fun r S' e => ?_)
  · obtain ⟨rfl, rfl, c⟩ := e
    refine JT_catch (name := eIO) hC [] ⟨0, 10, 13, 39⟩ [] hE (fun z hz => absurd hz List.not_mem_nil) rfl (by decide) (mG 631 (by decide +kernel) rfl) (mN 642 (by decide +kernel) rfl) (fun q => ?_)
    refine J_astore (lv' := [(4, _), (0, _), (1, _), (2, _), (3, _)]) hC dL_nearness_13 (by decide) rfl ?_
    refine J_iconst (v := 1) hC dL_nearness_15 (by decide) ?_
    exact J_iretI hC dL_nearness_16 (Nat.le_of_ble_eq_true rfl) (Nat.le_of_ble_eq_true rfl) (LWP.no 0 (CS.rfl h) ho hn (Or.inr (⟨rfl, rfl, c⟩)) (by decide))
  · obtain ⟨se, e⟩ := e
    subst se
    have cs := CS.rfl h
    refine J_i2l hC dL_nearness_8 ?_
    refine J_last hC (cs.ho ho) (inN (cs.hn ho hn) (vp_in_nI (show 0 < 1 by decide) (by decide))) dL_nearness_9 ?_
    refine J_goto 17 hC dL_nearness_10 (by decide) ?_
    refine J_iconst (v := 0) hC dL_nearness_17 (by decide) ?_
    exact J_iretI hC dL_nearness_18 (Nat.le_of_ble_eq_true rfl) (Nat.le_of_ble_eq_true rfl) (LWP.ok r _ cs ho hn (Or.inl ⟨rfl, rfl, e⟩) (rfl))

abbrev P_moonNearness (σ : Sg) (t : Int32) (kc r : Int32) (σ' : Sg) : Prop := (kc = 0 ∧ σ' = σ ∧ ∃ k, k < vn σ ∧ t = nI k ∧ r = mnV σ k) ∨ (kc = 1 ∧ σ' = σ ∧ ¬ isTg (vn σ) t)
set_option maxHeartbeats 4000000 in
set_option maxRecDepth 100000 in
/-- the law's moonNearness -/
theorem w_moonNearness {G : JG} (S : HS) (x o : Nat) (σ : Sg) (h : ∃ A, CI G x A σ S) (ho : hK S o = 14) (hn : hN S o = 1) (t : Int32) : CtX G yL_moonNearness cL_moonNearness 4 (some .int) [(0, 9, 12, 39)] 11 430 70 1200 [.ref x, .int t, .ref o] S (rI (LWP G x o S Int32.toInt64 (P_moonNearness σ t))) noX := by
  obtain ⟨A, h⟩ := h
  refine CtX.of (by decide) (Nat.le_of_ble_eq_true rfl) (fun X hC hE => ?_)
  refine J_aload_n 2 hC dL_moonNearness_0 rfl rfl ?_
  refine J_iconst (v := 0) hC dL_moonNearness_1 (by decide) ?_
  refine J_aload_n 0 hC dL_moonNearness_2 rfl rfl ?_
  refine J_iload_n 1 hC dL_moonNearness_3 rfl rfl ?_
  refine cl_L_50 hC (c_X5_moonNearness S x A σ h t) h.1.kx (Nat.le_of_ble_eq_true rfl) ⟨⟨Nat.le_of_ble_eq_true rfl, Nat.le_of_ble_eq_true rfl⟩, Nat.le_of_ble_eq_true rfl, Nat.le_of_ble_eq_true rfl⟩ dL_moonNearness_4 (fun E S' e => ?_) (fun r S' e => ?_)
  · obtain ⟨rfl, rfl, c⟩ := e
    refine JT_catch (name := eIO) hC [] ⟨0, 9, 12, 39⟩ [] hE (fun z hz => absurd hz List.not_mem_nil) rfl (by decide) (mG 631 (by decide +kernel) rfl) (mN 642 (by decide +kernel) rfl) (fun q => ?_)
    refine J_astore_n (lv' := [(3, _), (0, _), (1, _), (2, _)]) hC dL_moonNearness_12 rfl (by decide) rfl ?_
    refine J_iconst (v := 1) hC dL_moonNearness_13 (by decide) ?_
    exact J_iretI hC dL_moonNearness_14 (Nat.le_of_ble_eq_true rfl) (Nat.le_of_ble_eq_true rfl) (LWP.no 0 (CS.rfl h) ho hn (Or.inr (⟨rfl, rfl, c⟩)) (by decide))
  · obtain ⟨se, e⟩ := e
    subst se
    have cs := CS.rfl h
    refine J_i2l hC dL_moonNearness_7 ?_
    refine J_last hC (cs.ho ho) (inN (cs.hn ho hn) (vp_in_nI (show 0 < 1 by decide) (by decide))) dL_moonNearness_8 ?_
    refine J_goto 15 hC dL_moonNearness_9 (by decide) ?_
    refine J_iconst (v := 0) hC dL_moonNearness_15 (by decide) ?_
    exact J_iretI hC dL_moonNearness_16 (Nat.le_of_ble_eq_true rfl) (Nat.le_of_ble_eq_true rfl) (LWP.ok r _ cs ho hn (Or.inl ⟨rfl, rfl, e⟩) (rfl))

abbrev P_moonHeight (σ : Sg) (u : Int32) (kc r : Int32) (σ' : Sg) : Prop := (kc = 0 ∧ σ' = σ ∧ (0 ≤ u ∧ u ≤ vg σ 2 - 1) ∧ r = mhV σ u) ∨ (kc = 1 ∧ σ' = σ ∧ ¬ (0 ≤ u ∧ u ≤ vg σ 2 - 1))
set_option maxHeartbeats 4000000 in
set_option maxRecDepth 100000 in
/-- the law's moonHeight -/
theorem w_moonHeight {G : JG} (S : HS) (x o : Nat) (σ : Sg) (h : ∃ A, CI G x A σ S) (ho : hK S o = 14) (hn : hN S o = 1) (u : Int32) : CtX G yL_moonHeight cL_moonHeight 4 (some .int) [(0, 9, 12, 13)] 11 430 70 1200 [.ref x, .int u, .ref o] S (rI (LWP G x o S Int32.toInt64 (P_moonHeight σ u))) noX := by
  obtain ⟨A, h⟩ := h
  refine CtX.of (by decide) (Nat.le_of_ble_eq_true rfl) (fun X hC hE => ?_)
  refine J_aload_n 2 hC dL_moonHeight_0 rfl rfl ?_
  refine J_iconst (v := 0) hC dL_moonHeight_1 (by decide) ?_
  refine J_aload_n 0 hC dL_moonHeight_2 rfl rfl ?_
  refine J_iload_n 1 hC dL_moonHeight_3 rfl rfl ?_
  refine cl_L_53 hC (c_X5_moonHeight S x A σ h u) h.1.kx (Nat.le_of_ble_eq_true rfl) ⟨⟨Nat.le_of_ble_eq_true rfl, Nat.le_of_ble_eq_true rfl⟩, Nat.le_of_ble_eq_true rfl, Nat.le_of_ble_eq_true rfl⟩ dL_moonHeight_4 (fun E S' e => ?_) (fun r S' e => ?_)
  · obtain ⟨rfl, rfl, c⟩ := e
    refine JT_catch (name := eIA) hC [] ⟨0, 9, 12, 13⟩ [] hE (fun z hz => absurd hz List.not_mem_nil) rfl (by decide) (mG 336 (by decide +kernel) rfl) (mN 346 (by decide +kernel) rfl) (fun q => ?_)
    refine J_astore_n (lv' := [(3, _), (0, _), (1, _), (2, _)]) hC dL_moonHeight_12 rfl (by decide) rfl ?_
    refine J_iconst (v := 1) hC dL_moonHeight_13 (by decide) ?_
    exact J_iretI hC dL_moonHeight_14 (Nat.le_of_ble_eq_true rfl) (Nat.le_of_ble_eq_true rfl) (LWP.no 0 (CS.rfl h) ho hn (Or.inr (⟨rfl, rfl, c⟩)) (by decide))
  · obtain ⟨se, e⟩ := e
    subst se
    have cs := CS.rfl h
    refine J_i2l hC dL_moonHeight_7 ?_
    refine J_last hC (cs.ho ho) (inN (cs.hn ho hn) (vp_in_nI (show 0 < 1 by decide) (by decide))) dL_moonHeight_8 ?_
    refine J_goto 15 hC dL_moonHeight_9 (by decide) ?_
    refine J_iconst (v := 0) hC dL_moonHeight_15 (by decide) ?_
    exact J_iretI hC dL_moonHeight_16 (Nat.le_of_ble_eq_true rfl) (Nat.le_of_ble_eq_true rfl) (LWP.ok r _ cs ho hn (Or.inl ⟨rfl, rfl, e⟩) (rfl))

abbrev P_reason (σ : Sg) (t u : Int32) (kc r : Int32) (σ' : Sg) : Prop := (kc = 0 ∧ σ' = σ ∧ (0 ≤ u ∧ u ≤ vg σ 2 - 1) ∧ ∃ k, k < vn σ ∧ t = nI k ∧ r = rsnV σ k u) ∨ (kc = 1 ∧ σ' = σ ∧ ¬ isTg (vn σ) t) ∨ (kc = 2 ∧ σ' = σ ∧ isTg (vn σ) t ∧ ¬ (0 ≤ u ∧ u ≤ vg σ 2 - 1))
set_option maxHeartbeats 4000000 in
set_option maxRecDepth 100000 in
/-- the law's reason -/
theorem w_reason {G : JG} (S : HS) (x o : Nat) (σ : Sg) (h : ∃ A, CI G x A σ S) (ho : hK S o = 14) (hn : hN S o = 1) (t u : Int32) : CtX G yL_reason cL_reason 5 (some .int) [(0, 10, 13, 39), (0, 10, 17, 13)] 11 430 70 1200 [.ref x, .int t, .int u, .ref o] S (rI (LWP G x o S Int32.toInt64 (P_reason σ t u))) noX := by
  obtain ⟨A, h⟩ := h
  refine CtX.of (by decide) (Nat.le_of_ble_eq_true rfl) (fun X hC hE => ?_)
  refine J_aload_n 3 hC dL_reason_0 rfl rfl ?_
  refine J_iconst (v := 0) hC dL_reason_1 (by decide) ?_
  refine J_aload_n 0 hC dL_reason_2 rfl rfl ?_
  refine J_iload_n 1 hC dL_reason_3 rfl rfl ?_
  refine J_iload_n 2 hC dL_reason_4 rfl rfl ?_
  refine cl_L_56 hC (c_X5_reason S x A σ h t u) h.1.kx (Nat.le_of_ble_eq_true rfl) ⟨⟨Nat.le_of_ble_eq_true rfl, Nat.le_of_ble_eq_true rfl⟩, Nat.le_of_ble_eq_true rfl, Nat.le_of_ble_eq_true rfl⟩ dL_reason_5 (fun E S' e => ?_) (fun r S' e => ?_)
  · rcases e with ⟨rfl, rfl, c⟩ | ⟨rfl, rfl, c⟩
    · refine JT_catch (name := eIO) hC [] ⟨0, 10, 13, 39⟩ [⟨0, 10, 17, 13⟩] hE (fun z hz => absurd hz List.not_mem_nil) rfl (by decide) (mG 631 (by decide +kernel) rfl) (mN 642 (by decide +kernel) rfl) (fun q => ?_)
      refine J_astore (lv' := [(4, _), (0, _), (1, _), (2, _), (3, _)]) hC dL_reason_13 (by decide) rfl ?_
      refine J_iconst (v := 1) hC dL_reason_15 (by decide) ?_
      exact J_iretI hC dL_reason_16 (Nat.le_of_ble_eq_true rfl) (Nat.le_of_ble_eq_true rfl) (LWP.no 0 (CS.rfl h) ho hn (Or.inr (Or.inl ⟨rfl, rfl, c⟩)) (by decide))
    · refine JT_catch (name := eIA) hC [⟨0, 10, 13, 39⟩] ⟨0, 10, 17, 13⟩ [] hE (fun z hz => by rw [List.mem_singleton] at hz; subst hz; exact Or.inr ⟨by decide, eIO, mG 631 (by decide +kernel) rfl, by decide⟩) rfl (by decide) (mG 336 (by decide +kernel) rfl) (mN 346 (by decide +kernel) rfl) (fun q => ?_)
      refine J_astore (lv' := [(4, _), (0, _), (1, _), (2, _), (3, _)]) hC dL_reason_17 (by decide) rfl ?_
      refine J_iconst (v := 2) hC dL_reason_19 (by decide) ?_
      exact J_iretI hC dL_reason_20 (Nat.le_of_ble_eq_true rfl) (Nat.le_of_ble_eq_true rfl) (LWP.no 0 (CS.rfl h) ho hn (Or.inr (Or.inr ⟨rfl, rfl, c⟩)) (by decide))
  · obtain ⟨se, e⟩ := e
    subst se
    have cs := CS.rfl h
    refine J_i2l hC dL_reason_8 ?_
    refine J_last hC (cs.ho ho) (inN (cs.hn ho hn) (vp_in_nI (show 0 < 1 by decide) (by decide))) dL_reason_9 ?_
    refine J_goto 21 hC dL_reason_10 (by decide) ?_
    refine J_iconst (v := 0) hC dL_reason_21 (by decide) ?_
    exact J_iretI hC dL_reason_22 (Nat.le_of_ble_eq_true rfl) (Nat.le_of_ble_eq_true rfl) (LWP.ok r _ cs ho hn (Or.inl ⟨rfl, rfl, e⟩) (rfl))

abbrev P_window (σ : Sg) (t w : Int32) (kc r : Int32) (σ' : Sg) : Prop := (kc = 0 ∧ σ' = σ ∧ ∃ k j, k < vn σ ∧ j < 5 ∧ t = nI k ∧ w = nI j ∧ r = wnV σ k j) ∨ (kc = 1 ∧ σ' = σ ∧ ¬ (isTg (vn σ) t ∧ 0 ≤ w ∧ w < 5))
set_option maxHeartbeats 4000000 in
set_option maxRecDepth 100000 in
/-- the law's window -/
theorem w_window {G : JG} (S : HS) (x o : Nat) (σ : Sg) (h : ∃ A, CI G x A σ S) (ho : hK S o = 14) (hn : hN S o = 1) (t w : Int32) : CtX G yL_window cL_window 5 (some .int) [(0, 10, 13, 39)] 11 430 70 1200 [.ref x, .int t, .int w, .ref o] S (rI (LWP G x o S Int32.toInt64 (P_window σ t w))) noX := by
  obtain ⟨A, h⟩ := h
  refine CtX.of (by decide) (Nat.le_of_ble_eq_true rfl) (fun X hC hE => ?_)
  refine J_aload_n 3 hC dL_window_0 rfl rfl ?_
  refine J_iconst (v := 0) hC dL_window_1 (by decide) ?_
  refine J_aload_n 0 hC dL_window_2 rfl rfl ?_
  refine J_iload_n 1 hC dL_window_3 rfl rfl ?_
  refine J_iload_n 2 hC dL_window_4 rfl rfl ?_
  refine cl_L_59 hC (c_X5_window S x A σ h t w) h.1.kx (Nat.le_of_ble_eq_true rfl) ⟨⟨Nat.le_of_ble_eq_true rfl, Nat.le_of_ble_eq_true rfl⟩, Nat.le_of_ble_eq_true rfl, Nat.le_of_ble_eq_true rfl⟩ dL_window_5 (fun E S' e => ?_) (fun r S' e => ?_)
  · obtain ⟨rfl, rfl, c⟩ := e
    refine JT_catch (name := eIO) hC [] ⟨0, 10, 13, 39⟩ [] hE (fun z hz => absurd hz List.not_mem_nil) rfl (by decide) (mG 631 (by decide +kernel) rfl) (mN 642 (by decide +kernel) rfl) (fun q => ?_)
    refine J_astore (lv' := [(4, _), (0, _), (1, _), (2, _), (3, _)]) hC dL_window_13 (by decide) rfl ?_
    refine J_iconst (v := 1) hC dL_window_15 (by decide) ?_
    exact J_iretI hC dL_window_16 (Nat.le_of_ble_eq_true rfl) (Nat.le_of_ble_eq_true rfl) (LWP.no 0 (CS.rfl h) ho hn (Or.inr (⟨rfl, rfl, c⟩)) (by decide))
  · obtain ⟨ci, fr, e⟩ := e
    have cs := CS.ok ci fr
    refine J_i2l hC dL_window_8 ?_
    refine J_last hC (cs.ho ho) (inN (cs.hn ho hn) (vp_in_nI (show 0 < 1 by decide) (by decide))) dL_window_9 ?_
    refine J_goto 17 hC dL_window_10 (by decide) ?_
    refine J_iconst (v := 0) hC dL_window_17 (by decide) ?_
    exact J_iretI hC dL_window_18 (Nat.le_of_ble_eq_true rfl) (Nat.le_of_ble_eq_true rfl) (LWP.ok r _ cs ho hn (Or.inl ⟨rfl, rfl, e⟩) (rfl))

abbrev P_isOpen (σ : Sg) (t : Int32) (kc r : Int32) (σ' : Sg) : Prop := (kc = 0 ∧ σ' = σ ∧ ∃ k, k < vn σ ∧ t = nI k ∧ r = opI σ k) ∨ (kc = 1 ∧ σ' = σ ∧ ¬ isTg (vn σ) t)
set_option maxHeartbeats 4000000 in
set_option maxRecDepth 100000 in
/-- the law's isOpen -/
theorem w_isOpen {G : JG} (S : HS) (x o : Nat) (σ : Sg) (h : ∃ A, CI G x A σ S) (ho : hK S o = 14) (hn : hN S o = 1) (t : Int32) : CtX G yL_isOpen cL_isOpen 4 (some .int) [(0, 16, 19, 39)] 11 430 70 1200 [.ref x, .int t, .ref o] S (rI (LWP G x o S okL (P_isOpen σ t))) noX := by
  obtain ⟨A, h⟩ := h
  refine CtX.of (by decide) (Nat.le_of_ble_eq_true rfl) (fun X hC hE => ?_)
  refine J_aload_n 2 hC dL_isOpen_0 rfl rfl ?_
  refine J_iconst (v := 0) hC dL_isOpen_1 (by decide) ?_
  refine J_aload_n 0 hC dL_isOpen_2 rfl rfl ?_
  refine J_iload_n 1 hC dL_isOpen_3 rfl rfl ?_
  refine cl_L_62 hC (c_X5_isOpen S x A σ h t) h.1.kx (Nat.le_of_ble_eq_true rfl) ⟨⟨Nat.le_of_ble_eq_true rfl, Nat.le_of_ble_eq_true rfl⟩, Nat.le_of_ble_eq_true rfl, Nat.le_of_ble_eq_true rfl⟩ dL_isOpen_4 (fun E S' e => ?_) (fun r S' e => ?_)
  · obtain ⟨rfl, rfl, c⟩ := e
    refine JT_catch (name := eIO) hC [] ⟨0, 16, 19, 39⟩ [] hE (fun z hz => absurd hz List.not_mem_nil) rfl (by decide) (mG 631 (by decide +kernel) rfl) (mN 642 (by decide +kernel) rfl) (fun q => ?_)
    refine J_astore_n (lv' := [(3, _), (0, _), (1, _), (2, _)]) hC dL_isOpen_19 rfl (by decide) rfl ?_
    refine J_iconst (v := 1) hC dL_isOpen_20 (by decide) ?_
    exact J_iretI hC dL_isOpen_21 (Nat.le_of_ble_eq_true rfl) (Nat.le_of_ble_eq_true rfl) (LWP.no 0 (CS.rfl h) ho hn (Or.inr (⟨rfl, rfl, c⟩)) (by decide))
  · obtain ⟨se, e⟩ := e
    subst se
    have cs := CS.rfl h
    refine J_if_eq 14 hC dL_isOpen_7 (by decide) (fun c7 => ?_) (fun c7 => ?_)
    · refine J_lconst (v := 0) hC dL_isOpen_14 (by decide) ?_
      refine J_last hC (cs.ho ho) (inN (cs.hn ho hn) (vp_in_nI (show 0 < 1 by decide) (by decide))) dL_isOpen_15 ?_
      refine J_goto 22 hC dL_isOpen_16 (by decide) ?_
      refine J_iconst (v := 0) hC dL_isOpen_22 (by decide) ?_
      exact J_iretI hC dL_isOpen_23 (Nat.le_of_ble_eq_true rfl) (Nat.le_of_ble_eq_true rfl) (LWP.ok r _ cs ho hn (Or.inl ⟨rfl, rfl, e⟩) ((if_pos c7).symm))
    · refine J_lconst (v := 1) hC dL_isOpen_10 (by decide) ?_
      refine J_goto 15 hC dL_isOpen_11 (by decide) ?_
      refine J_last hC (cs.ho ho) (inN (cs.hn ho hn) (vp_in_nI (show 0 < 1 by decide) (by decide))) dL_isOpen_15 ?_
      refine J_goto 22 hC dL_isOpen_16 (by decide) ?_
      refine J_iconst (v := 0) hC dL_isOpen_22 (by decide) ?_
      exact J_iretI hC dL_isOpen_23 (Nat.le_of_ble_eq_true rfl) (Nat.le_of_ble_eq_true rfl) (LWP.ok r _ cs ho hn (Or.inl ⟨rfl, rfl, e⟩) ((if_neg c7).symm))

abbrev P_count (σ : Sg) (w : Int32) (kc r : Int32) (σ' : Sg) : Prop := (kc = 0 ∧ σ' = σ ∧ ∃ j, j < 4 ∧ w = nI j ∧ r = cnV σ j (vn σ)) ∨ (kc = 1 ∧ σ' = σ ∧ ¬ (0 ≤ w ∧ w < 4))
set_option maxHeartbeats 4000000 in
set_option maxRecDepth 100000 in
/-- the law's count -/
theorem w_count {G : JG} (S : HS) (x o : Nat) (σ : Sg) (h : ∃ A, CI G x A σ S) (ho : hK S o = 14) (hn : hN S o = 1) (w : Int32) : CtX G yL_count cL_count 4 (some .int) [(0, 9, 12, 39)] 11 430 70 1200 [.ref x, .int w, .ref o] S (rI (LWP G x o S Int32.toInt64 (P_count σ w))) noX := by
  obtain ⟨A, h⟩ := h
  refine CtX.of (by decide) (Nat.le_of_ble_eq_true rfl) (fun X hC hE => ?_)
  refine J_aload_n 2 hC dL_count_0 rfl rfl ?_
  refine J_iconst (v := 0) hC dL_count_1 (by decide) ?_
  refine J_aload_n 0 hC dL_count_2 rfl rfl ?_
  refine J_iload_n 1 hC dL_count_3 rfl rfl ?_
  refine cl_L_66 hC (c_X5_count S x A σ h w) h.1.kx (Nat.le_of_ble_eq_true rfl) ⟨⟨Nat.le_of_ble_eq_true rfl, Nat.le_of_ble_eq_true rfl⟩, Nat.le_of_ble_eq_true rfl, Nat.le_of_ble_eq_true rfl⟩ dL_count_4 (fun E S' e => ?_) (fun r S' e => ?_)
  · obtain ⟨rfl, rfl, c⟩ := e
    refine JT_catch (name := eIO) hC [] ⟨0, 9, 12, 39⟩ [] hE (fun z hz => absurd hz List.not_mem_nil) rfl (by decide) (mG 631 (by decide +kernel) rfl) (mN 642 (by decide +kernel) rfl) (fun q => ?_)
    refine J_astore_n (lv' := [(3, _), (0, _), (1, _), (2, _)]) hC dL_count_12 rfl (by decide) rfl ?_
    refine J_iconst (v := 1) hC dL_count_13 (by decide) ?_
    exact J_iretI hC dL_count_14 (Nat.le_of_ble_eq_true rfl) (Nat.le_of_ble_eq_true rfl) (LWP.no 0 (CS.rfl h) ho hn (Or.inr (⟨rfl, rfl, c⟩)) (by decide))
  · obtain ⟨se, e⟩ := e
    subst se
    have cs := CS.rfl h
    refine J_i2l hC dL_count_7 ?_
    refine J_last hC (cs.ho ho) (inN (cs.hn ho hn) (vp_in_nI (show 0 < 1 by decide) (by decide))) dL_count_8 ?_
    refine J_goto 15 hC dL_count_9 (by decide) ?_
    refine J_iconst (v := 0) hC dL_count_15 (by decide) ?_
    exact J_iretI hC dL_count_16 (Nat.le_of_ble_eq_true rfl) (Nat.le_of_ble_eq_true rfl) (LWP.ok r _ cs ho hn (Or.inl ⟨rfl, rfl, e⟩) (rfl))

abbrev P_visit (σ : Sg) (i w : Int32) (kc r : Int32) (σ' : Sg) : Prop := (kc = 0 ∧ σ' = σ ∧ ∃ k j, k < pS σ (plV σ) ∧ j < 4 ∧ i = nI k ∧ w = nI j ∧ r = pR (plV σ) k j) ∨ (kc = 1 ∧ σ' = σ ∧ ¬ (isTg (pS σ (plV σ)) i ∧ 0 ≤ w ∧ w < 4))
set_option maxHeartbeats 4000000 in
set_option maxRecDepth 100000 in
/-- the law's visit -/
theorem w_visit {G : JG} (S : HS) (x o : Nat) (σ : Sg) (h : ∃ A, CI G x A σ S) (ho : hK S o = 14) (hn : hN S o = 1) (i w : Int32) : CtX G yL_visit cL_visit 5 (some .int) [(0, 10, 13, 39)] 11 430 70 1200 [.ref x, .int i, .int w, .ref o] S (rI (LWP G x o S Int32.toInt64 (P_visit σ i w))) noX := by
  obtain ⟨A, h⟩ := h
  refine CtX.of (by decide) (Nat.le_of_ble_eq_true rfl) (fun X hC hE => ?_)
  refine J_aload_n 3 hC dL_visit_0 rfl rfl ?_
  refine J_iconst (v := 0) hC dL_visit_1 (by decide) ?_
  refine J_aload_n 0 hC dL_visit_2 rfl rfl ?_
  refine J_iload_n 1 hC dL_visit_3 rfl rfl ?_
  refine J_iload_n 2 hC dL_visit_4 rfl rfl ?_
  refine cl_L_69 hC (c_X5_visit S x A σ h i w) h.1.kx (Nat.le_of_ble_eq_true rfl) ⟨⟨Nat.le_of_ble_eq_true rfl, Nat.le_of_ble_eq_true rfl⟩, Nat.le_of_ble_eq_true rfl, Nat.le_of_ble_eq_true rfl⟩ dL_visit_5 (fun E S' e => ?_) (fun r S' e => ?_)
  · obtain ⟨rfl, c1, c2, c⟩ := e
    refine JT_catch (name := eIO) hC [] ⟨0, 10, 13, 39⟩ [] hE (fun z hz => absurd hz List.not_mem_nil) rfl (by decide) (mG 631 (by decide +kernel) rfl) (mN 642 (by decide +kernel) rfl) (fun q => ?_)
    refine J_astore (lv' := [(4, _), (0, _), (1, _), (2, _), (3, _)]) hC dL_visit_13 (by decide) rfl ?_
    refine J_iconst (v := 1) hC dL_visit_15 (by decide) ?_
    exact J_iretI hC dL_visit_16 (Nat.le_of_ble_eq_true rfl) (Nat.le_of_ble_eq_true rfl) (LWP.no 0 (CS.ok c1 c2) ho hn (Or.inr (⟨rfl, rfl, c⟩)) (by decide))
  · obtain ⟨ci, fr, e⟩ := e
    have cs := CS.ok ci fr
    refine J_i2l hC dL_visit_8 ?_
    refine J_last hC (cs.ho ho) (inN (cs.hn ho hn) (vp_in_nI (show 0 < 1 by decide) (by decide))) dL_visit_9 ?_
    refine J_goto 17 hC dL_visit_10 (by decide) ?_
    refine J_iconst (v := 0) hC dL_visit_17 (by decide) ?_
    exact J_iretI hC dL_visit_18 (Nat.le_of_ble_eq_true rfl) (Nat.le_of_ble_eq_true rfl) (LWP.ok r _ cs ho hn (Or.inl ⟨rfl, rfl, e⟩) (rfl))

abbrev P_observe (σ : Sg) (kc r : Int32) (σ' : Sg) : Prop := (kc = 0 ∧ σ' = obN σ ∧ vg σ 3 < 60 ∧ r = nI (pS σ (plV σ))) ∨ (kc = 1 ∧ σ' = σ ∧ ¬ vg σ 3 < 60)
set_option maxHeartbeats 4000000 in
set_option maxRecDepth 100000 in
/-- the law's observe -/
theorem w_observe {G : JG} (S : HS) (x o : Nat) (σ : Sg) (h : ∃ A, CI G x A σ S) (ho : hK S o = 14) (hn : hN S o = 1) : CtX G yL_observe cL_observe 3 (some .int) [(0, 8, 11, 26)] 11 430 70 1200 [.ref x, .ref o] S (rI (LWP G x o S Int32.toInt64 (P_observe σ))) noX := by
  obtain ⟨A, h⟩ := h
  refine CtX.of (by decide) (Nat.le_of_ble_eq_true rfl) (fun X hC hE => ?_)
  refine J_aload_n 1 hC dL_observe_0 rfl rfl ?_
  refine J_iconst (v := 0) hC dL_observe_1 (by decide) ?_
  refine J_aload_n 0 hC dL_observe_2 rfl rfl ?_
  refine cl_L_72 hC (c_X5_observe S x A σ h) h.1.kx (Nat.le_of_ble_eq_true rfl) ⟨⟨Nat.le_of_ble_eq_true rfl, Nat.le_of_ble_eq_true rfl⟩, Nat.le_of_ble_eq_true rfl, Nat.le_of_ble_eq_true rfl⟩ dL_observe_3 (fun E S' e => ?_) (fun r S' e => ?_)
  · obtain ⟨rfl, rfl, c⟩ := e
    refine JT_catch (name := eIS) hC [] ⟨0, 8, 11, 26⟩ [] hE (fun z hz => absurd hz List.not_mem_nil) rfl (by decide) (mG 438 (by decide +kernel) rfl) (mN 446 (by decide +kernel) rfl) (fun q => ?_)
    refine J_astore_n (lv' := [(2, _), (0, _), (1, _)]) hC dL_observe_11 rfl (by decide) rfl ?_
    refine J_iconst (v := 1) hC dL_observe_12 (by decide) ?_
    exact J_iretI hC dL_observe_13 (Nat.le_of_ble_eq_true rfl) (Nat.le_of_ble_eq_true rfl) (LWP.no 0 (CS.rfl h) ho hn (Or.inr (⟨rfl, rfl, c⟩)) (by decide))
  · obtain ⟨c1, cs, e⟩ := e
    have e := And.intro c1 e
    refine J_i2l hC dL_observe_6 ?_
    refine J_last hC (cs.ho ho) (inN (cs.hn ho hn) (vp_in_nI (show 0 < 1 by decide) (by decide))) dL_observe_7 ?_
    refine J_goto 14 hC dL_observe_8 (by decide) ?_
    refine J_iconst (v := 0) hC dL_observe_14 (by decide) ?_
    exact J_iretI hC dL_observe_15 (Nat.le_of_ble_eq_true rfl) (Nat.le_of_ble_eq_true rfl) (LWP.ok r _ cs ho hn (Or.inl ⟨rfl, rfl, e⟩) (rfl))

abbrev P_pass (σ : Sg) (w : Int32) (kc r : Int32) (σ' : Sg) : Prop := (kc = 0 ∧ (1 ≤ w ∧ w ≤ 60 - vg σ 3) ∧ ∃ m, w = nI m ∧ m ≤ 60 ∧ σ' = nxN σ m ∧ r = vg σ 3 + nI m) ∨ (kc = 1 ∧ σ' = σ ∧ ¬ (1 ≤ w ∧ w ≤ 60 - vg σ 3))
set_option maxHeartbeats 4000000 in
set_option maxRecDepth 100000 in
/-- the law's pass -/
theorem w_pass {G : JG} (S : HS) (x o : Nat) (σ : Sg) (h : ∃ A, CI G x A σ S) (ho : hK S o = 14) (hn : hN S o = 1) (w : Int32) : CtX G yL_pass cL_pass 4 (some .int) [(0, 9, 12, 13)] 11 430 70 1200 [.ref x, .int w, .ref o] S (rI (LWP G x o S Int32.toInt64 (P_pass σ w))) noX := by
  obtain ⟨A, h⟩ := h
  refine CtX.of (by decide) (Nat.le_of_ble_eq_true rfl) (fun X hC hE => ?_)
  refine J_aload_n 2 hC dL_pass_0 rfl rfl ?_
  refine J_iconst (v := 0) hC dL_pass_1 (by decide) ?_
  refine J_aload_n 0 hC dL_pass_2 rfl rfl ?_
  refine J_iload_n 1 hC dL_pass_3 rfl rfl ?_
  refine cl_L_76 hC (c_X5_pass S x A σ h w) h.1.kx (Nat.le_of_ble_eq_true rfl) ⟨⟨Nat.le_of_ble_eq_true rfl, Nat.le_of_ble_eq_true rfl⟩, Nat.le_of_ble_eq_true rfl, Nat.le_of_ble_eq_true rfl⟩ dL_pass_4 (fun E S' e => ?_) (fun r S' e => ?_)
  · obtain ⟨rfl, rfl, c⟩ := e
    refine JT_catch (name := eIA) hC [] ⟨0, 9, 12, 13⟩ [] hE (fun z hz => absurd hz List.not_mem_nil) rfl (by decide) (mG 336 (by decide +kernel) rfl) (mN 346 (by decide +kernel) rfl) (fun q => ?_)
    refine J_astore_n (lv' := [(3, _), (0, _), (1, _), (2, _)]) hC dL_pass_12 rfl (by decide) rfl ?_
    refine J_iconst (v := 1) hC dL_pass_13 (by decide) ?_
    exact J_iretI hC dL_pass_14 (Nat.le_of_ble_eq_true rfl) (Nat.le_of_ble_eq_true rfl) (LWP.no 0 (CS.rfl h) ho hn (Or.inr (⟨rfl, rfl, c⟩)) (by decide))
  · obtain ⟨c1, m, hm, hm6, cs, e⟩ := e
    refine J_i2l hC dL_pass_7 ?_
    refine J_last hC (cs.ho ho) (inN (cs.hn ho hn) (vp_in_nI (show 0 < 1 by decide) (by decide))) dL_pass_8 ?_
    refine J_goto 15 hC dL_pass_9 (by decide) ?_
    refine J_iconst (v := 0) hC dL_pass_15 (by decide) ?_
    exact J_iretI hC dL_pass_16 (Nat.le_of_ble_eq_true rfl) (Nat.le_of_ble_eq_true rfl) (LWP.ok r _ cs ho hn (Or.inl ⟨rfl, c1, m, hm, hm6, rfl, e⟩) (rfl))
