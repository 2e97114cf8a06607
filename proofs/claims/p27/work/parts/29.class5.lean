/-! the class's public methods: printed by wip/p27/class5.py -/
set_option maxHeartbeats 4000000 in
set_option maxRecDepth 100000 in
/-- Point -/
theorem c_X3_init {G : JG} (S : HS) (q : Nat) (v w : Int32) (h0 : hK S q = 5) : Ct G yX3_init cX3_init 3 none 1 40 0 0 [.ref q, .int v, .int w] S (rV (fun S' => S' = sI (sI (sI (sI S 0 q v) 1 q w) 2 q (sn w)) 3 q (sn (w + 90)))) noX := by
  refine Ct.of (by decide) (Nat.le_of_ble_eq_true rfl) (fun X hC hT hin => ?_)
  refine J_aload_n 0 hC dX3_init_0 rfl rfl ?_
  refine oi_X3_1 hC (Nat.le_of_ble_eq_true rfl) (Nat.le_of_ble_eq_true rfl) dX3_init_1 ?_
  refine J_aload_n 0 hC dX3_init_4 rfl rfl ?_
  refine J_iload_n 1 hC dX3_init_5 rfl rfl ?_
  refine fp_X3_7 hC hin h0 dX3_init_6 ?_
  refine J_aload_n 0 hC dX3_init_9 rfl rfl ?_
  refine J_iload_n 2 hC dX3_init_10 rfl rfl ?_
  refine fp_X3_13 hC hin h0 dX3_init_11 ?_
  refine J_aload_n 0 hC dX3_init_14 rfl rfl ?_
  refine J_iload_n 2 hC dX3_init_15 rfl rfl ?_
  refine cl_X3_16 hC (c_X5_sineOf _ _) (Nat.le_of_ble_eq_true rfl) ⟨⟨Nat.le_of_ble_eq_true rfl, Nat.le_of_ble_eq_true rfl⟩, Nat.le_of_ble_eq_true rfl, Nat.le_of_ble_eq_true rfl⟩ dX3_init_16 (fun r16 S16 e16 => ?_)
  obtain ⟨rfl, e16⟩ := e16
  subst S16
  refine fp_X3_22 hC hin h0 dX3_init_19 ?_
  refine J_aload_n 0 hC dX3_init_22 rfl rfl ?_
  refine J_iload_n 2 hC dX3_init_23 rfl rfl ?_
  refine J_bipush (v := 90) hC dX3_init_24 (by decide) ?_
  refine J_iadd hC dX3_init_26 ?_
  refine cl_X3_16 hC (c_X5_sineOf _ _) (Nat.le_of_ble_eq_true rfl) ⟨⟨Nat.le_of_ble_eq_true rfl, Nat.le_of_ble_eq_true rfl⟩, Nat.le_of_ble_eq_true rfl, Nat.le_of_ble_eq_true rfl⟩ dX3_init_27 (fun r27 S27 e27 => ?_)
  obtain ⟨rfl, e27⟩ := e27
  subst S27
  refine fp_X3_25 hC hin h0 dX3_init_30 ?_
  exact J_vretI hC dX3_init_33 (Nat.le_of_ble_eq_true rfl) (Nat.le_of_ble_eq_true rfl) rfl

set_option maxHeartbeats 4000000 in
set_option maxRecDepth 100000 in
/-- target -/
theorem c_X5_target {G : JG} (S : HS) (x : Nat) (A : Nat → Nat → Nat) (σ : Sg) (h : CI G x A σ S) (t w : Int32) : Ct G yX5_target cX5_target 4 (some .int) 9 340 4 40 [.ref x, .int t, .int w] S (rI (fun r S' => S' = S ∧ ∃ k j, k < vn σ ∧ j < 10 ∧ t = nI k ∧ w = nI j ∧ r = vt σ k j)) (fun E S' => E = eIO ∧ S' = S ∧ ¬ (isTg (vn σ) t ∧ 0 ≤ w ∧ w < 10)) := by
  refine Ct.of (by decide) (Nat.le_of_ble_eq_true rfl) (fun X hC hT hin => ?_)
  obtain ⟨hs, hv, hr, ho, hp⟩ := h
  refine J_aload_n 0 hC dX5_target_0 rfl rfl ?_
  refine J_iload_n 1 hC dX5_target_1 rfl rfl ?_
  refine cl_X5_120 hC (c_X5_findTarget S x (vn σ) A hs hv.2.2.2.2.1 t) hs.kx (Nat.le_of_ble_eq_true rfl) ⟨⟨Nat.le_of_ble_eq_true rfl, Nat.le_of_ble_eq_true rfl⟩, Nat.le_of_ble_eq_true rfl, Nat.le_of_ble_eq_true rfl⟩ dX5_target_2 (fun E S9 h9 => JT_out hC (fun z hz => (hT z hz).elim) (by obtain ⟨rfl, e9, n9⟩ := h9; subst e9; exact ⟨rfl, rfl, fun z => n9 z.1⟩) (Nat.le_of_ble_eq_true rfl) (Nat.le_of_ble_eq_true rfl)) (fun r2 S2 e2 => ?_)
  obtain ⟨e2, k, hk, ht, rfl⟩ := e2
  subst S2
  refine J_astore_n (lv' := [(3, _), (0, _), (1, _), (2, _)]) hC dX5_target_5 rfl (by decide) rfl ?_
  refine J_iload_n 3 hC dX5_target_6 rfl rfl ?_
  refine J_bipush (v := 10) hC dX5_target_7 (by decide) ?_
  refine cl_X5_142 hC (c_X5_checkWhat S w 10) (Nat.le_of_ble_eq_true rfl) ⟨⟨Nat.le_of_ble_eq_true rfl, Nat.le_of_ble_eq_true rfl⟩, Nat.le_of_ble_eq_true rfl, Nat.le_of_ble_eq_true rfl⟩ dX5_target_9 (fun E S9 h9 => JT_out hC (fun z hz => (hT z hz).elim) (by obtain ⟨rfl, e9, n9⟩ := h9; subst e9; exact ⟨rfl, rfl, fun z => n9 z.2⟩) (Nat.le_of_ble_eq_true rfl) (Nat.le_of_ble_eq_true rfl)) (fun S9 e9 => ?_)
  obtain ⟨e9, g1, g2⟩ := e9
  subst S9
  obtain ⟨j, hj, rfl⟩ := (isTg_iff (n := 10) (by decide)).mpr ⟨g1, g2⟩
  refine J_aload_n 0 hC dX5_target_12 rfl rfl ?_
  refine J_iload_n 3 hC dX5_target_13 rfl rfl ?_
  refine cl_X5_145 hC (c_X4_fact S (A 1 k) (A 2 k) j (hs.kg hk) (hs.ppt hk) (hs.kpt hk) hj) (hs.kg hk) (Nat.le_of_ble_eq_true rfl) ⟨⟨Nat.le_of_ble_eq_true rfl, Nat.le_of_ble_eq_true rfl⟩, Nat.le_of_ble_eq_true rfl, Nat.le_of_ble_eq_true rfl⟩ dX5_target_14 (fun r14 S14 e14 => ?_)
  obtain ⟨rfl, e14⟩ := e14
  subst S14
  exact J_iretI hC dX5_target_17 (Nat.le_of_ble_eq_true rfl) (Nat.le_of_ble_eq_true rfl) ⟨rfl, k, j, hk, hj, ht, rfl, tfS_eq hv hk hj⟩

set_option maxHeartbeats 4000000 in
set_option maxRecDepth 100000 in
/-- reason -/
theorem c_X5_reason {G : JG} (S : HS) (x : Nat) (A : Nat → Nat → Nat) (σ : Sg) (h : CI G x A σ S) (t u : Int32) : Ct G yX5_reason cX5_reason 4 (some .int) 9 340 4 40 [.ref x, .int t, .int u] S (rI (fun r S' => S' = S ∧ (0 ≤ u ∧ u ≤ vg σ 2 - 1) ∧ ∃ k, k < vn σ ∧ t = nI k ∧ r = rsnV σ k u)) (fun E S' => (E = eIO ∧ S' = S ∧ ¬ isTg (vn σ) t) ∨ (E = eIA ∧ S' = S ∧ isTg (vn σ) t ∧ ¬ (0 ≤ u ∧ u ≤ vg σ 2 - 1))) := by
  refine Ct.of (by decide) (Nat.le_of_ble_eq_true rfl) (fun X hC hT hin => ?_)
  obtain ⟨hs, hv, hr, ho, hp⟩ := h
  refine J_aload_n 0 hC dX5_reason_0 rfl rfl ?_
  refine J_iload_n 1 hC dX5_reason_1 rfl rfl ?_
  refine cl_X5_120 hC (c_X5_findTarget S x (vn σ) A hs hv.2.2.2.2.1 t) hs.kx (Nat.le_of_ble_eq_true rfl) ⟨⟨Nat.le_of_ble_eq_true rfl, Nat.le_of_ble_eq_true rfl⟩, Nat.le_of_ble_eq_true rfl, Nat.le_of_ble_eq_true rfl⟩ dX5_reason_2 (fun E S9 h9 => JT_out hC (fun z hz => (hT z hz).elim) (Or.inl h9) (Nat.le_of_ble_eq_true rfl) (Nat.le_of_ble_eq_true rfl)) (fun r2 S2 e2 => ?_)
  obtain ⟨e2, k, hk, ht, rfl⟩ := e2
  subst S2
  refine J_astore_n (lv' := [(3, _), (0, _), (1, _), (2, _)]) hC dX5_reason_5 rfl (by decide) rfl ?_
  refine J_aload_n 1 hC dX5_reason_6 rfl rfl ?_
  refine J_iload_n 3 hC dX5_reason_7 rfl rfl ?_
  refine cl_X5_148 hC (c_X5_checkMinute S x u hs.kx) hs.kx (Nat.le_of_ble_eq_true rfl) ⟨⟨Nat.le_of_ble_eq_true rfl, Nat.le_of_ble_eq_true rfl⟩, Nat.le_of_ble_eq_true rfl, Nat.le_of_ble_eq_true rfl⟩ dX5_reason_8 (fun E S9 h9 => JT_out hC (fun z hz => (hT z hz).elim) (Or.inr ⟨h9.1, h9.2.1, ⟨k, hk, ht⟩, by have n9 := h9.2.2; rw [hv.2.2.1.2.1] at n9; exact n9⟩) (Nat.le_of_ble_eq_true rfl) (Nat.le_of_ble_eq_true rfl)) (fun S8 e8 => ?_)
  obtain ⟨e8, g1⟩ := e8
  subst S8
  rw [hv.2.2.1.2.1] at g1
  refine J_aload_n 1 hC dX5_reason_11 rfl rfl ?_
  refine J_aload_n 0 hC dX5_reason_12 rfl rfl ?_
  refine J_iload_n 3 hC dX5_reason_13 rfl rfl ?_
  refine J_aload_n 1 hC dX5_reason_14 rfl rfl ?_
  refine J_aload_n 0 hC dX5_reason_15 rfl rfl ?_
  refine fg_X5_152 hC (hs.kg hk) (hs.ppt hk) dX5_reason_16 ?_
  refine J_iload_n 3 hC dX5_reason_19 rfl rfl ?_
  refine cl_X5_155 hC (c_hT hs hv k hk u) hs.kx (Nat.le_of_ble_eq_true rfl) ⟨⟨Nat.le_of_ble_eq_true rfl, Nat.le_of_ble_eq_true rfl⟩, Nat.le_of_ble_eq_true rfl, Nat.le_of_ble_eq_true rfl⟩ dX5_reason_20 (fun r20 S20 e20 => ?_)
  obtain ⟨rfl, e20⟩ := e20
  subst S20
  refine cl_X5_163 hC (c_X5_reasonAgainst S x A σ hs hv k hk u) hs.kx (Nat.le_of_ble_eq_true rfl) ⟨⟨Nat.le_of_ble_eq_true rfl, Nat.le_of_ble_eq_true rfl⟩, Nat.le_of_ble_eq_true rfl, Nat.le_of_ble_eq_true rfl⟩ dX5_reason_23 (fun r23 S23 e23 => ?_)
  obtain ⟨rfl, e23⟩ := e23
  subst S23
  exact J_iretI hC dX5_reason_26 (Nat.le_of_ble_eq_true rfl) (Nat.le_of_ble_eq_true rfl) ⟨rfl, g1, k, hk, ht, rfl⟩

set_option maxHeartbeats 4000000 in
set_option maxRecDepth 100000 in
/-- isOpen -/
theorem c_X5_isOpen {G : JG} (S : HS) (x : Nat) (A : Nat → Nat → Nat) (σ : Sg) (h : CI G x A σ S) (t : Int32) : Ct G yX5_isOpen cX5_isOpen 2 (some .boolean) 9 340 4 40 [.ref x, .int t] S (rI (fun r S' => S' = S ∧ ∃ k, k < vn σ ∧ t = nI k ∧ r = opI σ k)) (fun E S' => E = eIO ∧ S' = S ∧ ¬ isTg (vn σ) t) := by
  refine Ct.of (by decide) (Nat.le_of_ble_eq_true rfl) (fun X hC hT hin => ?_)
  obtain ⟨hs, hv, hr, ho, hp⟩ := h
  refine J_aload_n 0 hC dX5_isOpen_0 rfl rfl ?_
  refine J_iload_n 1 hC dX5_isOpen_1 rfl rfl ?_
  refine cl_X5_120 hC (c_X5_findTarget S x (vn σ) A hs hv.2.2.2.2.1 t) hs.kx (Nat.le_of_ble_eq_true rfl) ⟨⟨Nat.le_of_ble_eq_true rfl, Nat.le_of_ble_eq_true rfl⟩, Nat.le_of_ble_eq_true rfl, Nat.le_of_ble_eq_true rfl⟩ dX5_isOpen_2 (fun E S9 h9 => JT_out hC (fun z hz => (hT z hz).elim) (by obtain ⟨rfl, e9, n9⟩ := h9; subst e9; exact ⟨rfl, rfl, n9⟩) (Nat.le_of_ble_eq_true rfl) (Nat.le_of_ble_eq_true rfl)) (fun r2 S2 e2 => ?_)
  obtain ⟨e2, k, hk, ht, rfl⟩ := e2
  subst S2
  refine J_aload_n 0 hC dX5_isOpen_5 rfl rfl ?_
  refine fg_X5_172 hC hs.kx dX5_isOpen_6 ?_
  refine cl_X5_175 hC (c_op hs hv k hk) (hs.kg hk) (Nat.le_of_ble_eq_true rfl) ⟨⟨Nat.le_of_ble_eq_true rfl, Nat.le_of_ble_eq_true rfl⟩, Nat.le_of_ble_eq_true rfl, Nat.le_of_ble_eq_true rfl⟩ dX5_isOpen_9 (fun r9 S9 e9 => ?_)
  obtain ⟨rfl, e9⟩ := e9
  subst S9
  exact J_zretI hC dX5_isOpen_12 (opI_nar σ k) (Nat.le_of_ble_eq_true rfl) (Nat.le_of_ble_eq_true rfl) ⟨rfl, k, hk, ht, rfl⟩

set_option maxHeartbeats 4000000 in
set_option maxRecDepth 100000 in
/-- night -/
theorem c_X5_night {G : JG} (S : HS) (x : Nat) (A : Nat → Nat → Nat) (σ : Sg) (h : CI G x A σ S) : Ct G yX5_night cX5_night 1 (some .int) 9 340 4 40 [.ref x] S (rI (fun r S' => r = vg σ 3 ∧ S' = S)) noX := by
  refine Ct.of (by decide) (Nat.le_of_ble_eq_true rfl) (fun X hC hT hin => ?_)
  obtain ⟨hs, hv, hr, ho, hp⟩ := h
  refine J_aload_n 0 hC dX5_night_0 rfl rfl ?_
  refine fg_X5_172 hC hs.kx dX5_night_1 ?_
  exact J_iretI hC dX5_night_4 (Nat.le_of_ble_eq_true rfl) (Nat.le_of_ble_eq_true rfl) ⟨hv.2.2.1.2.2, rfl⟩

set_option maxHeartbeats 4000000 in
set_option maxRecDepth 100000 in
/-- window -/
theorem c_X5_window {G : JG} (S : HS) (x : Nat) (A : Nat → Nat → Nat) (σ : Sg) (h : CI G x A σ S) (t w : Int32) : Ct G yX5_window cX5_window 4 (some .int) 9 340 4 40 [.ref x, .int t, .int w] S (rI (fun r S' => CI G x A σ S' ∧ FrC S S' ∧ ∃ k j, k < vn σ ∧ j < 5 ∧ t = nI k ∧ w = nI j ∧ r = wnV σ k j)) (fun E S' => E = eIO ∧ S' = S ∧ ¬ (isTg (vn σ) t ∧ 0 ≤ w ∧ w < 5)) := by
  refine Ct.of (by decide) (Nat.le_of_ble_eq_true rfl) (fun X hC hT hin => ?_)
  have h0 := h
  obtain ⟨hs, hv, hr, ho, hp⟩ := h
  refine J_aload_n 0 hC dX5_window_0 rfl rfl ?_
  refine J_iload_n 1 hC dX5_window_1 rfl rfl ?_
  refine cl_X5_120 hC (c_X5_findTarget S x (vn σ) A hs hv.2.2.2.2.1 t) hs.kx (Nat.le_of_ble_eq_true rfl) ⟨⟨Nat.le_of_ble_eq_true rfl, Nat.le_of_ble_eq_true rfl⟩, Nat.le_of_ble_eq_true rfl, Nat.le_of_ble_eq_true rfl⟩ dX5_window_2 (fun E S9 h9 => JT_out hC (fun z hz => (hT z hz).elim) (by obtain ⟨rfl, e9, n9⟩ := h9; subst e9; exact ⟨rfl, rfl, fun z => n9 z.1⟩) (Nat.le_of_ble_eq_true rfl) (Nat.le_of_ble_eq_true rfl)) (fun r2 S2 e2 => ?_)
  obtain ⟨e2, k, hk, ht, rfl⟩ := e2
  subst S2
  refine J_astore_n (lv' := [(3, _), (0, _), (1, _), (2, _)]) hC dX5_window_5 rfl (by decide) rfl ?_
  refine J_iload_n 3 hC dX5_window_6 rfl rfl ?_
  refine J_iconst (v := 5) hC dX5_window_7 (by decide) ?_
  refine cl_X5_142 hC (c_X5_checkWhat S w 5) (Nat.le_of_ble_eq_true rfl) ⟨⟨Nat.le_of_ble_eq_true rfl, Nat.le_of_ble_eq_true rfl⟩, Nat.le_of_ble_eq_true rfl, Nat.le_of_ble_eq_true rfl⟩ dX5_window_8 (fun E S9 h9 => JT_out hC (fun z hz => (hT z hz).elim) (by obtain ⟨rfl, e9, n9⟩ := h9; subst e9; exact ⟨rfl, rfl, fun z => n9 z.2⟩) (Nat.le_of_ble_eq_true rfl) (Nat.le_of_ble_eq_true rfl)) (fun S8 e8 => ?_)
  obtain ⟨e8, g1, g2⟩ := e8
  subst S8
  obtain ⟨j, hj, rfl⟩ := (isTg_iff (n := 5) (by decide)).mpr ⟨g1, g2⟩
  refine J_aload_n 1 hC dX5_window_11 rfl rfl ?_
  refine J_aload_n 0 hC dX5_window_12 rfl rfl ?_
  refine cl_X5_167 hC (c_survey S x A σ h0 k hk) hs.kx (Nat.le_of_ble_eq_true rfl) ⟨⟨Nat.le_of_ble_eq_true rfl, Nat.le_of_ble_eq_true rfl⟩, Nat.le_of_ble_eq_true rfl, Nat.le_of_ble_eq_true rfl⟩ dX5_window_13 (fun S13 e13 => ?_)
  obtain ⟨hc1, hf1, ho1⟩ := e13
  have hs1 := hc1.1
  refine J_aload_n 0 hC dX5_window_16 rfl rfl ?_
  refine fg_X5_135 hC (hs1.kg hk) (hs1.po hk) dX5_window_17 ?_
  refine J_iload_n 3 hC dX5_window_20 rfl rfl ?_
  refine cl_X5_171 hC (c_X1_fact S13 (A 3 k) j (hs1.ko hk) hj) (hs1.ko hk) (Nat.le_of_ble_eq_true rfl) ⟨⟨Nat.le_of_ble_eq_true rfl, Nat.le_of_ble_eq_true rfl⟩, Nat.le_of_ble_eq_true rfl, Nat.le_of_ble_eq_true rfl⟩ dX5_window_21 (fun r21 S21 e21 => ?_)
  obtain ⟨rfl, e21⟩ := e21
  subst S21
  exact J_iretI hC dX5_window_24 (Nat.le_of_ble_eq_true rfl) (Nat.le_of_ble_eq_true rfl) ⟨hc1, hf1, k, j, hk, hj, ht, rfl, wn_eq ho1 hj⟩

set_option maxHeartbeats 4000000 in
set_option maxRecDepth 100000 in
/-- visits -/
theorem c_X5_visits {G : JG} (S : HS) (x : Nat) (A : Nat → Nat → Nat) (σ : Sg) (h : CI G x A σ S) : Ct G yX5_visits cX5_visits 1 (some .int) 9 340 4 40 [.ref x] S (rI (fun r S' => CI G x A σ S' ∧ FrC S S' ∧ r = nI (pS σ (plV σ)))) noX := by
  refine Ct.of (by decide) (Nat.le_of_ble_eq_true rfl) (fun X hC hT hin => ?_)
  have h0 := h
  obtain ⟨hs, hv, hr, ho, hp⟩ := h
  refine J_aload_n 0 hC dX5_visits_0 rfl rfl ?_
  refine cl_X5_187 hC (c_settle S x A σ h0) hs.kx (Nat.le_of_ble_eq_true rfl) ⟨⟨Nat.le_of_ble_eq_true rfl, Nat.le_of_ble_eq_true rfl⟩, Nat.le_of_ble_eq_true rfl, Nat.le_of_ble_eq_true rfl⟩ dX5_visits_1 (fun S1 e1 => ?_)
  obtain ⟨hc1, hf1, hp1, ho1⟩ := e1
  obtain ⟨hs1, hv1, -, -, -⟩ := id hc1
  refine J_aload_n 0 hC dX5_visits_4 rfl rfl ?_
  refine fg_X5_42 hC hs1.kx hs1.pp dX5_visits_5 ?_
  refine fg_X5_190 hC hs1.kp dX5_visits_8 ?_
  exact J_iretI hC dX5_visits_11 (Nat.le_of_ble_eq_true rfl) (Nat.le_of_ble_eq_true rfl) ⟨hc1, hf1, hp1.1.2.2.2⟩

set_option maxHeartbeats 4000000 in
set_option maxRecDepth 100000 in
/-- visit -/
theorem c_X5_visit {G : JG} (S : HS) (x : Nat) (A : Nat → Nat → Nat) (σ : Sg) (h : CI G x A σ S) (i w : Int32) : Ct G yX5_visit cX5_visit 3 (some .int) 9 340 4 40 [.ref x, .int i, .int w] S (rI (fun r S' => CI G x A σ S' ∧ FrC S S' ∧ ∃ k j, k < pS σ (plV σ) ∧ j < 4 ∧ i = nI k ∧ w = nI j ∧ r = pR (plV σ) k j)) (fun E S' => E = eIO ∧ CI G x A σ S' ∧ FrC S S' ∧ ¬ (isTg (pS σ (plV σ)) i ∧ 0 ≤ w ∧ w < 4)) := by
  refine Ct.of (by decide) (Nat.le_of_ble_eq_true rfl) (fun X hC hT hin => ?_)
  have h0 := h
  obtain ⟨hs, hv, hr, ho, hp⟩ := h
  refine J_aload_n 0 hC dX5_visit_0 rfl rfl ?_
  refine cl_X5_187 hC (c_settle S x A σ h0) hs.kx (Nat.le_of_ble_eq_true rfl) ⟨⟨Nat.le_of_ble_eq_true rfl, Nat.le_of_ble_eq_true rfl⟩, Nat.le_of_ble_eq_true rfl, Nat.le_of_ble_eq_true rfl⟩ dX5_visit_1 (fun S1 e1 => ?_)
  obtain ⟨hc1, hf1, hp1, ho1⟩ := e1
  obtain ⟨hs1, hv1, -, -, -⟩ := id hc1
  have hps : pS σ (plV σ) ≤ 20 := Nat.le_trans (ctU_le _ _) hs1.n20
  refine J_iload_n 1 hC dX5_visit_4 rfl rfl ?_
  refine J_if_lt 19 hC dX5_visit_5 (by decide) (fun c5 => ?_) (fun c5 => ?_)
  · exact J_throwS hC hT (text := "there is no such visit") (names := exN) fit_IO exN_ok (mG 331 (by decide +kernel) rfl) (mG 38 (by decide +kernel) rfl) (by decide +kernel) at_IO dX5_visit_19 dX5_visit_22 dX5_visit_23 dX5_visit_25 dX5_visit_28 (by decide) (Nat.le_of_ble_eq_true rfl) (Nat.le_of_ble_eq_true rfl) (Nat.le_of_ble_eq_true rfl) ⟨rfl, hc1, hf1, fun z => absurd ((isTg_iff hps).mp z.1).1 (Int32.not_le.mpr c5)⟩
  · refine J_iload_n 1 hC dX5_visit_8 rfl rfl ?_
    refine J_aload_n 0 hC dX5_visit_9 rfl rfl ?_
    refine fg_X5_42 hC hs1.kx hs1.pp dX5_visit_10 ?_
    refine fg_X5_190 hC hs1.kp dX5_visit_13 ?_
    refine J_topI hp1.1.2.2.2 ?_
    refine J_icmp_lt 29 hC dX5_visit_16 (by decide) (fun c16 => ?_) (fun c16 => ?_)
    · obtain ⟨k, hk, rfl⟩ := (isTg_iff hps).mpr ⟨Int32.not_lt.mp c5, c16⟩
      refine J_iload_n 2 hC dX5_visit_29 rfl rfl ?_
      refine J_iconst (v := 4) hC dX5_visit_30 (by decide) ?_
      refine cl_X5_142 hC (c_X5_checkWhat S1 w 4) (Nat.le_of_ble_eq_true rfl) ⟨⟨Nat.le_of_ble_eq_true rfl, Nat.le_of_ble_eq_true rfl⟩, Nat.le_of_ble_eq_true rfl, Nat.le_of_ble_eq_true rfl⟩ dX5_visit_31 (fun E S9 h9 => JT_out hC (fun z hz => (hT z hz).elim) (by obtain ⟨rfl, e9, n9⟩ := h9; subst e9; exact ⟨rfl, hc1, hf1, fun z => n9 z.2⟩) (Nat.le_of_ble_eq_true rfl) (Nat.le_of_ble_eq_true rfl)) (fun S31 e31 => ?_)
      obtain ⟨e31, g1, g2⟩ := e31
      subst S31
      obtain ⟨j, hj, rfl⟩ := (isTg_iff (n := 4) (by decide)).mpr ⟨g1, g2⟩
      refine J_aload_n 0 hC dX5_visit_34 rfl rfl ?_
      refine fg_X5_42 hC hs1.kx hs1.pp dX5_visit_35 ?_
      refine fg_X5_197 hC hs1.kp hs1.pr dX5_visit_38 ?_
      refine J_iload_n 1 hC dX5_visit_41 rfl rfl ?_
      refine J_aald2 hC hs1.kr (inN hs1.nr (vp_in_nI (show k < 20 by omega) (by decide))) (by rw [nI_clamp (by omega)]; exact hs1.row (by omega)) dX5_visit_42 ?_
      refine J_iload_n 2 hC dX5_visit_43 rfl rfl ?_
      refine J_iald hC (hs1.krow (show k < 20 by omega)) rfl (inN (hs1.nrow (show k < 20 by omega)) (vp_in_nI hj (by decide))) dX5_visit_44 ?_
      exact J_iretI hC dX5_visit_45 (Nat.le_of_ble_eq_true rfl) (Nat.le_of_ble_eq_true rfl) ⟨hc1, hf1, k, j, hk, hj, rfl, rfl, by rw [nI_clamp (by omega)]; exact hp1.2.2 k hk j hj⟩
    · exact J_throwS hC hT (text := "there is no such visit") (names := exN) fit_IO exN_ok (mG 331 (by decide +kernel) rfl) (mG 38 (by decide +kernel) rfl) (by decide +kernel) at_IO dX5_visit_19 dX5_visit_22 dX5_visit_23 dX5_visit_25 dX5_visit_28 (by decide) (Nat.le_of_ble_eq_true rfl) (Nat.le_of_ble_eq_true rfl) (Nat.le_of_ble_eq_true rfl) ⟨rfl, hc1, hf1, fun z => absurd ((isTg_iff hps).mp z.1).2 c16⟩
