/-! new SkyPlan(): printed by wip/p27/class10.py -/
set_option maxHeartbeats 4000000 in
set_option maxRecDepth 100000 in
/-- new SkyPlan() -/
theorem c_X5_init {G : JG} (S : HS) (x : Nat) (h0 : hK S x = 7) (hz : ∀ k, hI S k x = 0) : Ct G yX5_init cX5_init 1 none 6 200 32 200 [.ref x] S (rV (fun S' => (∃ A, CI G x A σ0 S') ∧ FrC S S')) noX := by
  refine Ct.of (by decide) (Nat.le_of_ble_eq_true rfl) (fun X hC hT hin => ?_)
  refine J_aload_n 0 hC dX5_init_0 rfl rfl ?_
  refine oi_X5_1 hC (Nat.le_of_ble_eq_true rfl) (Nat.le_of_ble_eq_true rfl) dX5_init_1 ?_
  refine J_aload_n 0 hC dX5_init_4 rfl rfl ?_
  refine nw_X5_7 hC (Nat.le_of_ble_eq_true rfl) (Nat.le_of_ble_eq_true rfl) dX5_init_5 (fun q1 fq1 => ?_)
  refine J_dup hC dX5_init_8 rfl ?_
  refine J_iconst (v := 0) hC dX5_init_9 (by decide) ?_
  refine J_bipush (v := 50) hC dX5_init_10 (by decide) ?_
  refine cl_X5_9 hC (c_pt S q1 0 50) (Nat.le_of_ble_eq_true rfl) ⟨⟨Nat.le_of_ble_eq_true rfl, Nat.le_of_ble_eq_true rfl⟩, Nat.le_of_ble_eq_true rfl, Nat.le_of_ble_eq_true rfl⟩ dX5_init_12 (fun S12 e12 => ?_)
  subst S12
  have s1 := st_pt (j := 0) (v := 0) (w := 50) h0 fq1
  have y1 := (ext.rfl.pt (v := 0) (w := 50) fq1) x (by rw [h0]; decide)
  refine fp_X5_12 hC (y1.1.trans h0) dX5_init_15 ?_
  have hx1 := s1.1.2.trans h0
  refine J_inv (A := fun T => stp x S T ∧ stx x 0 (some q1) S T ∧ ptP q1 0 50 T ∧ hK T x = 7) ⟨s1.1, s1.2.1, s1.2.2, hx1⟩ (fun T1 a1 => ?_)
  clear s1 y1 hx1
  obtain ⟨s1, e1, g1, hx1⟩ := a1
  refine J_aload_n 0 hC dX5_init_18 rfl rfl ?_
  refine nw_X5_7 hC (Nat.le_of_ble_eq_true rfl) (Nat.le_of_ble_eq_true rfl) dX5_init_19 (fun q2 fq2 => ?_)
  refine J_dup hC dX5_init_22 rfl ?_
  refine J_iconst (v := 0) hC dX5_init_23 (by decide) ?_
  refine J_iconst (v := 0) hC dX5_init_24 (by decide) ?_
  refine cl_X5_9 hC (c_pt T1 q2 0 0) (Nat.le_of_ble_eq_true rfl) ⟨⟨Nat.le_of_ble_eq_true rfl, Nat.le_of_ble_eq_true rfl⟩, Nat.le_of_ble_eq_true rfl, Nat.le_of_ble_eq_true rfl⟩ dX5_init_25 (fun S25 e25 => ?_)
  subst S25
  have s2 := st_pt (j := 1) (v := 0) (w := 0) hx1 fq2
  have y2 := (ext.rfl.pt (v := 0) (w := 0) fq2) x (by rw [hx1]; decide)
  refine fp_X5_18 hC (y2.1.trans hx1) dX5_init_28 ?_
  have hx2 := s2.1.2.trans hx1
  refine J_inv (A := fun T => stp x T1 T ∧ stx x 1 (some q2) T1 T ∧ ptP q2 0 0 T ∧ hK T x = 7) ⟨s2.1, s2.2.1, s2.2.2, hx2⟩ (fun T2 a2 => ?_)
  clear s2 y2 hx2
  obtain ⟨s2, e2, g2, hx2⟩ := a2
  refine J_aload_n 0 hC dX5_init_31 rfl rfl ?_
  refine J_sipush (v := 600) hC dX5_init_32 (by decide) ?_
  refine fp_X5_21 hC hx2 dX5_init_35 ?_
  refine J_inv (A := fun T => stp x T2 T ∧ (∀ k, hP T k x = hP T2 k x) ∧ hI T 3 x = 600 ∧ (∀ k, k ≠ 3 → hI T k x = hI T2 k x) ∧ hK T x = 7) ⟨stp.ofI, fun _ => rfl, hI_same _ _ _ _, fun k hk => hI_nk hk, kI hx2⟩ (fun T3 a3 => ?_)
  obtain ⟨s3, e3, i3, j3, hx3⟩ := a3
  refine J_aload_n 0 hC dX5_init_38 rfl rfl ?_
  refine nw_X5_25 hC (Nat.le_of_ble_eq_true rfl) (Nat.le_of_ble_eq_true rfl) dX5_init_39 (fun c fc => ?_)
  refine J_dup hC dX5_init_42 rfl ?_
  refine cl_X5_27 hC (c_X0_init _ c (if_pos rfl)) (Nat.le_of_ble_eq_true rfl) ⟨⟨Nat.le_of_ble_eq_true rfl, Nat.le_of_ble_eq_true rfl⟩, Nat.le_of_ble_eq_true rfl, Nat.le_of_ble_eq_true rfl⟩ dX5_init_43 (fun S43 e43 => ?_)
  obtain ⟨f, t, ff, ft, e43⟩ := e43
  subst e43
  have s4 := st_cl (j := 5) hx3 fc ff ft
  have y4 := (((((ext.rfl.new (lab := 2) (n := 0) fc).new (lab := 8) (n := 8) ff).sP (k := 0) (v := some f) fc).new (lab := 9) (n := 8) ft).sP (k := 1) (v := some t) fc) x (by rw [hx3]; decide)
  refine fp_X5_28 hC hin (y4.1.trans hx3) dX5_init_46 ?_
  have hx4 := s4.1.2.trans hx3
  refine J_inv (A := fun T => stp x T3 T ∧ stx x 5 (some c) T3 T ∧ clP c f t T ∧ hK T x = 7) ⟨s4.1, s4.2.1, s4.2.2, hx4⟩ (fun T4 a4 => ?_)
  clear s4 y4 hx4
  obtain ⟨s4, e4, g4, hx4⟩ := a4
  refine J_aload_n 0 hC dX5_init_49 rfl rfl ?_
  refine nw_X5_32 hC (Nat.le_of_ble_eq_true rfl) (Nat.le_of_ble_eq_true rfl) dX5_init_50 (fun l fl => ?_)
  refine J_dup hC dX5_init_53 rfl ?_
  refine cl_X5_34 hC (c_al_init _ l (if_pos rfl)) (Nat.le_of_ble_eq_true rfl) ⟨⟨Nat.le_of_ble_eq_true rfl, Nat.le_of_ble_eq_true rfl⟩, Nat.le_of_ble_eq_true rfl, Nat.le_of_ble_eq_true rfl⟩ dX5_init_54 (fun S54 e54 => ?_)
  subst S54
  have s5 := st_li (G := G) (j := 6) hx4 fl
  have y5 := (((ext.rfl.new (lab := 1) (n := 0) fl).sI (k := 0) (v := 0) fl).sP (k := 1) (v := some (gE G)) fl) x (by rw [hx4]; decide)
  refine fp_X5_35 hC hin (y5.1.trans hx4) dX5_init_57 ?_
  have hx5 := s5.1.2.trans hx4
  refine J_inv (A := fun T => stp x T4 T ∧ stx x 6 (some l) T4 T ∧ liP G l T ∧ hK T x = 7) ⟨s5.1, s5.2.1, s5.2.2, hx5⟩ (fun T5 a5 => ?_)
  clear s5 y5 hx5
  obtain ⟨s5, e5, g5, hx5⟩ := a5
  refine J_aload_n 0 hC dX5_init_60 rfl rfl ?_
  refine nw_X5_39 hC (Nat.le_of_ble_eq_true rfl) (Nat.le_of_ble_eq_true rfl) dX5_init_61 (fun p fp => ?_)
  refine J_dup hC dX5_init_64 rfl ?_
  refine cl_X5_41 hC (c_X2_init _ p (if_pos rfl)) (Nat.le_of_ble_eq_true rfl) ⟨⟨Nat.le_of_ble_eq_true rfl, Nat.le_of_ble_eq_true rfl⟩, Nat.le_of_ble_eq_true rfl, Nat.le_of_ble_eq_true rfl⟩ dX5_init_65 (fun S65 e65 => ?_)
  obtain ⟨q, r, fq, frr, hri, e65⟩ := e65
  subst e65
  have s6 := st_pl (j := 7) hx5 fp fq frr hri
  have y6 := (((ext.rfl.new (lab := 4) (n := 0) fp).mna fq (fun i h => (frr i h).1)).sP (k := 0) (v := some q) fp) x (by rw [hx5]; decide)
  refine fp_X5_42 hC hin (y6.1.trans hx5) dX5_init_68 ?_
  have hx6 := s6.1.2.trans hx5
  refine J_inv (A := fun T => stp x T5 T ∧ stx x 7 (some p) T5 T ∧ plP p q r T ∧ hK T x = 7) ⟨s6.1, s6.2.1, s6.2.2, hx6⟩ (fun T6 a6 => ?_)
  clear s6 y6 hx6
  obtain ⟨s6, e6, g6, hx6⟩ := a6
  refine J_vretI hC dX5_init_71 (Nat.le_of_ble_eq_true rfl) (Nat.le_of_ble_eq_true rfl) ?_
  have p56 := s5.trans s6
  have p46 := s4.trans (s5.trans s6)
  have p36 := s3.trans p46
  have p26 := s2.trans p36
  refine ⟨CI.new hx6 ?_ ?_ ?_ ?_ e6.1 ?_ ?_ ?_ (g1.stp p26 hx1) (g2.stp p36 hx2) (g4.stp p56 hx4) (g5.stp s6 hx5) g6 hri, (s1.trans p26).frc h0⟩
  · rw [e6.2.1 0 (by decide), e5.2.1 0 (by decide), e4.2.1 0 (by decide), e3, e2.2.1 0 (by decide)]; exact e1.1
  · rw [e6.2.1 1 (by decide), e5.2.1 1 (by decide), e4.2.1 1 (by decide), e3]; exact e2.1
  · rw [e6.2.1 5 (by decide), e5.2.1 5 (by decide)]; exact e4.1
  · rw [e6.2.1 6 (by decide)]; exact e5.1
  · rw [e6.2.2, e5.2.2, e4.2.2, j3 2 (by decide), e2.2.2, e1.2.2]; exact hz 2
  · rw [e6.2.2, e5.2.2, e4.2.2]; exact i3
  · rw [e6.2.2, e5.2.2, e4.2.2, j3 4 (by decide), e2.2.2, e1.2.2]; exact hz 4
