/-! the law's loops over minutes and over targets: printed by wip/p27/law2.py -/
set_option maxHeartbeats 4000000 in
set_option maxRecDepth 100000 in
/-- the minutes of a visit: at each the target can be seen -/
theorem lm_min {X : JX} {G : JG} {Q : State → Prop} (hC : JCL X G) {x told isin many time n len e b g k : Nat} {mi had w6 : Int32} {σ : Sg} {T : HS} (h : CE G x σ T) (hg : g < vn σ) (he : e ≤ lnV σ) (hs : ∀ t, b ≤ t → t < e → rsnV σ g (nI t) = 0) {E F : Nat} (hE : E ≤ room_1.cells) (hF : F ≤ room_1.slots) (fin : J X G Q 16 E F 482 [(15, .int (nI e)), (14, .int (nI b)), (13, .int (nI g)), (12, .int (nI k)), (11, .ref isin), (10, .int mi), (9, .int (nI e)), (8, .int (nI n)), (7, .int (nI len)), (6, .int w6), (5, .int (nI time)), (4, .int had), (3, .ref told), (2, .int (nI many)), (1, .ref x), (0, .ref (gScr G))] [] T) :
    ∀ (m t cs ss : Nat), e - t < m → b ≤ t → t ≤ e → cs + 4 * (e - t) ≤ E → ss + 40 * (e - t) ≤ F → J X G Q 16 cs ss 456 [(15, .int (nI t)), (14, .int (nI b)), (13, .int (nI g)), (12, .int (nI k)), (11, .ref isin), (10, .int mi), (9, .int (nI e)), (8, .int (nI n)), (7, .int (nI len)), (6, .int w6), (5, .int (nI time)), (4, .int had), (3, .ref told), (2, .int (nI many)), (1, .ref x), (0, .ref (gScr G))] [] T := by
  intro m
  have hln := h.rng.ln
  induction m with
  | zero => intro t cs ss h; omega
  | succ m ih =>
    intro t cs ss hm hb ht h1 h2
    refine J_iload 0 hC dL_law_456 rfl ?_
    refine J_iload 6 hC dL_law_458 rfl ?_
    refine J_icmp_ge 482 hC dL_law_460 (by decide) (fun c460 => ?_) (fun c460 => ?_)
    · have et : t = e := by
        have q := (nI_leI (by omega) (by omega)).mp c460
        omega
      subst et
      exact J_wd (by omega) (by omega) fin
    · have hte : t < e := Nat.not_le.mp (fun z => c460 (nI_le z (by omega)))
      refine J_aload_n 14 hC dL_law_463 rfl rfl ?_
      refine J_iload 2 hC dL_law_464 rfl ?_
      refine J_iload 0 hC dL_law_466 rfl ?_
      refine v_reason hC h hg (t := t) (by omega) (Nat.le_of_ble_eq_true rfl) (by omega) (by omega) dL_law_468 ?_
      refine J_topI (hs t hb hte) ?_
      refine J_if_eq 476 hC dL_law_471 (by decide) (fun c471 => ?_) (fun c471 => absurd rfl c471)
      refine J_iinc (lv' := [(15, _), (14, _), (13, _), (12, _), (11, _), (10, _), (9, _), (8, _), (7, _), (6, _), (5, _), (4, _), (3, _), (2, _), (1, _), (0, _)]) 0 hC dL_law_476 rfl (nI_add t 1) (by decide) rfl ?_
      refine J_goto 456 hC dL_law_479 (by decide) ?_
      exact ih (t + 1) _ _ (by omega) (by omega) (by omega) (by omega) (by omega)
theorem zI_t {b : Bool} (h : b = true) : zI b = nI 1 := by rw [h]; rfl
theorem zI_f {b : Bool} (h : ¬ b = true) : zI b = nI 0 := by unfold zI; rw [if_neg h]; rfl
set_option maxHeartbeats 4000000 in
set_option maxRecDepth 100000 in
/-- the checks of each target -/
theorem lm_chk {X : JX} {G : JG} {Q : State → Prop} (hC : JCL X G) {x told isin many time n len e  : Nat} {mi had w6 op : Int32} {τ : Sg} {T : HS} {u : Nat → Bool} (h : CE G x τ T) (hn : vn τ = many) (hA : ∀ k, k < many → vt τ k 8 ≤ vt τ k 6 ∧ (u k = true → vt τ k 9 = nI time) ∧ (u k = false → vt τ k 9 < nI time)) (z1 : hK T isin = 15) (z2 : hN T isin = 20) (z3 : ∀ g, g < 20 → hV T g isin = zI (u g)) {E F : Nat} (hE : E ≤ room_1.cells) (hF : F ≤ room_1.slots) (fin : J X G Q 16 E F 625 [(14, .int (nI many)), (13, .int (cnV τ 3 many)), (12, .int op), (11, .ref isin), (10, .int mi), (9, .int (nI e)), (8, .int (nI n)), (7, .int (nI len)), (6, .int w6), (5, .int (nI time)), (4, .int had), (3, .ref told), (2, .int (nI many)), (1, .ref x), (0, .ref (gScr G))] [] T) :
    ∀ (m k cs ss : Nat), many - k < m → k ≤ many → cs + 16 * (many - k) ≤ E → ss + 160 * (many - k) ≤ F → J X G Q 16 cs ss 553 [(14, .int (nI k)), (13, .int (cnV τ 3 k)), (12, .int op), (11, .ref isin), (10, .int mi), (9, .int (nI e)), (8, .int (nI n)), (7, .int (nI len)), (6, .int w6), (5, .int (nI time)), (4, .int had), (3, .ref told), (2, .int (nI many)), (1, .ref x), (0, .ref (gScr G))] [] T := by
  intro m
  have n20 := h.rng.2.2.2.2.2.2.2.1
  induction m with
  | zero => intro k cs ss h; omega
  | succ m ih =>
    intro k cs ss hm hk h1 h2
    refine J_iload 0 hC dL_law_553 rfl ?_
    refine J_iload_n 12 hC dL_law_555 rfl rfl ?_
    refine J_icmp_ge 625 hC dL_law_556 (by decide) (fun c556 => ?_) (fun c556 => ?_)
    · have ek : k = many := by
        have q := (nI_leI (by omega) (by omega)).mp c556
        omega
      subst ek
      exact J_wd (by omega) (by omega) fin
    · have hkm : k < many := Nat.not_le.mp (fun z => c556 (nI_le z (by omega)))
      obtain ⟨a1, a2, a3⟩ := hA k hkm
      have hu1 : vt τ k 9 = nI time → zI (u k) = nI 1 := fun z => zI_t (by
        cases e : u k with
        | true => rfl
        | false => exact absurd (a3 e) (by rw [z]; exact Int32.lt_irrefl))
      have hu0 : ¬ vt τ k 9 = nI time → zI (u k) = nI 0 := fun z => zI_f (fun e => z (a2 e))
      refine J_aload_n 13 hC dL_law_559 rfl rfl ?_
      refine J_iload 0 hC dL_law_560 rfl ?_
      refine J_bipush (v := nI 8) hC dL_law_562 (by decide) ?_
      refine v_target hC h (k := k) (j := 8) (by omega) (by decide) (Nat.le_of_ble_eq_true rfl) (by omega) (by omega) dL_law_564 ?_
      refine J_aload_n 13 hC dL_law_567 rfl rfl ?_
      refine J_iload 0 hC dL_law_568 rfl ?_
      refine J_bipush (v := nI 6) hC dL_law_570 (by decide) ?_
      refine v_target hC h (k := k) (j := 6) (by omega) (by decide) (Nat.le_of_ble_eq_true rfl) (by omega) (by omega) dL_law_572 ?_
      refine J_icmp_gt 604 hC dL_law_575 (by decide) (fun c575 => absurd c575 (Int32.not_lt.mpr a1)) (fun c575 => ?_)
      refine J_aload 3 hC dL_law_578 rfl ?_
      refine J_iload 0 hC dL_law_580 rfl ?_
      refine J_zald hC z1 rfl (inN z2 (vp_in_nI (show k < 20 by omega) (by omega))) dL_law_582 ?_
      refine J_topI (w := zI (u k)) (by rw [nI_clamp (by omega)]; exact z3 k (by omega)) ?_
      refine J_aload_n 13 hC dL_law_583 rfl rfl ?_
      refine J_iload 0 hC dL_law_584 rfl ?_
      refine J_bipush (v := nI 9) hC dL_law_586 (by decide) ?_
      refine v_target hC h (k := k) (j := 9) (by omega) (by decide) (Nat.le_of_ble_eq_true rfl) (by omega) (by omega) dL_law_588 ?_
      refine J_iload 9 hC dL_law_591 rfl ?_
      refine J_icmp_ne 600 hC dL_law_593 (by decide) (fun c593 => ?_) (fun c593 => ?_)
      · refine J_iconst (v := nI 0) hC dL_law_600 (by decide) ?_
        refine J_icmp_eq 606 hC dL_law_601 (by decide) (fun c601 => ?_) (fun c601 => absurd (hu0 c593) c601)
        refine J_iload 1 hC dL_law_606 rfl ?_
        refine J_aload_n 13 hC dL_law_608 rfl rfl ?_
        refine J_iload 0 hC dL_law_609 rfl ?_
        refine J_bipush (v := nI 8) hC dL_law_611 (by decide) ?_
        refine v_target hC h (k := k) (j := 8) (by omega) (by decide) (Nat.le_of_ble_eq_true rfl) (by omega) (by omega) dL_law_613 ?_
        refine J_iadd hC dL_law_616 ?_
        refine J_topI (w := cnV τ 3 (k + 1)) rfl ?_
        refine J_istore (lv' := [(13, _), (14, _), (12, _), (11, _), (10, _), (9, _), (8, _), (7, _), (6, _), (5, _), (4, _), (3, _), (2, _), (1, _), (0, _)]) hC dL_law_617 (by decide) rfl ?_
        refine J_iinc (lv' := [(14, _), (13, _), (12, _), (11, _), (10, _), (9, _), (8, _), (7, _), (6, _), (5, _), (4, _), (3, _), (2, _), (1, _), (0, _)]) 1 hC dL_law_619 rfl (nI_add k 1) (by decide) rfl ?_
        refine J_goto 553 hC dL_law_622 (by decide) ?_
        refine J_re [0, 1, 2, 3, 4, 5, 6, 7, 8, 9, 10, 11, 12, 13, 14] rfl ?_
        exact ih (k + 1) _ _ (by omega) (by omega) (by omega) (by omega)
      · refine J_iconst (v := nI 1) hC dL_law_596 (by decide) ?_
        refine J_goto 601 hC dL_law_597 (by decide) ?_
        refine J_icmp_eq 606 hC dL_law_601 (by decide) (fun c601 => ?_) (fun c601 => absurd (hu1 c593) c601)
        refine J_iload 1 hC dL_law_606 rfl ?_
        refine J_aload_n 13 hC dL_law_608 rfl rfl ?_
        refine J_iload 0 hC dL_law_609 rfl ?_
        refine J_bipush (v := nI 8) hC dL_law_611 (by decide) ?_
        refine v_target hC h (k := k) (j := 8) (by omega) (by decide) (Nat.le_of_ble_eq_true rfl) (by omega) (by omega) dL_law_613 ?_
        refine J_iadd hC dL_law_616 ?_
        refine J_topI (w := cnV τ 3 (k + 1)) rfl ?_
        refine J_istore (lv' := [(13, _), (14, _), (12, _), (11, _), (10, _), (9, _), (8, _), (7, _), (6, _), (5, _), (4, _), (3, _), (2, _), (1, _), (0, _)]) hC dL_law_617 (by decide) rfl ?_
        refine J_iinc (lv' := [(14, _), (13, _), (12, _), (11, _), (10, _), (9, _), (8, _), (7, _), (6, _), (5, _), (4, _), (3, _), (2, _), (1, _), (0, _)]) 1 hC dL_law_619 rfl (nI_add k 1) (by decide) rfl ?_
        refine J_goto 553 hC dL_law_622 (by decide) ?_
        refine J_re [0, 1, 2, 3, 4, 5, 6, 7, 8, 9, 10, 11, 12, 13, 14] rfl ?_
        exact ih (k + 1) _ _ (by omega) (by omega) (by omega) (by omega)
