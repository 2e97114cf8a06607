/-! the law's loop over the visits: printed by wip/p27/law3.py -/
/-- who is in the first k rows is marked -/
def zdI (isin : Nat) (R : Nat → Nat → Int32) (k : Nat) (T : HS) : Prop := hK T isin = 15 ∧ hN T isin = 20 ∧ ∀ g, g < 20 → hV T g isin = zI (mR R k g)
def viI (G : JG) (x told isin : Nat) (σ : Sg) (k : Nat) (T : HS) : Prop := CE G x σ T ∧ tdI told σ T ∧ zdI isin (pV σ) k T
theorem viI.frc {G : JG} {x told isin : Nat} {σ : Sg} {k : Nat} {S T : HS} (h : viI G x told isin σ k S) (c : CE G x σ T) (f : FrC S T) : viI G x told isin σ k T := by
  obtain ⟨-, h2, h3, h4, h5⟩ := h
  exact ⟨c, h2.frc f rfl (fun _ _ => rfl), f.k h3 (by decide), f.n h3 (by decide) h4, fun g hg => (f.v h3 (by decide) g).trans (h5 g hg)⟩
theorem viI.mark {G : JG} {x told isin : Nat} {σ : Sg} {k : Nat} {S : HS} (h : viI G x told isin σ k S) : viI G x told isin σ (k + 1) (sV S (gR (pV σ) k) isin 1) := by
  obtain ⟨h1, ⟨t1, t2, t3⟩, h3, h4, h5⟩ := h
  have hne : told ≠ isin := hK_ne t1 h3 (by decide)
  refine ⟨h1.frm (FrM.rfl.sV (gt14 h3 (Or.inr (by decide)))), ⟨t1, t2, fun i hi => (hV_na hne).trans (t3 i hi)⟩, h3, h4, fun g hg => ?_⟩
  rw [mR]
  by_cases e : g = gR (pV σ) k
  · subst e
    rw [hV_same, show mkU (mR (pV σ) k) (gR (pV σ) k) (gR (pV σ) k) = true from if_pos rfl]
    rfl
  · rw [hV_nk e, h5 g hg, show mkU (mR (pV σ) k) (gR (pV σ) k) g = mR (pV σ) k g from if_neg e]
set_option maxHeartbeats 4000000 in
set_option maxRecDepth 100000 in
/-- each visit keeps what is asked of it -/
theorem lm_vis {X : JX} {G : JG} {Q : State → Prop} (hC : JCL X G) {x told isin many time : Nat} {had w6 : Int32} {σ : Sg} {E F : Nat} (hE : E ≤ room_1.cells) (hF : F ≤ room_1.slots) (fin : ∀ T, viI G x told isin σ (nV σ) T → J X G Q 16 E F 488 [(12, .int (nI (nV σ))), (11, .ref isin), (10, .int (sR σ (pV σ) (nV σ))), (9, .int (nI (eR σ (pV σ) (nV σ)))), (8, .int (nI (nV σ))), (7, .int (nI (lnV σ))), (6, .int w6), (5, .int (nI time)), (4, .int had), (3, .ref told), (2, .int (nI many)), (1, .ref x), (0, .ref (gScr G))] [] T) :
    ∀ (m k cs ss : Nat) (T : HS), nV σ - k < m → k ≤ nV σ → viI G x told isin σ k T → cs + 512 * (nV σ - k) ≤ E → ss + 5120 * (nV σ - k) ≤ F → J X G Q 16 cs ss 307 [(12, .int (nI k)), (11, .ref isin), (10, .int (sR σ (pV σ) k)), (9, .int (nI (eR σ (pV σ) k))), (8, .int (nI (nV σ))), (7, .int (nI (lnV σ))), (6, .int w6), (5, .int (nI time)), (4, .int had), (3, .ref told), (2, .int (nI many)), (1, .ref x), (0, .ref (gScr G))] [] T := by
  intro m
  induction m with
  | zero => intro k cs ss T h; omega
  | succ m ih =>
    intro k cs ss T hm hk hv h1 h2
    have hr := hv.1.rng
    have n20 := hr.2.2.2.2.2.2.2.1
    have hln := hr.ln
    have nle := nV_le σ
    refine J_iload 0 hC dL_law_307 rfl ?_
    refine J_iload 4 hC dL_law_309 rfl ?_
    refine J_icmp_ge 488 hC dL_law_311 (by decide) (fun c311 => ?_) (fun c311 => ?_)
    · have ek : k = nV σ := by
        have q := (nI_leI (by omega) (by omega)).mp c311
        omega
      subst ek
      exact J_wd (by omega) (by omega) (fin T hv)
    · have hkn : k < nV σ := Nat.not_le.mp (fun z => c311 (nI_le z (by omega)))
      have row := row_of hr hkn
      obtain ⟨r1, r2, r3, r4, r5, r6, r7, r8, r9, r10, r11⟩ := id row
      obtain ⟨me, m5, m120⟩ := mnN_in hr r1
      obtain ⟨mm, hmb, hmw⟩ := row_win hr row
      refine J_aload_n 11 hC dL_law_314 rfl rfl ?_
      refine J_iload 0 hC dL_law_315 rfl ?_
      refine J_iconst (v := nI 0) hC dL_law_317 (by decide) ?_
      refine v_visit hC hv.1 hkn (j := 0) (by decide) (Nat.le_of_ble_eq_true rfl) (by omega) (by omega) dL_law_318 (fun T1 h1c f1 => ?_)
      have hv1 := hv.frc h1c f1
      refine J_topI (w := nI (gR (pV σ) k)) r2 ?_
      refine J_istore (lv' := [(13, _), (12, _), (11, _), (10, _), (9, _), (8, _), (7, _), (6, _), (5, _), (4, _), (3, _), (2, _), (1, _), (0, _)]) hC dL_law_321 (by decide) rfl ?_
      refine J_aload_n 12 hC dL_law_323 rfl rfl ?_
      refine J_iload 1 hC dL_law_324 rfl ?_
      refine J_iconst (v := nI 1) hC dL_law_326 (by decide) ?_
      refine v_visit hC hv1.1 hkn (j := 1) (by decide) (Nat.le_of_ble_eq_true rfl) (by omega) (by omega) dL_law_327 (fun T2 h2c f2 => ?_)
      have hv2 := hv1.frc h2c f2
      refine J_topI (w := nI (bR (pV σ) k)) r3 ?_
      refine J_istore (lv' := [(14, _), (13, _), (12, _), (11, _), (10, _), (9, _), (8, _), (7, _), (6, _), (5, _), (4, _), (3, _), (2, _), (1, _), (0, _)]) hC dL_law_330 (by decide) rfl ?_
      refine J_aload 3 hC dL_law_332 rfl ?_
      refine J_iload 1 hC dL_law_334 rfl ?_
      refine J_zald hC hv2.2.2.1 rfl (inN hv2.2.2.2.1 (vp_in_nI (show gR (pV σ) k < 20 by omega) (by omega))) dL_law_336 ?_
      refine J_topI (w := 0) (by rw [nI_clamp (by omega), hv2.2.2.2.2 _ (by omega), r9]; rfl) ?_
      refine J_if_ne 387 hC dL_law_337 (by decide) (fun c337 => absurd c337 (fun z => z rfl)) (fun c337 => ?_)
      refine J_aload_n 13 hC dL_law_340 rfl rfl ?_
      refine J_iload 1 hC dL_law_341 rfl ?_
      refine v_isOpen hC hv2.1 r1 (Nat.le_of_ble_eq_true rfl) (by omega) (by omega) dL_law_343 ?_
      refine J_if_eq 387 hC dL_law_346 (by decide) (fun c346 => absurd c346 r10) (fun c346 => ?_)
      refine J_iload 0 hC dL_law_349 rfl ?_
      refine J_aload_n 13 hC dL_law_351 rfl rfl ?_
      refine J_iload 2 hC dL_law_352 rfl ?_
      refine J_iconst (v := nI 2) hC dL_law_354 (by decide) ?_
      refine v_visit hC hv2.1 hkn (j := 2) (by decide) (Nat.le_of_ble_eq_true rfl) (by omega) (by omega) dL_law_355 (fun T3 h3c f3 => ?_)
      have hv3 := hv2.frc h3c f3
      refine J_topI (w := nI (wR (pV σ) k)) r4 ?_
      refine J_isub hC dL_law_358 ?_
      refine J_topI (w := nI (bR (pV σ) k - wR (pV σ) k)) (nI_sub (by omega) (by omega)) ?_
      refine J_iload 5 hC dL_law_359 rfl ?_
      refine J_icmp_lt 387 hC dL_law_361 (by decide) (fun c361 => absurd c361 (nI_nlt (by omega) (by omega))) (fun c361 => ?_)
      refine J_aload_n 13 hC dL_law_364 rfl rfl ?_
      refine J_iload 2 hC dL_law_365 rfl ?_
      refine J_iconst (v := nI 2) hC dL_law_367 (by decide) ?_
      refine v_visit hC hv3.1 hkn (j := 2) (by decide) (Nat.le_of_ble_eq_true rfl) (by omega) (by omega) dL_law_368 (fun T4 h4c f4 => ?_)
      have hv4 := hv3.frc h4c f4
      refine J_topI (w := nI (wR (pV σ) k)) r4 ?_
      refine J_iconst (v := nI 1) hC dL_law_371 (by decide) ?_
      refine J_icmp_lt 387 hC dL_law_372 (by decide) (fun c372 => absurd c372 (nI_nlt r5 (by omega))) (fun c372 => ?_)
      refine J_aload_n 13 hC dL_law_375 rfl rfl ?_
      refine J_iload 2 hC dL_law_376 rfl ?_
      refine J_iconst (v := nI 2) hC dL_law_378 (by decide) ?_
      refine v_visit hC hv4.1 hkn (j := 2) (by decide) (Nat.le_of_ble_eq_true rfl) (by omega) (by omega) dL_law_379 (fun T5 h5c f5 => ?_)
      have hv5 := hv4.frc h5c f5
      refine J_topI (w := nI (wR (pV σ) k)) r4 ?_
      refine J_bipush (v := nI 13) hC dL_law_382 (by decide) ?_
      refine J_icmp_le 389 hC dL_law_384 (by decide) (fun c384 => ?_) (fun c384 => absurd (nI_le (by omega) (by decide)) c384)
      refine J_aload 3 hC dL_law_389 rfl ?_
      refine J_iload 1 hC dL_law_391 rfl ?_
      refine J_iconst (v := nI 1) hC dL_law_393 (by decide) ?_
      refine J_zast hC hv5.2.2.1 rfl (inN hv5.2.2.2.1 (vp_in_nI (show gR (pV σ) k < 20 by omega) (by omega))) dL_law_394 ?_
      refine J_eqS (S' := sV T5 (gR (pV σ) k) isin 1) (by rw [nI_clamp (by omega)]; rfl) ?_
      have hv6 := hv5.mark
      refine J_iload 0 hC dL_law_395 rfl ?_
      refine J_aload_n 11 hC dL_law_397 rfl rfl ?_
      refine J_iconst (v := nI 5) hC dL_law_398 (by decide) ?_
      refine J_iload 1 hC dL_law_399 rfl ?_
      refine J_imul hC dL_law_401 ?_
      refine J_topI (mul_I (a := 5) (b := gR (pV σ) k)) ?_
      refine J_iconst (v := nI 4) hC dL_law_402 (by decide) ?_
      refine J_iadd hC dL_law_403 ?_
      refine J_topI (nI_add (5 * gR (pV σ) k) 4) ?_
      refine J_iald hC hv6.2.1.1 rfl (inN hv6.2.1.2.1 (vp_in_nI (show 5 * gR (pV σ) k + 4 < 100 by omega) (by omega))) dL_law_404 ?_
      refine J_topI (w := nI (mnN σ (gR (pV σ) k))) (by rw [nI_clamp (by omega), hv6.2.1.2.2 _ r1]; exact me) ?_
      refine J_iadd hC dL_law_405 ?_
      refine J_topI (w := nI (eR σ (pV σ) (k + 1))) (nI_add _ _) ?_
      refine J_istore (lv' := [(9, _), (14, _), (13, _), (12, _), (11, _), (10, _), (8, _), (7, _), (6, _), (5, _), (4, _), (3, _), (2, _), (1, _), (0, _)]) hC dL_law_406 (by decide) rfl ?_
      refine J_iload 5 hC dL_law_408 rfl ?_
      refine J_aload_n 11 hC dL_law_410 rfl rfl ?_
      refine J_iconst (v := nI 5) hC dL_law_411 (by decide) ?_
      refine J_iload 2 hC dL_law_412 rfl ?_
      refine J_imul hC dL_law_414 ?_
      refine J_topI (mul_I (a := 5) (b := gR (pV σ) k)) ?_
      refine J_iconst (v := nI 4) hC dL_law_415 (by decide) ?_
      refine J_iadd hC dL_law_416 ?_
      refine J_topI (nI_add (5 * gR (pV σ) k) 4) ?_
      refine J_iald hC hv6.2.1.1 rfl (inN hv6.2.1.2.1 (vp_in_nI (show 5 * gR (pV σ) k + 4 < 100 by omega) (by omega))) dL_law_417 ?_
      refine J_topI (w := vt σ (gR (pV σ) k) 5) (by rw [nI_clamp (by omega), hv6.2.1.2.2 _ r1]) ?_
      refine J_iadd hC dL_law_418 ?_
      refine J_topI (w := sR σ (pV σ) (k + 1)) rfl ?_
      refine J_istore (lv' := [(10, _), (9, _), (14, _), (13, _), (12, _), (11, _), (8, _), (7, _), (6, _), (5, _), (4, _), (3, _), (2, _), (1, _), (0, _)]) hC dL_law_419 (by decide) rfl ?_
      refine J_iload 1 hC dL_law_421 rfl ?_
      refine J_iload 7 hC dL_law_423 rfl ?_
      refine J_icmp_gt 450 hC dL_law_425 (by decide) (fun c425 => absurd c425 (nI_nlt r8 (by omega))) (fun c425 => ?_)
      refine J_aload_n 13 hC dL_law_428 rfl rfl ?_
      refine J_iload 3 hC dL_law_429 rfl ?_
      refine J_iconst (v := nI 4) hC dL_law_431 (by decide) ?_
      refine v_window hC hv6.1 r1 (Nat.le_of_ble_eq_true rfl) (by omega) (by omega) dL_law_432 (fun T7 h7c f7 => ?_)
      have hv7 := hv6.frc h7c f7
      refine J_topI (w := nI mm) hmw ?_
      refine J_if_lt 450 hC dL_law_435 (by decide) (fun c435 => absurd c435 (nI_pos (by omega))) (fun c435 => ?_)
      refine J_aload_n 13 hC dL_law_438 rfl rfl ?_
      refine J_iload 3 hC dL_law_439 rfl ?_
      refine J_iconst (v := nI 4) hC dL_law_441 (by decide) ?_
      refine v_window hC hv7.1 r1 (Nat.le_of_ble_eq_true rfl) (by omega) (by omega) dL_law_442 (fun T8 h8c f8 => ?_)
      have hv8 := hv7.frc h8c f8
      refine J_topI (w := nI mm) hmw ?_
      refine J_iload 2 hC dL_law_445 rfl ?_
      refine J_icmp_le 452 hC dL_law_447 (by decide) (fun c447 => ?_) (fun c447 => absurd (nI_le hmb (by omega)) c447)
      refine J_iload 2 hC dL_law_452 rfl ?_
      refine J_istore (lv' := [(15, _), (10, _), (9, _), (14, _), (13, _), (12, _), (11, _), (8, _), (7, _), (6, _), (5, _), (4, _), (3, _), (2, _), (1, _), (0, _)]) hC dL_law_454 (by decide) rfl ?_
      have ee : eR σ (pV σ) (k + 1) - bR (pV σ) k = mnN σ (gR (pV σ) k) := Nat.add_sub_cancel_left _ _
      refine J_re [0, 3, 4, 5, 6, 1, 2, 7, 8, 9, 10, 11, 12, 13, 14, 15] rfl ?_
      refine lm_min hC hv8.1 r1 (e := eR σ (pV σ) (k + 1)) r8 (fun t q1 q2 => row_seen row q1 q2) (E := cs + 512) (F := ss + 5120) (by omega) (by omega) ?_ (eR σ (pV σ) (k + 1) - bR (pV σ) k + 1) (bR (pV σ) k) _ _ (by omega) (Nat.le_refl _) (Nat.le_add_right _ _) (by rw [ee]; omega) (by rw [ee]; omega)
      refine J_iinc (lv' := [(12, _), (15, _), (14, _), (13, _), (11, _), (10, _), (9, _), (8, _), (7, _), (6, _), (5, _), (4, _), (3, _), (2, _), (1, _), (0, _)]) 3 hC dL_law_482 rfl (nI_add k 1) (by decide) rfl ?_
      refine J_goto 307 hC dL_law_485 (by decide) ?_
      refine J_re [0, 4, 5, 6, 7, 8, 9, 10, 11, 12, 13, 14, 15] rfl ?_
      exact ih (k + 1) _ _ _ (by omega) (by omega) hv8 (by omega) (by omega)
