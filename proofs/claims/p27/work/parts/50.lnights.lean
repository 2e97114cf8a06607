/-! the law's nights: printed by wip/p27/law4.py -/
theorem cnV3_congr {σ τ : Sg} (h : ∀ k, vt τ k 8 = vt σ k 8) : ∀ n, cnV τ 3 n = cnV σ 3 n
  | 0 => rfl
  | n + 1 => by
    rw [cnV, cnV, cnV3_congr h n]
    have e1 : shV τ n 3 = vt τ n 8 := rfl
    have e2 : shV σ n 3 = vt σ n 8 := rfl
    rw [e1, e2, h n]
theorem zdI_0 {isin : Nat} {R : Nat → Nat → Int32} {S : HS} : zdI isin R 0 (sNew S isin 15 20) := ⟨if_pos rfl, if_pos rfl, fun _ _ => if_pos rfl⟩
theorem tdI.frm {told : Nat} {σ : Sg} {S T : HS} (h : tdI told σ S) (e : same1 S T told) : tdI told σ T :=
  ⟨e.1.trans h.1, e.2.1.trans h.2.1, fun i hi => (e.2.2.2.2.1 _).trans (h.2.2 i hi)⟩
set_option maxHeartbeats 4000000 in
set_option maxRecDepth 100000 in
/-- an evening: the plan, each visit, the night, the checks -/
theorem lm_eve {X : JX} {G : JG} {Q : State → Prop} (hC : JCL X G) {x told many time : Nat} {w6 : Int32} {σ : Sg} {T : HS} (ht : time < 6) (h : CE G x σ T) (td : tdI told σ T) (hn : nOK1 σ many time) {cs ss : Nat} (h1 : cs + 11900 ≤ room_1.cells) (h2 : ss + 119000 ≤ room_1.slots) (fin : ∀ U, CE G x (obN σ) U → tdI told (obN σ) U → J X G Q 16 (cs + 11900) (ss + 119000) 201 [(5, .int (nI (time + 1))), (4, .int (cnV (obN σ) 3 many)), (3, .ref told), (2, .int (nI many)), (1, .ref x), (0, .ref (gScr G))] [] U) : J X G Q 16 cs ss 286 [(7, .int (nI (lnV σ))), (6, .int w6), (5, .int (nI time)), (4, .int (cnV σ 3 many)), (3, .ref told), (2, .int (nI many)), (1, .ref x), (0, .ref (gScr G))] [] T := by
  have hr := h.rng
  have n20 := hr.2.2.2.2.2.2.2.1
  have hln := hr.ln
  have nle := nV_le σ
  have hvn := hn.1
  have opn := nV_op hr
  have opl := opN_le σ (vn σ)
  refine J_aload_n 6 hC dL_law_286 rfl rfl ?_
  refine v_visits hC h (Nat.le_of_ble_eq_true rfl) (by omega) (by omega) dL_law_287 (fun T1 h1c f1 => ?_)
  have td1 := td.frc f1 rfl (fun _ _ => rfl)
  refine J_istore (lv' := [(8, _), (7, _), (6, _), (5, _), (4, _), (3, _), (2, _), (1, _), (0, _)]) hC dL_law_290 (by decide) rfl ?_
  refine J_iconst (v := nI 0) hC dL_law_292 (by decide) ?_
  refine J_istore (lv' := [(9, _), (8, _), (7, _), (6, _), (5, _), (4, _), (3, _), (2, _), (1, _), (0, _)]) hC dL_law_293 (by decide) rfl ?_
  refine J_iconst (v := 0) hC dL_law_295 (by decide) ?_
  refine J_istore (lv' := [(10, _), (9, _), (8, _), (7, _), (6, _), (5, _), (4, _), (3, _), (2, _), (1, _), (0, _)]) hC dL_law_296 (by decide) rfl ?_
  refine J_bipush (v := nI 20) hC dL_law_298 (by decide) ?_
  refine J_newZ (lab := 15) (N := 20) hC rfl (mG 650 (by decide +kernel) rfl) (by decide) (by decide) (by decide) (by omega) (by omega) dL_law_300 (fun isin fisin => ?_)
  refine J_astore (lv' := [(11, _), (10, _), (9, _), (8, _), (7, _), (6, _), (5, _), (4, _), (3, _), (2, _), (1, _), (0, _)]) hC dL_law_302 (by decide) rfl ?_
  refine J_iconst (v := nI 0) hC dL_law_304 (by decide) ?_
  refine J_istore (lv' := [(12, _), (11, _), (10, _), (9, _), (8, _), (7, _), (6, _), (5, _), (4, _), (3, _), (2, _), (1, _), (0, _)]) hC dL_law_305 (by decide) rfl ?_
  have hv0 : viI G x told isin σ 0 (sNew T1 isin 15 20) := ⟨h1c.frm (FrM.rfl.new fisin), td1.frm ((newAt.of fisin).old (by rw [td1.1]; decide)), zdI_0⟩
  refine lm_vis hC (E := cs + 11000) (F := ss + 110000) (by omega) (by omega) (fun T2 hv => ?_) (nV σ + 1) 0 _ _ _ (by omega) (by omega) hv0 (by omega) (by omega)
  refine J_iload 4 hC dL_law_488 rfl ?_
  refine J_aload_n 11 hC dL_law_490 rfl rfl ?_
  refine J_iconst (v := nI 1) hC dL_law_491 (by decide) ?_
  refine v_count hC hv.1 (j := 1) (by decide) (Nat.le_of_ble_eq_true rfl) (by omega) (by omega) dL_law_492 ?_
  refine J_topI (cnV_1 σ (vn σ)) ?_
  refine J_icmp_gt 513 hC dL_law_495 (by decide) (fun c495 => absurd c495 (nI_nlt opn (by omega))) (fun c495 => ?_)
  refine J_aload_n 11 hC dL_law_498 rfl rfl ?_
  refine v_use hC hv.1 (Nat.le_of_ble_eq_true rfl) (by omega) (by omega) dL_law_499 (fun T3 h3c f3 => ?_)
  have hv3 := hv.frc h3c f3
  refine J_iload 2 hC dL_law_502 rfl ?_
  refine J_i2d hC dL_law_504 ?_
  refine J_iload 5 hC dL_law_505 rfl ?_
  refine J_i2d hC dL_law_507 ?_
  refine J_ddiv hC dL_law_508 (by exact Jvm.Free.Fl.ddiv_out (Jvm.Free.Fl.i2d_fin _).noNaN (Jvm.Free.Fl.i2d_fin _) (Jvm.Free.Fl.i2d_nz (nI_ne0 (by omega) (by omega)))) ?_
  refine J_topD (w := FP.ddiv (FP.i2d (pM (plV σ))) (FP.i2d (vg σ 2))) (by rw [sR_all hr, hln.1]) ?_
  refine J_dcmp hC dL_law_509 ?_
  refine J_topI (dd_eq (by rw [hln.1]; exact nI_ne0 (by omega) (by omega))) ?_
  refine J_if_eq 515 hC dL_law_510 (by decide) (fun c510 => ?_) (fun c510 => absurd rfl c510)
  refine J_aload_n 11 hC dL_law_515 rfl rfl ?_
  refine J_iconst (v := nI 1) hC dL_law_516 (by decide) ?_
  refine v_count hC hv3.1 (j := 1) (by decide) (Nat.le_of_ble_eq_true rfl) (by omega) (by omega) dL_law_517 ?_
  refine J_topI (cnV_1 σ (vn σ)) ?_
  refine J_istore (lv' := [(12, _), (11, _), (10, _), (9, _), (8, _), (7, _), (6, _), (5, _), (4, _), (3, _), (2, _), (1, _), (0, _)]) hC dL_law_520 (by decide) rfl ?_
  refine J_aload_n 11 hC dL_law_522 rfl rfl ?_
  refine v_observe hC hv3.1 (by rw [hn.2.1]; exact nI_lt (b := 60) (by omega) (by decide)) (Nat.le_of_ble_eq_true rfl) (by omega) (by omega) dL_law_523 (fun T4 h4c f4 => ?_)
  have td4 : tdI told (obN σ) T4 := hv3.2.1.frc f4 rfl (fun i _ => obN_5 σ i)
  have z1 := f4.k hv3.2.2.1 (by decide)
  have z2 := f4.n hv3.2.2.1 (by decide) hv3.2.2.2.1
  have z3 : ∀ g, g < 20 → hV T4 g isin = zI (pU (plV σ) g) := fun g hg => by
    rw [mR_all hr]
    exact (f4.v hv3.2.2.1 (by decide) g).trans (hv3.2.2.2.2 g hg)
  refine J_iload 4 hC dL_law_526 rfl ?_
  refine J_icmp_ne 538 hC dL_law_528 (by decide) (fun c528 => absurd c528 (fun z => z rfl)) (fun c528 => ?_)
  refine J_iload 0 hC dL_law_531 rfl ?_
  refine J_iload 4 hC dL_law_533 rfl ?_
  refine J_icmp_ge 540 hC dL_law_535 (by decide) (fun c535 => ?_) (fun c535 => absurd (nI_le opn (by omega)) c535)
  refine J_iload 8 hC dL_law_540 rfl ?_
  refine J_iload 4 hC dL_law_542 rfl ?_
  refine J_iadd hC dL_law_544 ?_
  refine J_topI (w := cnV (obN σ) 3 many) (by rw [← hvn]; exact (obN_cn σ (vn σ) (Nat.le_refl _)).symm) ?_
  refine J_istore (lv' := [(4, _), (12, _), (11, _), (10, _), (9, _), (8, _), (7, _), (6, _), (5, _), (3, _), (2, _), (1, _), (0, _)]) hC dL_law_545 (by decide) rfl ?_
  refine J_iconst (v := 0) hC dL_law_547 (by decide) ?_
  refine J_istore (lv' := [(13, _), (4, _), (12, _), (11, _), (10, _), (9, _), (8, _), (7, _), (6, _), (5, _), (3, _), (2, _), (1, _), (0, _)]) hC dL_law_548 (by decide) rfl ?_
  refine J_iconst (v := nI 0) hC dL_law_550 (by decide) ?_
  refine J_istore (lv' := [(14, _), (13, _), (4, _), (12, _), (11, _), (10, _), (9, _), (8, _), (7, _), (6, _), (5, _), (3, _), (2, _), (1, _), (0, _)]) hC dL_law_551 (by decide) rfl ?_
  refine J_re [0, 1, 3, 4, 5, 6, 7, 8, 9, 10, 2, 11, 12, 13, 14] rfl ?_
  refine lm_chk hC h4c hvn (fun k hk => obN_had hr hn hk) z1 z2 z3 (E := cs + 11400) (F := ss + 114000) (by omega) (by omega) ?_ (many + 1) 0 _ _ (by omega) (by omega) (by omega) (by omega)
  refine J_iload 1 hC dL_law_625 rfl ?_
  refine J_iload 10 hC dL_law_627 rfl ?_
  refine J_icmp_ne 653 hC dL_law_629 (by decide) (fun c629 => absurd c629 (fun z => z rfl)) (fun c629 => ?_)
  refine J_aload_n 13 hC dL_law_632 rfl rfl ?_
  refine J_iconst (v := nI 3) hC dL_law_633 (by decide) ?_
  refine v_count hC h4c (j := 3) (by decide) (Nat.le_of_ble_eq_true rfl) (by omega) (by omega) dL_law_634 ?_
  refine J_topI (w := cnV (obN σ) 3 many) (by rw [show vn (obN σ) = many from hvn]) ?_
  refine J_iload 10 hC dL_law_637 rfl ?_
  refine J_icmp_ne 653 hC dL_law_639 (by decide) (fun c639 => absurd c639 (fun z => z rfl)) (fun c639 => ?_)
  refine J_aload_n 13 hC dL_law_642 rfl rfl ?_
  refine v_night hC h4c (Nat.le_of_ble_eq_true rfl) (by omega) (by omega) dL_law_643 ?_
  refine J_topI (w := nI (time + 1)) (obN_n hr (by omega) hn).2.1 ?_
  refine J_iload 9 hC dL_law_646 rfl ?_
  refine J_iconst (v := nI 1) hC dL_law_648 (by decide) ?_
  refine J_iadd hC dL_law_649 ?_
  refine J_topI (nI_add time 1) ?_
  refine J_icmp_eq 655 hC dL_law_650 (by decide) (fun c650 => ?_) (fun c650 => absurd rfl c650)
  refine J_iinc (lv' := [(5, _), (14, _), (13, _), (12, _), (11, _), (10, _), (9, _), (8, _), (7, _), (6, _), (4, _), (3, _), (2, _), (1, _), (0, _)]) 9 hC dL_law_655 rfl (nI_add time 1) (by decide) rfl ?_
  refine J_goto 201 hC dL_law_658 (by decide) ?_
  refine J_re [0, 10, 11, 12, 13, 14] rfl ?_
  exact J_wd (by omega) (by omega) (fin T4 h4c td4)
set_option maxHeartbeats 4000000 in
set_option maxRecDepth 100000 in
/-- the nights -/
theorem lm_nights {X : JX} {G : JG} {Q : State → Prop} (hC : JCL X G) {x told many : Nat} (hL : gLen G ≤ 260) (fin : ∀ (cs ss : Nat) (T : HS) (had : Int32), cs ≤ room_1.cells → ss ≤ room_1.slots → J X G Q 16 cs ss 661 [(5, .int (nI 6)), (4, .int had), (3, .ref told), (2, .int (nI many)), (1, .ref x), (0, .ref (gScr G))] [] T) :
    ∀ (m time cs ss : Nat) (σ : Sg) (T : HS), 6 - time < m → time ≤ 6 → CE G x σ T → tdI told σ T → nOK σ many time → cs + 12000 * (6 - time) ≤ room_1.cells → ss + 120000 * (6 - time) ≤ room_1.slots → J X G Q 16 cs ss 201 [(5, .int (nI time)), (4, .int (cnV σ 3 many)), (3, .ref told), (2, .int (nI many)), (1, .ref x), (0, .ref (gScr G))] [] T := by
  intro m
  induction m with
  | zero => intro time cs ss σ T h; omega
  | succ m ih =>
    intro time cs ss σ T hm ht h td hn h1 h2
    refine J_iload 0 hC dL_law_201 rfl ?_
    refine J_bipush (v := nI 6) hC dL_law_203 (by decide) ?_
    refine J_icmp_ge 661 hC dL_law_205 (by decide) (fun c205 => ?_) (fun c205 => ?_)
    · have et : time = 6 := by
        have q := (nI_leI (a := 6) (by decide) (by omega)).mp c205
        omega
      subst et
      exact fin _ _ T _ (by omega) (by omega)
    · have ht6 : time < 6 := Nat.not_le.mp (fun z => c205 (nI_le (a := 6) z (by omega)))
      refine J_aload_n 5 hC dL_law_208 rfl rfl ?_
      refine J_bipush (v := nI 12) hC dL_law_209 (by decide) ?_
      refine J_iload 0 hC dL_law_211 rfl ?_
      refine J_iconst (v := nI 3) hC dL_law_213 (by decide) ?_
      refine J_irem hC dL_law_214 (by decide) ?_
      obtain ⟨r, hr, er⟩ := rem_I (a := time) (b := 3) (by decide) (by omega) (by decide)
      refine J_topI er ?_
      refine J_iadd hC dL_law_215 ?_
      refine J_topI (nI_add 12 r) ?_
      refine v_cell hC hL (n := 12 + r) (by omega) (Nat.le_of_ble_eq_true rfl) (Nat.le_of_ble_eq_true rfl) (Nat.le_of_ble_eq_true rfl) (by omega) (by omega) dL_law_216 (fun z => ?_)
      refine J_iload 0 hC dL_law_219 rfl ?_
      refine J_sipush (v := nI 2741) hC dL_law_221 (by decide) ?_
      refine J_imul hC dL_law_224 ?_
      refine J_ixor hC dL_law_225 ?_
      refine J_any (fun w6 => ?_)
      refine J_istore (lv' := [(6, _), (5, _), (4, _), (3, _), (2, _), (1, _), (0, _)]) hC dL_law_226 (by decide) rfl ?_
      refine J_bipush (v := nI 60) hC dL_law_228 (by decide) ?_
      refine J_iload 0 hC dL_law_230 rfl ?_
      refine J_sipush (v := nI 500) hC dL_law_232 (by decide) ?_
      refine v_below hC (m := 500) (by decide) (by decide) (Nat.le_of_ble_eq_true rfl) (Nat.le_of_ble_eq_true rfl) (Nat.le_of_ble_eq_true rfl) (by omega) (by omega) dL_law_235 (fun j gj => ?_)
      refine J_iadd hC dL_law_238 ?_
      refine J_topI (nI_add 60 j) ?_
      refine J_istore (lv' := [(7, _), (6, _), (5, _), (4, _), (3, _), (2, _), (1, _), (0, _)]) hC dL_law_239 (by decide) rfl ?_
      refine J_aload_n 6 hC dL_law_241 rfl rfl ?_
      refine J_iload 0 hC dL_law_242 rfl ?_
      refine v_setLength hC h (v := nI (60 + j)) (in_n (lo := 60) (hi := 900) (by omega) (by omega) (by decide)) (Nat.le_of_ble_eq_true rfl) (by omega) (by omega) dL_law_244 (fun r1 T1 h1c f1 => ?_)
      obtain ⟨σ1, hσ⟩ : ∃ σ1, σ1 = setG σ 2 (nI (60 + j)) := ⟨_, rfl⟩
      have e0 : vg σ1 2 = nI (60 + j) := by rw [hσ]; exact setG_same _ _ _
      have e1 : lnV σ1 = 60 + j := by unfold lnV; rw [e0, nI_clamp (by omega)]
      have c1 : cnV σ1 3 many = cnV σ 3 many := cnV3_congr (fun k => by rw [hσ]; rfl) many
      have d1 : tdI told σ1 T1 := td.frc f1 (by rw [hσ]; rfl) (fun i _ => by rw [hσ]; rfl)
      have v0 : vc σ1 = 0 := by rw [hσ]; exact hn.2.2.1
      have n1 : nOK1 σ1 many time := by
        rw [hσ]
        exact ⟨hn.1, (setG_ne (by decide)).trans hn.2.1, fun k hk => ⟨(hn.2.2.2 k hk).1, by rw [setG_ne (by decide)]; exact (hn.2.2.2 k hk).2⟩⟩
      rw [← hσ] at h1c
      refine J_pop hC dL_law_247 rfl ?_
      refine J_iload 1 hC dL_law_248 rfl ?_
      refine J_iconst (v := nI 4) hC dL_law_250 (by decide) ?_
      refine J_ishr hC dL_law_251 ?_
      refine J_iconst (v := nI 2) hC dL_law_252 (by decide) ?_
      refine v_below hC (m := 2) (by decide) (by decide) (Nat.le_of_ble_eq_true rfl) (Nat.le_of_ble_eq_true rfl) (Nat.le_of_ble_eq_true rfl) (by omega) (by omega) dL_law_253 (fun j2 gj2 => ?_)
      refine J_if_ne 286 hC dL_law_256 (by decide) (fun c256 => ?_) (fun c256 => ?_)
      · refine J_wd (cs' := cs + 100) (ss' := ss + 1000) (by omega) (by omega) ?_
        refine J_eqL (lv' := [(7, .int (nI (lnV σ1))), (6, .int w6), (5, .int (nI time)), (4, .int (cnV σ1 3 many)), (3, .ref told), (2, .int (nI many)), (1, .ref x), (0, .ref (gScr G))]) (by rw [e1, c1]) ?_
        refine lm_eve hC ht6 h1c d1 n1 (by omega) (by omega) (fun U hU tU => ?_)
        exact ih (time + 1) _ _ _ U (by omega) (by omega) hU tU (obN_n h1c.rng (by omega) n1) (by omega) (by omega)
      · refine J_aload_n 6 hC dL_law_259 rfl rfl ?_
        refine J_iload 1 hC dL_law_260 rfl ?_
        refine J_iconst (v := nI 5) hC dL_law_262 (by decide) ?_
        refine J_ishr hC dL_law_263 ?_
        refine J_bipush (v := nI 30) hC dL_law_264 (by decide) ?_
        refine v_below hC (m := 30) (by decide) (by decide) (Nat.le_of_ble_eq_true rfl) (Nat.le_of_ble_eq_true rfl) (Nat.le_of_ble_eq_true rfl) (by omega) (by omega) dL_law_266 (fun ja gja => ?_)
        refine J_bipush (v := nI 30) hC dL_law_269 (by decide) ?_
        refine J_iload 1 hC dL_law_271 rfl ?_
        refine J_bipush (v := nI 8) hC dL_law_273 (by decide) ?_
        refine J_ishr hC dL_law_275 ?_
        refine J_bipush (v := nI 30) hC dL_law_276 (by decide) ?_
        refine v_below hC (m := 30) (by decide) (by decide) (Nat.le_of_ble_eq_true rfl) (Nat.le_of_ble_eq_true rfl) (Nat.le_of_ble_eq_true rfl) (by omega) (by omega) dL_law_278 (fun jb gjb => ?_)
        refine J_iadd hC dL_law_281 ?_
        refine J_topI (nI_add 30 jb) ?_
        refine v_addClouds hC h1c (v := nI ja) (w := nI (30 + jb)) ⟨nI_pos' (by omega), nI_le (by omega) (by omega), by rw [e0]; exact nI_lt (by omega) (by omega)⟩ v0 (Nat.le_of_ble_eq_true rfl) (by omega) (by omega) dL_law_282 (fun r2 T2 h2c f2 => ?_)
        obtain ⟨σ2, hσ2⟩ : ∃ σ2, σ2 = addC σ1 (nI ja) (nI (30 + jb)) := ⟨_, rfl⟩
        have e2 : lnV σ2 = 60 + j := by rw [hσ2]; exact e1
        have c2 : cnV σ2 3 many = cnV σ 3 many := (cnV3_congr (fun k => by rw [hσ2]; rfl) many).trans c1
        have d2 : tdI told σ2 T2 := d1.frc f2 (by rw [hσ2]; rfl) (fun i _ => by rw [hσ2]; rfl)
        have n2 : nOK1 σ2 many time := by rw [hσ2]; exact n1
        rw [← hσ2] at h2c
        refine J_pop hC dL_law_285 rfl ?_
        refine J_wd (cs' := cs + 100) (ss' := ss + 1000) (by omega) (by omega) ?_
        refine J_eqL (lv' := [(7, .int (nI (lnV σ2))), (6, .int w6), (5, .int (nI time)), (4, .int (cnV σ2 3 many)), (3, .ref told), (2, .int (nI many)), (1, .ref x), (0, .ref (gScr G))]) (by rw [e2, c2]) ?_
        refine lm_eve hC ht6 h2c d2 n2 (by omega) (by omega) (fun U hU tU => ?_)
        exact ih (time + 1) _ _ _ U (by omega) (by omega) hU tU (obN_n h2c.rng (by omega) n2) (by omega) (by omega)
