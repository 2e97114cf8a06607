/-! makePlan: printed by wip/whole/model2.py -/
theorem nI_mul (a b : Nat) : nI a * nI b = nI (a * b) := (Int32.ofNat_mul a b).symm
theorem nI_900 (k t : Nat) : (900 : Int32) * nI k + nI t = nI (900 * k + t) := by
  rw [show (900 : Int32) = nI 900 from rfl, nI_mul, nI_add]
theorem nI_4 (k : Nat) : (4 : Int32) * nI k = nI (4 * k) := by
  rw [show (4 : Int32) = nI 4 from rfl, nI_mul]

theorem kV {S : HS} {k a b n : Nat} {v : Int32} (h : hK S a = n) : hK (sV S k b v) a = n := h
theorem nV {S : HS} {k a b n : Nat} {v : Int32} (h : hN S a = n) : hN (sV S k b v) a = n := h
theorem kVa {S : HS} {a b n : Nat} {g : Nat → Int32} (h : hK S a = n) : hK (sVa S b g) a = n := h

set_option maxHeartbeats 4000000 in
set_option maxRecDepth 100000 in
/-- makePlan -/
theorem c_makePlan {G : JG} (S : HS) (y : Nat) (B : Nat → Nat) (σ : Sg) (hs : MShp y B S) (hv : MVl y B σ S) (hr : Rng σ) (hm : MR B σ S) : Ct G yX6_makePlan cX6_makePlan 9 none 6 240 21 100 [.ref y] S (rV (fun S' => MShp y B S' ∧ MVl y B σ S' ∧ FrM S S' ∧ hI S' 21 y = hI S 21 y ∧ hI S' 0 y = hI S 0 y ∧ MW y B σ S')) noX := by
  refine Ct.of (by decide) (Nat.le_of_ble_eq_true rfl) (fun X hC hT hin => ?_)
  have hln := hr.ln
  have n20 : vn σ ≤ 20 := hr.2.2.2.2.2.2.2.1
  have loop : ∀ (q : Nat), hK S q = 0 → ∀ (m : Nat) (π : Pl) (T : HS), lnV σ - pT π < m → mpI y B σ S q π T → plF σ m π = plV σ → J X G (QQ X G (rV (fun S' => MShp y B S' ∧ MVl y B σ S' ∧ FrM S S' ∧ hI S' 21 y = hI S 21 y ∧ hI S' 0 y = hI S 0 y ∧ MW y B σ S')) noX 21 100) 9 (1 + pS σ π) (20 + 4 * pS σ π) 14 [(3, .int (nI (pT π))), (2, .int (fI (pF π))), (1, .ref q), (0, .ref y)] [] T := by
    intro q hq m
    induction m with
    | zero => intro π T h; omega
    | succ m ih =>
      intro π T hm0 hI0 hpl
      have hsT := hI0.1.shp hs
      have hvT := hI0.1.vl hs hv
      have hmT := hm.mF hs hI0.1
      have h1100 := hI0.2.2.2.2.2
      have hf := hI0.2.2.2.2.1
      have hps : pS σ π ≤ 20 := Nat.le_trans (ctU_le _ _) n20
      refine J_iload_n 0 hC dX6_makePlan_14 rfl rfl ?_
      refine J_aload_n 3 hC dX6_makePlan_15 rfl rfl ?_
      refine fg_X6_7 hC hsT.ky dX6_makePlan_16 ?_
      refine J_topI (hvT.1.2.1.trans hln.1) ?_
      refine J_icmp_ge 268 hC dX6_makePlan_19 (by decide) (fun c19 => ?_) (fun c19 => ?_)
      · have hge : ¬ pT π < lnV σ := fun z => absurd c19 (nI_ge z (by omega))
        rw [plF, if_neg hge] at hpl
        subst hpl
        exact J_vretI hC dX6_makePlan_268 (by omega) (by omega) ⟨hsT, hvT, hI0.1.frm hs, hI0.1.2.1.2.2 21 (by decide), hI0.1.2.1.2.2 0 (by decide), hmT, hI0.2.2.1, hI0.2.2.2.1⟩
      · have hlt : pT π < lnV σ := Nat.not_le.mp (fun z => c19 (nI_le z (by omega)))
        rw [plF, if_pos hlt] at hpl
        refine J_iconst (v := (-1)) hC dX6_makePlan_22 (by decide) ?_
        refine J_istore (lv' := [(4, _), (3, _), (2, _), (1, _), (0, _)]) hC dX6_makePlan_23 (by decide) rfl ?_
        refine J_iconst (v := 0) hC dX6_makePlan_25 (by decide) ?_
        refine J_istore (lv' := [(5, _), (4, _), (3, _), (2, _), (1, _), (0, _)]) hC dX6_makePlan_26 (by decide) rfl ?_
        refine J_iconst (v := 0) hC dX6_makePlan_28 (by decide) ?_
        refine J_istore (lv' := [(6, _), (5, _), (4, _), (3, _), (2, _), (1, _), (0, _)]) hC dX6_makePlan_29 (by decide) rfl ?_
        have in1 : ∀ (n i : Nat), vn σ - i < n → i ≤ vn σ → J X G (QQ X G (rV (fun S' => MShp y B S' ∧ MVl y B σ S' ∧ FrM S S' ∧ hI S' 21 y = hI S 21 y ∧ hI S' 0 y = hI S 0 y ∧ MW y B σ S')) noX 21 100) 9 (1 + pS σ π) (20 + 4 * pS σ π) 31 [(6, .int (nI i)), (5, .int (moV (bsV σ (nI (pT π)) (pF π) (pU π) i))), (4, .int (fI (bsV σ (nI (pT π)) (pF π) (pU π) i).1)), (3, .int (nI (pT π))), (2, .int (fI (pF π))), (1, .ref q), (0, .ref y)] [] T := by
          intro n
          induction n with
          | zero => intro i h; omega
          | succ n ih2 =>
            intro i hi hi2
            refine J_iload 0 hC dX6_makePlan_31 rfl ?_
            refine J_aload_n 6 hC dX6_makePlan_33 rfl rfl ?_
            refine fg_X6_63 hC hsT.ky dX6_makePlan_34 ?_
            refine J_topI hvT.1.2.2.2.2.2.2.2.2 ?_
            refine J_icmp_ge 170 hC dX6_makePlan_37 (by decide) (fun c37 => ?_) (fun c37 => ?_)
            · have e1 : i = vn σ := Nat.le_antisymm hi2 (Nat.not_lt.mp (fun z => absurd c37 (nI_ge z (by omega))))
              rw [e1]
              clear c37
              rcases hb : (bsV σ (nI (pT π)) (pF π) (pU π) (vn σ)) with ⟨_ | g, mb⟩
              · refine J_iload 2 hC dX6_makePlan_170 rfl ?_
                refine J_iconst (v := (-1)) hC dX6_makePlan_172 (by decide) ?_
                refine J_icmp_ne 182 hC dX6_makePlan_173 (by decide) (fun c173 => (c173 rfl).elim) (fun c173 => ?_)
                refine J_iinc (lv' := [(3, _), (6, _), (5, _), (4, _), (2, _), (1, _), (0, _)]) 3 hC dX6_makePlan_176 rfl (nI_1 (pT π)) (by decide) rfl ?_
                refine J_goto 14 hC dX6_makePlan_179 (by decide) ?_
                have est : stV σ π = (pT π + 1, π.2) := by unfold stV; rw [hb]
                rw [est] at hpl
                exact J_re [0, 4, 5, 6] rfl (ih (pT π + 1, π.2) T (by show lnV σ - (pT π + 1) < m; omega) ⟨hI0.1, hI0.2.1, hI0.2.2.1, hI0.2.2.2.1, hf, by show pT π + 1 ≤ 1100; omega⟩ hpl)
              · have hg : g < vn σ := (bs_lt hb).1
                have hus := bs_open hb
                have hps1 : pS σ (tkV σ π g mb) = pS σ π + 1 := ctU_mk hg hus.1
                have hps2 : pS σ π < 20 := Nat.lt_of_lt_of_le (ctU_lt hg hus.1) n20
                have htk := tk_t (m := mb) hr hg hf (show pT π ≤ 900 by omega)
                refine J_iload 2 hC dX6_makePlan_170 rfl ?_
                refine J_iconst (v := (-1)) hC dX6_makePlan_172 (by decide) ?_
                refine J_icmp_ne 182 hC dX6_makePlan_173 (by decide) (fun c173 => ?_) (fun c173 => (nI_ne1 (show g < 2147483648 by omega) c173).elim)
                refine J_aload_n 6 hC dX6_makePlan_182 rfl rfl ?_
                refine J_iload_n 3 hC dX6_makePlan_183 rfl rfl ?_
                refine J_iload_n 4 hC dX6_makePlan_184 rfl rfl ?_
                refine J_iload 2 hC dX6_makePlan_185 rfl ?_
                refine cl_X6_140 hC (c_ready T y B σ hsT hvT hr g hg (nI (pT π)) (pF π) hf) hsT.ky (Nat.le_of_ble_eq_true rfl) ⟨⟨Nat.le_of_ble_eq_true rfl, Nat.le_of_ble_eq_true rfl⟩, by omega, by omega⟩ dX6_makePlan_187 (fun r187 S187 e187 => ?_)
                obtain ⟨rfl, e187⟩ := e187
                subst S187
                refine J_istore (lv' := [(6, _), (5, _), (4, _), (3, _), (2, _), (1, _), (0, _)]) hC dX6_makePlan_190 (by decide) rfl ?_
                refine J_iconst (v := 4) hC dX6_makePlan_192 (by decide) ?_
                refine J_newI (lab := 31) (N := 4) hC rfl (mG 111 (by decide +kernel) rfl) (by decide) (by decide) (by decide) (by omega) (by omega) dX6_makePlan_193 (fun v fv => ?_)
                refine J_dup hC dX6_makePlan_195 rfl ?_
                refine J_iconst (v := 0) hC dX6_makePlan_196 (by decide) ?_
                refine J_iload 2 hC dX6_makePlan_197 rfl ?_
                refine J_iast hC (show hK (sNew T v 31 4) v = 31 from if_pos rfl) rfl (inN (show hN (sNew T v 31 4) v = 4 from if_pos rfl) (vp_in_nI (show 0 < 4 by decide) (by decide))) dX6_makePlan_199 ?_
                refine J_dup hC dX6_makePlan_200 rfl ?_
                refine J_iconst (v := 1) hC dX6_makePlan_201 (by decide) ?_
                refine J_iload 0 hC dX6_makePlan_202 rfl ?_
                refine J_iast hC (kV (show hK (sNew T v 31 4) v = 31 from if_pos rfl)) rfl (inN (nV (show hN (sNew T v 31 4) v = 4 from if_pos rfl)) (vp_in_nI (show 1 < 4 by decide) (by decide))) dX6_makePlan_204 ?_
                refine J_dup hC dX6_makePlan_205 rfl ?_
                refine J_iconst (v := 2) hC dX6_makePlan_206 (by decide) ?_
                refine J_iload 0 hC dX6_makePlan_207 rfl ?_
                refine J_iload_n 3 hC dX6_makePlan_209 rfl rfl ?_
                refine J_isub hC dX6_makePlan_210 ?_
                refine J_topI (show nI (pT π) + wtV σ (pF π) g - nI (pT π) = wtV σ (pF π) g by rw [Int32.add_comm, Int32.add_sub_cancel]) ?_
                refine J_iast hC (kV (kV (show hK (sNew T v 31 4) v = 31 from if_pos rfl))) rfl (inN (nV (nV (show hN (sNew T v 31 4) v = 4 from if_pos rfl))) (vp_in_nI (show 2 < 4 by decide) (by decide))) dX6_makePlan_211 ?_
                refine J_dup hC dX6_makePlan_212 rfl ?_
                refine J_iconst (v := 3) hC dX6_makePlan_213 (by decide) ?_
                refine J_iload 1 hC dX6_makePlan_214 rfl ?_
                refine J_iast hC (kV (kV (kV (show hK (sNew T v 31 4) v = 31 from if_pos rfl)))) rfl (inN (nV (nV (nV (show hN (sNew T v 31 4) v = 4 from if_pos rfl)))) (vp_in_nI (show 3 < 4 by decide) (by decide))) dX6_makePlan_216 ?_
                refine J_eqS (show _ = visS T v (nI g) (nI (pT π) + wtV σ (pF π) g) (wtV σ (pF π) g) mb from rfl) ?_
                have xv : ext T (visS T v (nI g) (nI (pT π) + wtV σ (pF π) g) (wtV σ (pF π) g) mb) := vis_ext fv
                have sy := xv y (by rw [hsT.ky]; decide)
                have sp := xv (B 25) (by rw [hsT.k 25 rfl]; decide)
                have sq := xv q (by rw [hI0.2.1.1]; decide)
                refine J_astore (lv' := [(7, _), (6, _), (5, _), (4, _), (3, _), (2, _), (1, _), (0, _)]) hC dX6_makePlan_217 (by decide) rfl ?_
                refine J_aload 0 hC dX6_makePlan_219 rfl ?_
                refine J_iconst (v := 0) hC dX6_makePlan_221 (by decide) ?_
                refine J_aload_n 7 hC dX6_makePlan_222 rfl rfl ?_
                refine fg_X6_57 hC (sy.1.trans hsT.ky) ((sy.2.2.2.1 25).trans (hsT.p 25 rfl)) dX6_makePlan_223 ?_
                refine J_iconst (v := 4) hC dX6_makePlan_226 (by decide) ?_
                refine J_aload_n 7 hC dX6_makePlan_227 rfl rfl ?_
                refine fg_X6_133 hC (sy.1.trans hsT.ky) dX6_makePlan_228 ?_
                refine J_topI ((sy.2.2.1 24).trans hI0.2.2.1) ?_
                refine J_imul hC dX6_makePlan_231 ?_
                refine J_topI (nI_4 (pS σ π)) ?_
                refine J_iconst (v := 4) hC dX6_makePlan_232 (by decide) ?_
                refine J_copyI hC vis_k.1 rfl (sp.1.trans (hsT.k 25 rfl)) rfl (mG 990 (by decide +kernel) rfl) (by decide) (nI_pos (by omega)) (by decide) (by rw [vis_k.2]; decide) (by rw [nI_clamp (by omega), sp.2.1.trans (hsT.n 25 rfl)]; show 4 * pS σ π + 4 ≤ 80; omega) (Nat.le_of_ble_eq_true rfl) (Nat.le_of_ble_eq_true rfl) dX6_makePlan_233 ?_
                rw [show (0 : Int32).toNatClampNeg = 0 from rfl, show (4 : Int32).toNatClampNeg = 4 from rfl, nI_clamp (show 4 * pS σ π < 2147483648 by omega)]
                refine J_aload_n 7 hC dX6_makePlan_236 rfl rfl ?_
                refine J_dup hC dX6_makePlan_237 rfl ?_
                refine fg_X6_133 hC (kVa (sy.1.trans hsT.ky)) dX6_makePlan_238 ?_
                refine J_topI ((sy.2.2.1 24).trans hI0.2.2.1) ?_
                refine J_iconst (v := 1) hC dX6_makePlan_241 (by decide) ?_
                refine J_iadd hC dX6_makePlan_242 ?_
                refine J_topI (nI_1 _) ?_
                refine fp_X6_133 hC (kVa (sy.1.trans hsT.ky)) dX6_makePlan_243 ?_
                refine J_aload_n 6 hC dX6_makePlan_246 rfl rfl ?_
                refine J_iload 3 hC dX6_makePlan_247 rfl ?_
                refine J_iconst (v := 1) hC dX6_makePlan_249 (by decide) ?_
                refine J_zast hC (kI (kVa (sq.1.trans hI0.2.1.1))) rfl (inN (show _ = 20 from sq.2.1.trans hI0.2.1.2.1) (vp_in_nI (show g < 20 by omega) (by decide))) dX6_makePlan_250 ?_
                refine J_eqS (show _ = tmS T y (B 25) q v (pS σ π) g (nI g) (nI (pT π) + wtV σ (pF π) g) (wtV σ (pF π) g) mb from by unfold tmS; rw [show (fI (some g, mb).1) = nI g from rfl, nI_clamp (show g < 2147483648 by omega)]; rfl) ?_
                have hst := mp_step hs hr hq hI0 hlt hb fv
                have hs2 := hst.1.shp hs
                have hv2 := hst.1.vl hs hv
                refine J_iload 3 hC dX6_makePlan_251 rfl ?_
                refine J_istore_n (lv' := [(2, _), (7, _), (6, _), (5, _), (4, _), (3, _), (1, _), (0, _)]) hC dX6_makePlan_253 rfl (by decide) rfl ?_
                refine J_iload 2 hC dX6_makePlan_254 rfl ?_
                refine J_aload_n 7 hC dX6_makePlan_256 rfl rfl ?_
                refine fg_X6_36 hC hs2.ky (hs2.p 16 rfl) dX6_makePlan_257 ?_
                refine J_iload 4 hC dX6_makePlan_260 rfl ?_
                refine J_topI (show _ = nI g from rfl) ?_
                refine J_iald hC (hs2.k 16 rfl) rfl (inN (hs2.n 16 rfl) (vp_in_nI (show g < 20 by have := hr.2.2.2.2.2.2.2.1; omega) (by decide))) dX6_makePlan_262 ?_
                refine J_topI (show _ = vt σ g 5 by rw [nI_clamp (show g < 2147483648 by have := hr.2.2.2.2.2.2.2.1; omega)]; exact hv2.t hg (show 5 < 10 by decide)) ?_
                refine J_iadd hC dX6_makePlan_263 ?_
                refine J_topI htk.2.2 ?_
                refine J_istore_n (lv' := [(3, _), (2, _), (7, _), (6, _), (5, _), (4, _), (1, _), (0, _)]) hC dX6_makePlan_264 rfl (by decide) rfl ?_
                refine J_goto 14 hC dX6_makePlan_265 (by decide) ?_
                have est : stV σ π = tkV σ π g mb := by unfold stV; rw [hb]
                rw [est] at hpl
                refine J_wd (cs' := 1 + pS σ (tkV σ π g mb)) (ss' := 20 + 4 * pS σ (tkV σ π g mb)) (by omega) (by omega) ?_
                exact J_re [0, 1, 6, 7] rfl (ih (tkV σ π g mb) _ (by omega) hst hpl)
            · have hlt2 : i < vn σ := Nat.not_le.mp (fun z => c37 (nI_le z (by omega)))
              have cont : J X G (QQ X G (rV (fun S' => MShp y B S' ∧ MVl y B σ S' ∧ FrM S S' ∧ hI S' 21 y = hI S 21 y ∧ hI S' 0 y = hI S 0 y ∧ MW y B σ S')) noX 21 100) 9 (1 + pS σ π) (20 + 4 * pS σ π) 164 [(6, .int (nI i)), (5, .int (moV (bsV σ (nI (pT π)) (pF π) (pU π) (i + 1)))), (4, .int (fI (bsV σ (nI (pT π)) (pF π) (pU π) (i + 1)).1)), (3, .int (nI (pT π))), (2, .int (fI (pF π))), (1, .ref q), (0, .ref y)] [] T := by
                refine J_iinc (lv' := [(6, _), (5, _), (4, _), (3, _), (2, _), (1, _), (0, _)]) 0 hC dX6_makePlan_164 rfl (nI_1 i) (by decide) rfl ?_
                refine J_goto 31 hC dX6_makePlan_167 (by decide) ?_
                exact ih2 (i + 1) (by omega) (by omega)
              refine J_aload_n 5 hC dX6_makePlan_40 rfl rfl ?_
              refine J_iload 0 hC dX6_makePlan_41 rfl ?_
              refine J_zald hC hI0.2.1.1 rfl (inN hI0.2.1.2.1 (vp_in_nI (show i < 20 by omega) (by decide))) dX6_makePlan_43 ?_
              refine J_topI (show _ = zI (pU π i) by rw [nI_clamp (by omega)]; exact hI0.2.1.2.2 i hlt2) ?_
              refine J_if_ne 164 hC dX6_makePlan_44 (by decide) (fun c44 => ?_) (fun c44 => ?_)
              · rw [bs_skip (me_u (zI_ne c44))] at cont
                exact J_re [0, 1, 2, 3, 4, 5, 6] rfl cont
              · refine J_aload_n 6 hC dX6_makePlan_47 rfl rfl ?_
                refine J_iload 0 hC dX6_makePlan_48 rfl ?_
                refine cl_X6_136 hC (c_X6_isOpenNow T y B σ hsT hvT hr i hlt2) hsT.ky (Nat.le_of_ble_eq_true rfl) ⟨⟨Nat.le_of_ble_eq_true rfl, Nat.le_of_ble_eq_true rfl⟩, by omega, by omega⟩ dX6_makePlan_50 (fun r50 S50 e50 => ?_)
                obtain ⟨rfl, e50⟩ := e50
                subst S50
                refine J_if_ne 59 hC dX6_makePlan_53 (by decide) (fun c53 => ?_) (fun c53 => ?_)
                · refine J_aload_n 6 hC dX6_makePlan_59 rfl rfl ?_
                  refine J_iload_n 3 hC dX6_makePlan_60 rfl rfl ?_
                  refine J_iload_n 4 hC dX6_makePlan_61 rfl rfl ?_
                  refine J_iload 0 hC dX6_makePlan_62 rfl ?_
                  refine cl_X6_140 hC (c_ready T y B σ hsT hvT hr i hlt2 (nI (pT π)) (pF π) hf) hsT.ky (Nat.le_of_ble_eq_true rfl) ⟨⟨Nat.le_of_ble_eq_true rfl, Nat.le_of_ble_eq_true rfl⟩, by omega, by omega⟩ dX6_makePlan_64 (fun r64 S64 e64 => ?_)
                  obtain ⟨rfl, e64⟩ := e64
                  subst S64
                  obtain ⟨w, w1, w2, we⟩ := wt_in hr hlt2 hf
                  have er : nI (pT π) + wtV σ (pF π) i = nI (pT π + w) := by rw [we, nI_add]
                  refine J_topI er ?_
                  refine J_istore (lv' := [(7, _), (6, _), (5, _), (4, _), (3, _), (2, _), (1, _), (0, _)]) hC dX6_makePlan_67 (by decide) rfl ?_
                  refine J_iload 0 hC dX6_makePlan_69 rfl ?_
                  refine J_aload_n 7 hC dX6_makePlan_71 rfl rfl ?_
                  refine fg_X6_7 hC hsT.ky dX6_makePlan_72 ?_
                  refine J_topI (hvT.1.2.1.trans hln.1) ?_
                  refine J_icmp_ge 164 hC dX6_makePlan_75 (by decide) (fun c75 => ?_) (fun c75 => ?_)
                  · rw [bs_skip (me_l (by rw [er]; exact la_no hr hlt2 (Nat.not_lt.mp (fun z => absurd c75 (nI_ge z (by omega)))) (by omega)))] at cont
                    exact J_re [1, 2, 3, 4, 5, 6, 7] rfl cont
                  · have hrr : pT π + w < lnV σ := Nat.not_le.mp (fun z => c75 (nI_le z (by omega)))
                    refine J_aload_n 7 hC dX6_makePlan_78 rfl rfl ?_
                    refine fg_X6_54 hC hsT.ky (hsT.p 23 rfl) dX6_makePlan_79 ?_
                    refine J_sipush (v := 900) hC dX6_makePlan_82 (by decide) ?_
                    refine J_iload 1 hC dX6_makePlan_85 rfl ?_
                    refine J_imul hC dX6_makePlan_87 ?_
                    refine J_iload 0 hC dX6_makePlan_88 rfl ?_
                    refine J_iadd hC dX6_makePlan_90 ?_
                    refine J_topI (nI_900 i (pT π + w)) ?_
                    refine J_iald hC (hsT.k 23 rfl) rfl (inN (hsT.n 23 rfl) (vp_in_nI (show 900 * i + (pT π + w) < 18000 by omega) (by decide))) dX6_makePlan_91 ?_
                    refine J_topI (show _ = nI (rnA σ i (pT π + w)) by rw [nI_clamp (by omega)]; exact (hmT i hlt2 _ hrr).2) ?_
                    refine J_aload_n 7 hC dX6_makePlan_92 rfl rfl ?_
                    refine fg_X6_36 hC hsT.ky (hsT.p 16 rfl) dX6_makePlan_93 ?_
                    refine J_iload 1 hC dX6_makePlan_96 rfl ?_
                    refine J_iald hC (hsT.k 16 rfl) rfl (inN (hsT.n 16 rfl) (vp_in_nI (show i < 20 by have := hr.2.2.2.2.2.2.2.1; omega) (by decide))) dX6_makePlan_98 ?_
                    refine J_topI (show _ = vt σ i 5 by rw [nI_clamp (show i < 2147483648 by have := hr.2.2.2.2.2.2.2.1; omega)]; exact hvT.t hlt2 (show 5 < 10 by decide)) ?_
                    refine J_icmp_ge 105 hC dX6_makePlan_99 (by decide) (fun c99 => ?_) (fun c99 => ?_)
                    · have hme : meV σ (nI (pT π)) (pF π) (pU π) i = 100 * vt σ i 3 + thV σ i (nI (pT π + w)) / 10 - wtV σ (pF π) i := by
                        rw [me_y (show pU π i = false by cases e9 : pU π i; rfl; exact absurd (show zI (pU π i) = 0 from c44) (by rw [e9]; decide)) c53 (by rw [er]; exact fun z => absurd ((la_eq (show pT π + w < 900 by omega)).mp z) (Int32.not_lt.mpr c99)), er]
                      have hgt := me_gt hr hlt2 hf (nI (pT π + w))
                      rw [← hme] at hgt
                      refine J_bipush (v := 100) hC dX6_makePlan_105 (by decide) ?_
                      refine J_aload_n 7 hC dX6_makePlan_107 rfl rfl ?_
                      refine fg_X6_30 hC hsT.ky (hsT.p 14 rfl) dX6_makePlan_108 ?_
                      refine J_iload 1 hC dX6_makePlan_111 rfl ?_
                      refine J_iald hC (hsT.k 14 rfl) rfl (inN (hsT.n 14 rfl) (vp_in_nI (show i < 20 by have := hr.2.2.2.2.2.2.2.1; omega) (by decide))) dX6_makePlan_113 ?_
                      refine J_topI (show _ = vt σ i 3 by rw [nI_clamp (show i < 2147483648 by have := hr.2.2.2.2.2.2.2.1; omega)]; exact hvT.t hlt2 (show 3 < 10 by decide)) ?_
                      refine J_imul hC dX6_makePlan_114 ?_
                      refine J_aload_n 7 hC dX6_makePlan_115 rfl rfl ?_
                      refine fg_X6_51 hC hsT.ky (hsT.p 22 rfl) dX6_makePlan_116 ?_
                      refine J_sipush (v := 900) hC dX6_makePlan_119 (by decide) ?_
                      refine J_iload 1 hC dX6_makePlan_122 rfl ?_
                      refine J_imul hC dX6_makePlan_124 ?_
                      refine J_iload 0 hC dX6_makePlan_125 rfl ?_
                      refine J_iadd hC dX6_makePlan_127 ?_
                      refine J_topI (nI_900 i (pT π + w)) ?_
                      refine J_iald hC (hsT.k 22 rfl) rfl (inN (hsT.n 22 rfl) (vp_in_nI (show 900 * i + (pT π + w) < 18000 by omega) (by decide))) dX6_makePlan_128 ?_
                      refine J_topI (show _ = thV σ i (nI (pT π + w)) by rw [nI_clamp (by omega)]; exact (hmT i hlt2 _ hrr).1) ?_
                      refine J_bipush (v := 10) hC dX6_makePlan_129 (by decide) ?_
                      refine J_idiv hC dX6_makePlan_131 (by decide) ?_
                      refine J_iadd hC dX6_makePlan_132 ?_
                      refine J_iload 0 hC dX6_makePlan_133 rfl ?_
                      refine J_iload_n 4 hC dX6_makePlan_135 rfl rfl ?_
                      refine J_isub hC dX6_makePlan_136 ?_
                      refine J_topI (show nI (pT π + w) - nI (pT π) = wtV σ (pF π) i by rw [we, nI_sub (by omega) (by omega)]; congr 1; omega) ?_
                      refine J_isub hC dX6_makePlan_137 ?_
                      refine J_topI hme.symm ?_
                      refine J_istore (lv' := [(8, _), (7, _), (6, _), (5, _), (4, _), (3, _), (2, _), (1, _), (0, _)]) hC dX6_makePlan_138 (by decide) rfl ?_
                      refine J_iload 4 hC dX6_makePlan_140 rfl ?_
                      refine J_iconst (v := (-1)) hC dX6_makePlan_142 (by decide) ?_
                      refine J_icmp_eq 156 hC dX6_makePlan_143 (by decide) (fun c143 => ?_) (fun c143 => ?_)
                      · refine J_iload 2 hC dX6_makePlan_156 rfl ?_
                        refine J_istore (lv' := [(4, _), (8, _), (7, _), (6, _), (5, _), (3, _), (2, _), (1, _), (0, _)]) hC dX6_makePlan_158 (by decide) rfl ?_
                        refine J_iload 1 hC dX6_makePlan_160 rfl ?_
                        refine J_istore (lv' := [(5, _), (4, _), (8, _), (7, _), (6, _), (3, _), (2, _), (1, _), (0, _)]) hC dX6_makePlan_162 (by decide) rfl ?_
                        have hmo : (bsV σ (nI (pT π)) (pF π) (pU π) i).2 < meV σ (nI (pT π)) (pF π) (pU π) i := by rw [bs_none (fI_none n20 (fun g e9 => by have := bs_lt1 e9; omega) c143)]; exact hgt
                        rw [bs_more hmo] at cont
                        exact J_re [4, 0, 1, 5, 6, 7, 8] rfl cont
                      · refine J_iload 0 hC dX6_makePlan_146 rfl ?_
                        refine J_iload 3 hC dX6_makePlan_148 rfl ?_
                        refine J_icmp_gt 156 hC dX6_makePlan_150 (by decide) (fun c150 => ?_) (fun c150 => ?_)
                        · refine J_iload 2 hC dX6_makePlan_156 rfl ?_
                          refine J_istore (lv' := [(4, _), (8, _), (7, _), (6, _), (5, _), (3, _), (2, _), (1, _), (0, _)]) hC dX6_makePlan_158 (by decide) rfl ?_
                          refine J_iload 1 hC dX6_makePlan_160 rfl ?_
                          refine J_istore (lv' := [(5, _), (4, _), (8, _), (7, _), (6, _), (3, _), (2, _), (1, _), (0, _)]) hC dX6_makePlan_162 (by decide) rfl ?_
                          have hmo : (bsV σ (nI (pT π)) (pF π) (pU π) i).2 < meV σ (nI (pT π)) (pF π) (pU π) i := by
                            cases e9 : (bsV σ (nI (pT π)) (pF π) (pU π) i).1 with
                            | none => rw [e9] at c143; exact (c143 rfl).elim
                            | some g => have h9 := c150; unfold moV at h9; rw [e9] at h9; exact h9
                          rw [bs_more hmo] at cont
                          exact J_re [4, 0, 1, 5, 6, 7, 8] rfl cont
                        · refine J_goto 164 hC dX6_makePlan_153 (by decide) ?_
                          have hle : meV σ (nI (pT π)) (pF π) (pU π) i ≤ (bsV σ (nI (pT π)) (pF π) (pU π) i).2 := by
                            have h9 := Int32.not_lt.mp c150
                            cases e9 : (bsV σ (nI (pT π)) (pF π) (pU π) i).1 with
                            | none => rw [e9] at c143; exact (c143 rfl).elim
                            | some g => unfold moV at h9; rw [e9] at h9; exact h9
                          rw [bs_less hle] at cont
                          exact J_re [2, 3, 4, 5, 6, 7, 8] rfl cont
                    · refine J_goto 164 hC dX6_makePlan_102 (by decide) ?_
                      rw [bs_skip (me_l (by rw [er]; exact (la_eq (show pT π + w < 900 by omega)).mpr (Int32.not_le.mp c99)))] at cont
                      exact J_re [1, 2, 3, 4, 5, 6, 7] rfl cont
                · refine J_goto 164 hC dX6_makePlan_56 (by decide) ?_
                  rw [bs_skip (me_o c53)] at cont
                  exact J_re [0, 1, 2, 3, 4, 5, 6] rfl cont
        exact J_re [0, 1, 2, 3, 4, 5, 6] rfl (in1 (vn σ + 1) 0 (by omega) (by omega))
  refine J_aload_n 0 hC dX6_makePlan_0 rfl rfl ?_
  refine J_iconst (v := 0) hC dX6_makePlan_1 (by decide) ?_
  refine fp_X6_133 hC hs.ky dX6_makePlan_2 ?_
  refine J_bipush (v := 20) hC dX6_makePlan_5 (by decide) ?_
  refine J_newZ (lab := 16) (N := 20) hC rfl (mG 850 (by decide +kernel) rfl) (by decide) (by decide) (by decide) (Nat.le_of_ble_eq_true rfl) (Nat.le_of_ble_eq_true rfl) dX6_makePlan_7 (fun q fq => ?_)
  refine J_astore_n (lv' := [(1, _), (0, _)]) hC dX6_makePlan_9 rfl (by decide) rfl ?_
  refine J_iconst (v := (-1)) hC dX6_makePlan_10 (by decide) ?_
  refine J_istore_n (lv' := [(2, _), (1, _), (0, _)]) hC dX6_makePlan_11 rfl (by decide) rfl ?_
  refine J_iconst (v := 0) hC dX6_makePlan_12 (by decide) ?_
  refine J_istore_n (lv' := [(3, _), (2, _), (1, _), (0, _)]) hC dX6_makePlan_13 rfl (by decide) rfl ?_
  have fq' : hK S q = 0 := fq
  have c0 : ∀ n, ctU (pU π0) n = 0 := fun n => by
    induction n with
    | zero => rfl
    | succ n ih => unfold ctU; rw [ih, if_neg (show ¬ pU π0 n = true from Bool.false_ne_true)]
  have p0 : pS σ π0 = 0 := c0 _
  have hy0 : hK S y ≠ 0 := by rw [hs.ky]; decide
  have hb0 : hK S (B 25) ≠ 0 := by rw [hs.k 25 rfl]; decide
  have f9 : mF y (B 25) S (sNew (sI S 24 y 0) q 16 20) := mF.ofE (T := sI S 24 y 0) mF.rfl.sI hy0 hb0 (ext.rfl.new fq)
  have hyq : y ≠ q := nqz fq' hs.ky (by decide)
  refine J_wd (cs' := 1 + pS σ π0) (ss' := 20 + 4 * pS σ π0) (by omega) (by omega) ?_
  refine J_re [0, 1, 2, 3] rfl (loop q fq' (lnV σ + 1) π0 _ (by show lnV σ - 0 < lnV σ + 1; omega) ⟨f9, ⟨if_pos rfl, if_pos rfl, fun k hk => if_pos rfl⟩, ?_, fun i hi => absurd hi (by omega), fun g e => (by cases e), show 0 ≤ 1100 by omega⟩ rfl)
  rw [p0]
  exact (if_neg hyq).trans (hI_same _ _ _ _)
