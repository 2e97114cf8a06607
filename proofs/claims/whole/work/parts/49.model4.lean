/-! windowOf: printed by wip/whole/model4.py -/
set_option maxHeartbeats 4000000 in
set_option maxRecDepth 100000 in
/-- workOut where all is worked out -/
theorem c_workOut_w {G : JG} (S : HS) (y : Nat) (h0 : hK S y = 17) (hw : hI S 21 y = 1) : Ct G yX6_workOut cX6_workOut 4 none 7 280 0 0 [.ref y] S (rV (fun S' => S' = S)) noX := by
  refine Ct.of (by decide) (Nat.le_of_ble_eq_true rfl) (fun X hC hT hin => ?_)
  refine J_aload_n 0 hC dX6_workOut_0 rfl rfl ?_
  refine fg_X6_123 hC h0 dX6_workOut_1 ?_
  refine J_topI hw ?_
  refine J_if_eq 8 hC dX6_workOut_4 (by decide) (fun c4 => absurd c4 (by decide)) (fun c4 => ?_)
  exact J_vretI hC dX6_workOut_7 (Nat.le_of_ble_eq_true rfl) (Nat.le_of_ble_eq_true rfl) rfl

theorem rnA_le9 {σ : Sg} (hr : Rng σ) (k t : Nat) : rnA σ k t ≤ 900 := by
  have := hr.ln
  unfold rnA
  split
  · have := rnD_le σ k (lnV σ) (lnV σ - t); omega
  · omega

set_option maxHeartbeats 4000000 in
set_option maxRecDepth 100000 in
/-- windowOf -/
theorem c_windowOf_w {G : JG} (S : HS) (y : Nat) (B : Nat → Nat) (σ : Sg) (h : MI y B σ S) (k : Nat) (hk : k < vn σ) (j : Nat) (hj : j < 5) (hw1 : hI S 21 y = 1) (hw2 : MW y B σ S) : Ct G yX6_windowOf cX6_windowOf 10 (some .int) 8 320 0 0 [.ref y, .int (nI k), .int (nI j)] S (rI (fun r S' => r = wnV σ k j ∧ S' = S)) noX := by
  refine Ct.of (by decide) (Nat.le_of_ble_eq_true rfl) (fun X hC hT hin => ?_)
  have hr := h.2.2.1
  have hln := hr.ln
  have n20 : vn σ ≤ 20 := hr.2.2.2.2.2.2.2.1
  have loop : ∀ (T : HS), T = S → ∀ (n t : Nat) (v4 v5 v6 v7 v8 : Int32), lnV σ - t < n → t ≤ lnV σ → wI σ k t v4 v5 v6 v7 v8 → J X G (QQ X G (rI (fun r S' => r = wnV σ k j ∧ S' = S)) noX 0 0) 10 0 0 28 [(9, .int (nI t)), (8, .int v8), (7, .int v7), (6, .int v6), (5, .int v5), (4, .int v4), (3, .int (nI (900 * k))), (0, .ref y), (1, .int (nI k)), (2, .int (nI j))] [] T := by
    intro T hTT n
    have hw2 : MW y B σ T := by rw [hTT]; exact hw2
    have hsT : MShp y B T := by rw [hTT]; exact h.1
    have hvT : MVl y B σ T := by rw [hTT]; exact h.2.1
    induction n with
    | zero => intro t v4 v5 v6 v7 v8 h; omega
    | succ n ih =>
      intro t v4 v5 v6 v7 v8 hn ht hI0
      refine J_iload 0 hC dX6_windowOf_28 rfl ?_
      refine J_aload_n 7 hC dX6_windowOf_30 rfl rfl ?_
      refine fg_X6_7 hC hsT.ky dX6_windowOf_31 ?_
      refine J_topI (hvT.1.2.1.trans hln.1) ?_
      refine J_icmp_ge 133 hC dX6_windowOf_34 (by decide) (fun c34 => ?_) (fun c34 => ?_)
      · have e1 : t = lnV σ := Nat.le_antisymm ht (Nat.not_lt.mp (fun q => absurd c34 (nI_ge q (by omega))))
        rw [e1] at hI0
        obtain ⟨z4, z5, z6, z7, z8⟩ := wI_end hr hk hI0
        rcases (show j = 0 ∨ j = 1 ∨ j = 2 ∨ j = 3 ∨ j = 4 by omega) with rfl | rfl | rfl | rfl | rfl
        · refine J_iload_n 9 hC dX6_windowOf_133 rfl rfl ?_
          refine J_if_ne 142 hC dX6_windowOf_134 (by decide) (fun c134 => absurd c134 (by decide)) (fun c134 => ?_)
          refine J_iload 5 hC dX6_windowOf_137 rfl ?_
          refine J_goto 174 hC dX6_windowOf_139 (by decide) ?_
          exact J_iretI hC dX6_windowOf_174 (Nat.le_of_ble_eq_true rfl) (Nat.le_of_ble_eq_true rfl) ⟨z4, hTT⟩
        · refine J_iload_n 9 hC dX6_windowOf_133 rfl rfl ?_
          refine J_if_ne 142 hC dX6_windowOf_134 (by decide) (fun c134 => ?_) (fun c134 => absurd c134 (by decide))
          refine J_iload_n 9 hC dX6_windowOf_142 rfl rfl ?_
          refine J_iconst (v := 1) hC dX6_windowOf_143 (by decide) ?_
          refine J_icmp_ne 152 hC dX6_windowOf_144 (by decide) (fun c144 => absurd c144 (by decide)) (fun c144 => ?_)
          refine J_iload 4 hC dX6_windowOf_147 rfl ?_
          refine J_goto 174 hC dX6_windowOf_149 (by decide) ?_
          exact J_iretI hC dX6_windowOf_174 (Nat.le_of_ble_eq_true rfl) (Nat.le_of_ble_eq_true rfl) ⟨z5, hTT⟩
        · refine J_iload_n 9 hC dX6_windowOf_133 rfl rfl ?_
          refine J_if_ne 142 hC dX6_windowOf_134 (by decide) (fun c134 => ?_) (fun c134 => absurd c134 (by decide))
          refine J_iload_n 9 hC dX6_windowOf_142 rfl rfl ?_
          refine J_iconst (v := 1) hC dX6_windowOf_143 (by decide) ?_
          refine J_icmp_ne 152 hC dX6_windowOf_144 (by decide) (fun c144 => ?_) (fun c144 => absurd c144 (by decide))
          refine J_iload_n 9 hC dX6_windowOf_152 rfl rfl ?_
          refine J_iconst (v := 2) hC dX6_windowOf_153 (by decide) ?_
          refine J_icmp_ne 162 hC dX6_windowOf_154 (by decide) (fun c154 => absurd c154 (by decide)) (fun c154 => ?_)
          refine J_iload 3 hC dX6_windowOf_157 rfl ?_
          refine J_goto 174 hC dX6_windowOf_159 (by decide) ?_
          exact J_iretI hC dX6_windowOf_174 (Nat.le_of_ble_eq_true rfl) (Nat.le_of_ble_eq_true rfl) ⟨z6, hTT⟩
        · refine J_iload_n 9 hC dX6_windowOf_133 rfl rfl ?_
          refine J_if_ne 142 hC dX6_windowOf_134 (by decide) (fun c134 => ?_) (fun c134 => absurd c134 (by decide))
          refine J_iload_n 9 hC dX6_windowOf_142 rfl rfl ?_
          refine J_iconst (v := 1) hC dX6_windowOf_143 (by decide) ?_
          refine J_icmp_ne 152 hC dX6_windowOf_144 (by decide) (fun c144 => ?_) (fun c144 => absurd c144 (by decide))
          refine J_iload_n 9 hC dX6_windowOf_152 rfl rfl ?_
          refine J_iconst (v := 2) hC dX6_windowOf_153 (by decide) ?_
          refine J_icmp_ne 162 hC dX6_windowOf_154 (by decide) (fun c154 => ?_) (fun c154 => absurd c154 (by decide))
          refine J_iload_n 9 hC dX6_windowOf_162 rfl rfl ?_
          refine J_iconst (v := 3) hC dX6_windowOf_163 (by decide) ?_
          refine J_icmp_ne 172 hC dX6_windowOf_164 (by decide) (fun c164 => absurd c164 (by decide)) (fun c164 => ?_)
          refine J_iload 2 hC dX6_windowOf_167 rfl ?_
          refine J_goto 174 hC dX6_windowOf_169 (by decide) ?_
          exact J_iretI hC dX6_windowOf_174 (Nat.le_of_ble_eq_true rfl) (Nat.le_of_ble_eq_true rfl) ⟨z7, hTT⟩
        · refine J_iload_n 9 hC dX6_windowOf_133 rfl rfl ?_
          refine J_if_ne 142 hC dX6_windowOf_134 (by decide) (fun c134 => ?_) (fun c134 => absurd c134 (by decide))
          refine J_iload_n 9 hC dX6_windowOf_142 rfl rfl ?_
          refine J_iconst (v := 1) hC dX6_windowOf_143 (by decide) ?_
          refine J_icmp_ne 152 hC dX6_windowOf_144 (by decide) (fun c144 => ?_) (fun c144 => absurd c144 (by decide))
          refine J_iload_n 9 hC dX6_windowOf_152 rfl rfl ?_
          refine J_iconst (v := 2) hC dX6_windowOf_153 (by decide) ?_
          refine J_icmp_ne 162 hC dX6_windowOf_154 (by decide) (fun c154 => ?_) (fun c154 => absurd c154 (by decide))
          refine J_iload_n 9 hC dX6_windowOf_162 rfl rfl ?_
          refine J_iconst (v := 3) hC dX6_windowOf_163 (by decide) ?_
          refine J_icmp_ne 172 hC dX6_windowOf_164 (by decide) (fun c164 => ?_) (fun c164 => absurd c164 (by decide))
          refine J_iload 1 hC dX6_windowOf_172 rfl ?_
          exact J_iretI hC dX6_windowOf_174 (Nat.le_of_ble_eq_true rfl) (Nat.le_of_ble_eq_true rfl) ⟨z8, hTT⟩
      · have hlt : t < lnV σ := Nat.not_le.mp (fun q => c34 (nI_le q (by omega)))
        obtain ⟨s, hs0, hs7⟩ := wI_h hI0 (show t < 900 by omega)
        have hs9 : s < lnV σ := by omega
        obtain ⟨i4, i5, i6, i7, i8⟩ := hI0
        have v22 := hw2.1 k hk t hlt
        have v22s := hw2.1 k hk s hs9
        have c127 : ∀ (w4 w5 w6 w7 w8 : Int32), wI σ k (t + 1) w4 w5 w6 w7 w8 → J X G (QQ X G (rI (fun r S' => r = wnV σ k j ∧ S' = S)) noX 0 0) 10 0 0 127 [(9, .int (nI t)), (8, .int w8), (7, .int w7), (6, .int w6), (5, .int w5), (4, .int w4), (3, .int (nI (900 * k))), (0, .ref y), (1, .int (nI k)), (2, .int (nI j))] [] T := by
          intro w4 w5 w6 w7 w8 hI1
          refine J_iinc (lv' := [(9, _), (8, _), (7, _), (6, _), (5, _), (4, _), (3, _), (0, _), (1, _), (2, _)]) 0 hC dX6_windowOf_127 rfl (nI_1 t) (by decide) rfl ?_
          refine J_goto 28 hC dX6_windowOf_130 (by decide) ?_
          exact J_re [0, 1, 2, 3, 4, 5, 6, 7, 8, 9] rfl (ih (t + 1) w4 w5 w6 w7 w8 (by omega) (by omega) hI1)
        have c90 : ∀ (w7 w8 : Int32), isHi (fun t => thV σ k (nI t)) 0 (t + 1) w7 → isFst (wQ σ k) 0 (t + 1) w8 → J X G (QQ X G (rI (fun r S' => r = wnV σ k j ∧ S' = S)) noX 0 0) 10 0 0 90 [(9, .int (nI t)), (8, .int w8), (7, .int w7), (6, .int v6), (5, .int v5), (4, .int v4), (3, .int (nI (900 * k))), (0, .ref y), (1, .int (nI k)), (2, .int (nI j))] [] T := by
          intro w7 w8 hw7 hw8
          refine J_aload_n 7 hC dX6_windowOf_90 rfl rfl ?_
          refine fg_X6_54 hC hsT.ky (hsT.p 23 rfl) dX6_windowOf_91 ?_
          refine J_iload_n 6 hC dX6_windowOf_94 rfl rfl ?_
          refine J_iload 0 hC dX6_windowOf_95 rfl ?_
          refine J_iadd hC dX6_windowOf_97 ?_
          refine J_topI (nI_add (900 * k) t) ?_
          refine J_iald hC (hsT.k 23 rfl) rfl (inN (hsT.n 23 rfl) (vp_in_nI (show 900 * k + t < 18000 by omega) (by decide))) dX6_windowOf_98 ?_
          refine J_topI (show _ = nI (rnA σ k t) by rw [nI_clamp (by omega)]; exact v22.2) ?_
          refine J_if_ne 105 hC dX6_windowOf_99 (by decide) (fun c99 => ?_) (fun c99 => ?_)
          · refine J_iload 5 hC dX6_windowOf_105 rfl ?_
            refine J_iconst (v := (-1)) hC dX6_windowOf_107 (by decide) ?_
            refine J_icmp_ne 116 hC dX6_windowOf_108 (by decide) (fun c108 => ?_) (fun c108 => ?_)
            · refine J_iload 5 hC dX6_windowOf_116 rfl ?_
              refine J_istore (lv' := [(4, _), (9, _), (8, _), (7, _), (6, _), (5, _), (3, _), (0, _), (1, _), (2, _)]) hC dX6_windowOf_118 (by decide) rfl ?_
              refine J_iload 1 hC dX6_windowOf_120 rfl ?_
              refine J_istore (lv' := [(5, _), (4, _), (9, _), (8, _), (7, _), (6, _), (3, _), (0, _), (1, _), (2, _)]) hC dX6_windowOf_122 (by decide) rfl ?_
              refine J_iinc (lv' := [(6, _), (5, _), (4, _), (9, _), (8, _), (7, _), (3, _), (0, _), (1, _), (2, _)]) 5 hC dX6_windowOf_124 rfl rfl (by decide) rfl ?_
              have c' : 0 < rnA σ k t := Nat.pos_of_ne_zero (fun z => c99 (by rw [z]; rfl))
              have e6 : v6 + 1 = nI (cnF σ k (t + 1)) := by rw [i6, nI_1]; show _ = nI (cnF σ k t + if 0 < rnA σ k t then 1 else 0); rw [if_pos c']
              refine J_re [3, 4, 5, 0, 1, 2, 6, 7, 8, 9] rfl (c127 v4 (nI t) _ w7 w8 ⟨isFst_ext i4 (Or.inr c108), isLst_new c', e6, Or.inr hw7, hw8⟩)
            · refine J_iload 0 hC dX6_windowOf_111 rfl ?_
              refine J_goto 118 hC dX6_windowOf_113 (by decide) ?_
              refine J_istore (lv' := [(4, _), (9, _), (8, _), (7, _), (6, _), (5, _), (3, _), (0, _), (1, _), (2, _)]) hC dX6_windowOf_118 (by decide) rfl ?_
              refine J_iload 1 hC dX6_windowOf_120 rfl ?_
              refine J_istore (lv' := [(5, _), (4, _), (9, _), (8, _), (7, _), (6, _), (3, _), (0, _), (1, _), (2, _)]) hC dX6_windowOf_122 (by decide) rfl ?_
              refine J_iinc (lv' := [(6, _), (5, _), (4, _), (9, _), (8, _), (7, _), (3, _), (0, _), (1, _), (2, _)]) 5 hC dX6_windowOf_124 rfl rfl (by decide) rfl ?_
              have c' : 0 < rnA σ k t := Nat.pos_of_ne_zero (fun z => c99 (by rw [z]; rfl))
              have e6 : v6 + 1 = nI (cnF σ k (t + 1)) := by rw [i6, nI_1]; show _ = nI (cnF σ k t + if 0 < rnA σ k t then 1 else 0); rw [if_pos c']
              refine J_re [3, 4, 5, 0, 1, 2, 6, 7, 8, 9] rfl (c127 (nI t) (nI t) _ w7 w8 ⟨isFst_new (by omega) i4 c' c108, isLst_new c', e6, Or.inr hw7, hw8⟩)
          · refine J_goto 127 hC dX6_windowOf_102 (by decide) ?_
            have c' : rnA σ k t = 0 := nI_inj (Nat.lt_of_le_of_lt (rnA_le9 hr k t) (by decide)) (by decide) c99
            exact J_re [0, 1, 2, 3, 4, 5, 6, 7, 8, 9] rfl (c127 v4 v5 v6 w7 w8 ⟨isFst_ext i4 (Or.inl (by unfold wP; omega)), isLst_ext i5 (by unfold wP; omega), by rw [i6]; show nI (cnF σ k t) = nI (cnF σ k t + if 0 < rnA σ k t then 1 else 0); rw [if_neg (by omega), Nat.add_zero], Or.inr hw7, hw8⟩)
        have c62 : ∀ (w7 : Int32), isHi (fun t => thV σ k (nI t)) 0 (t + 1) w7 → J X G (QQ X G (rI (fun r S' => r = wnV σ k j ∧ S' = S)) noX 0 0) 10 0 0 62 [(9, .int (nI t)), (8, .int v8), (7, .int w7), (6, .int v6), (5, .int v5), (4, .int v4), (3, .int (nI (900 * k))), (0, .ref y), (1, .int (nI k)), (2, .int (nI j))] [] T := by
          intro w7 hw7
          refine J_aload_n 7 hC dX6_windowOf_62 rfl rfl ?_
          refine fg_X6_54 hC hsT.ky (hsT.p 23 rfl) dX6_windowOf_63 ?_
          refine J_iload_n 6 hC dX6_windowOf_66 rfl rfl ?_
          refine J_iload 0 hC dX6_windowOf_67 rfl ?_
          refine J_iadd hC dX6_windowOf_69 ?_
          refine J_topI (nI_add (900 * k) t) ?_
          refine J_iald hC (hsT.k 23 rfl) rfl (inN (hsT.n 23 rfl) (vp_in_nI (show 900 * k + t < 18000 by omega) (by decide))) dX6_windowOf_70 ?_
          refine J_topI (show _ = nI (rnA σ k t) by rw [nI_clamp (by omega)]; exact v22.2) ?_
          refine J_aload_n 7 hC dX6_windowOf_71 rfl rfl ?_
          refine fg_X6_36 hC hsT.ky (hsT.p 16 rfl) dX6_windowOf_72 ?_
          refine J_iload_n 8 hC dX6_windowOf_75 rfl rfl ?_
          refine J_iald hC (hsT.k 16 rfl) rfl (inN (hsT.n 16 rfl) (vp_in_nI (show k < 20 by have := hr.2.2.2.2.2.2.2.1; omega) (by decide))) dX6_windowOf_76 ?_
          refine J_topI (show _ = vt σ k 5 by rw [nI_clamp (show k < 2147483648 by have := hr.2.2.2.2.2.2.2.1; omega)]; exact hvT.t hk (show 5 < 10 by decide)) ?_
          refine J_icmp_lt 90 hC dX6_windowOf_77 (by decide) (fun c77 => ?_) (fun c77 => ?_)
          · exact J_re [0, 1, 2, 3, 4, 5, 6, 7, 8, 9] rfl (c90 w7 v8 hw7 (isFst_ext i8 (Or.inl (fun z => absurd z (Int32.not_le.mpr c77)))))
          · refine J_iload 1 hC dX6_windowOf_80 rfl ?_
            refine J_iconst (v := (-1)) hC dX6_windowOf_82 (by decide) ?_
            refine J_icmp_ne 90 hC dX6_windowOf_83 (by decide) (fun c83 => ?_) (fun c83 => ?_)
            · exact J_re [0, 1, 2, 3, 4, 5, 6, 7, 8, 9] rfl (c90 w7 v8 hw7 (isFst_ext i8 (Or.inr c83)))
            · refine J_iload 0 hC dX6_windowOf_86 rfl ?_
              refine J_istore (lv' := [(8, _), (9, _), (7, _), (6, _), (5, _), (4, _), (3, _), (0, _), (1, _), (2, _)]) hC dX6_windowOf_88 (by decide) rfl ?_
              exact J_re [1, 0, 2, 3, 4, 5, 6, 7, 8, 9] rfl (c90 w7 (nI t) hw7 (isFst_new (by omega) i8 (Int32.not_lt.mp c77) c83))
        refine J_aload_n 7 hC dX6_windowOf_37 rfl rfl ?_
        refine fg_X6_51 hC hsT.ky (hsT.p 22 rfl) dX6_windowOf_38 ?_
        refine J_iload_n 6 hC dX6_windowOf_41 rfl rfl ?_
        refine J_iload 0 hC dX6_windowOf_42 rfl ?_
        refine J_iadd hC dX6_windowOf_44 ?_
        refine J_topI (nI_add (900 * k) t) ?_
        refine J_iald hC (hsT.k 22 rfl) rfl (inN (hsT.n 22 rfl) (vp_in_nI (show 900 * k + t < 18000 by omega) (by decide))) dX6_windowOf_45 ?_
        refine J_topI (show _ = thV σ k (nI t) by rw [nI_clamp (by omega)]; exact v22.1) ?_
        refine J_aload_n 7 hC dX6_windowOf_46 rfl rfl ?_
        refine fg_X6_51 hC hsT.ky (hsT.p 22 rfl) dX6_windowOf_47 ?_
        refine J_iload_n 6 hC dX6_windowOf_50 rfl rfl ?_
        refine J_iload 2 hC dX6_windowOf_51 rfl ?_
        refine J_topI hs7 ?_
        refine J_iadd hC dX6_windowOf_53 ?_
        refine J_topI (nI_add (900 * k) s) ?_
        refine J_iald hC (hsT.k 22 rfl) rfl (inN (hsT.n 22 rfl) (vp_in_nI (show 900 * k + s < 18000 by omega) (by decide))) dX6_windowOf_54 ?_
        refine J_topI (show _ = thV σ k (nI s) by rw [nI_clamp (by omega)]; exact v22s.1) ?_
        refine J_icmp_le 62 hC dX6_windowOf_55 (by decide) (fun c55 => ?_) (fun c55 => ?_)
        · exact J_re [0, 1, 2, 3, 4, 5, 6, 7, 8, 9] rfl (c62 v7 (isHi_keep i7 hs7 (by omega) (by omega) (Int32.not_lt.mpr c55)))
        · refine J_iload 0 hC dX6_windowOf_58 rfl ?_
          refine J_istore (lv' := [(7, _), (9, _), (8, _), (6, _), (5, _), (4, _), (3, _), (0, _), (1, _), (2, _)]) hC dX6_windowOf_60 (by decide) rfl ?_
          exact J_re [1, 2, 0, 3, 4, 5, 6, 7, 8, 9] rfl (c62 (nI t) (isHi_new i7 hs7 (by omega) (by omega) (Int32.not_le.mp c55)))
  refine J_aload_n 0 hC dX6_windowOf_0 rfl rfl ?_
  refine cl_X6_168 hC (c_workOut_w S y h.1.ky hw1) h.1.ky (Nat.le_of_ble_eq_true rfl) ⟨⟨Nat.le_of_ble_eq_true rfl, Nat.le_of_ble_eq_true rfl⟩, Nat.le_of_ble_eq_true rfl, Nat.le_of_ble_eq_true rfl⟩ dX6_windowOf_1 (fun S1 e1 => ?_)
  subst S1
  refine J_sipush (v := 900) hC dX6_windowOf_4 (by decide) ?_
  refine J_iload_n 1 hC dX6_windowOf_7 rfl rfl ?_
  refine J_imul hC dX6_windowOf_8 ?_
  refine J_topI (show (900 : Int32) * nI k = nI (900 * k) from nI_mul 900 k) ?_
  refine J_istore_n (lv' := [(3, _), (0, _), (1, _), (2, _)]) hC dX6_windowOf_9 rfl (by decide) rfl ?_
  refine J_iconst (v := (-1)) hC dX6_windowOf_10 (by decide) ?_
  refine J_istore (lv' := [(4, _), (3, _), (0, _), (1, _), (2, _)]) hC dX6_windowOf_11 (by decide) rfl ?_
  refine J_iconst (v := (-1)) hC dX6_windowOf_13 (by decide) ?_
  refine J_istore (lv' := [(5, _), (4, _), (3, _), (0, _), (1, _), (2, _)]) hC dX6_windowOf_14 (by decide) rfl ?_
  refine J_iconst (v := 0) hC dX6_windowOf_16 (by decide) ?_
  refine J_istore (lv' := [(6, _), (5, _), (4, _), (3, _), (0, _), (1, _), (2, _)]) hC dX6_windowOf_17 (by decide) rfl ?_
  refine J_iconst (v := 0) hC dX6_windowOf_19 (by decide) ?_
  refine J_istore (lv' := [(7, _), (6, _), (5, _), (4, _), (3, _), (0, _), (1, _), (2, _)]) hC dX6_windowOf_20 (by decide) rfl ?_
  refine J_iconst (v := (-1)) hC dX6_windowOf_22 (by decide) ?_
  refine J_istore (lv' := [(8, _), (7, _), (6, _), (5, _), (4, _), (3, _), (0, _), (1, _), (2, _)]) hC dX6_windowOf_23 (by decide) rfl ?_
  refine J_iconst (v := 0) hC dX6_windowOf_25 (by decide) ?_
  refine J_istore (lv' := [(9, _), (8, _), (7, _), (6, _), (5, _), (4, _), (3, _), (0, _), (1, _), (2, _)]) hC dX6_windowOf_26 (by decide) rfl ?_
  exact J_re [0, 1, 2, 3, 4, 5, 6, 7, 8, 9] rfl (loop _ rfl (lnV σ + 1) 0 (-1) (-1) 0 0 (-1) (by omega) (by omega) (wI_0 σ k))

set_option maxHeartbeats 4000000 in
set_option maxRecDepth 100000 in
/-- windowOf -/
theorem c_windowOf {G : JG} (S : HS) (y : Nat) (B : Nat → Nat) (σ : Sg) (h : MI y B σ S) (k : Nat) (hk : k < vn σ) (j : Nat) (hj : j < 5) : Ct G yX6_windowOf cX6_windowOf 10 (some .int) 8 320 21 100 [.ref y, .int (nI k), .int (nI j)] S (rI (fun r S' => r = wnV σ k j ∧ MI y B σ S' ∧ FrM S S' ∧ hI S' 0 y = hI S 0 y)) noX := by
  refine Ct.of (by decide) (Nat.le_of_ble_eq_true rfl) (fun X hC hT hin => ?_)
  have hr := h.2.2.1
  have hln := hr.ln
  have n20 : vn σ ≤ 20 := hr.2.2.2.2.2.2.2.1
  have loop : ∀ (T : HS), MI y B σ T ∧ FrM S T ∧ hI T 0 y = hI S 0 y ∧ MW y B σ T → ∀ (n t : Nat) (v4 v5 v6 v7 v8 : Int32), lnV σ - t < n → t ≤ lnV σ → wI σ k t v4 v5 v6 v7 v8 → J X G (QQ X G (rI (fun r S' => r = wnV σ k j ∧ MI y B σ S' ∧ FrM S S' ∧ hI S' 0 y = hI S 0 y)) noX 21 100) 10 21 100 28 [(9, .int (nI t)), (8, .int v8), (7, .int v7), (6, .int v6), (5, .int v5), (4, .int v4), (3, .int (nI (900 * k))), (0, .ref y), (1, .int (nI k)), (2, .int (nI j))] [] T := by
    intro T hTT n
    obtain ⟨hMI, hFr, h00, hw2⟩ := hTT
    have hsT : MShp y B T := hMI.1
    have hvT : MVl y B σ T := hMI.2.1
    induction n with
    | zero => intro t v4 v5 v6 v7 v8 h; omega
    | succ n ih =>
      intro t v4 v5 v6 v7 v8 hn ht hI0
      refine J_iload 0 hC dX6_windowOf_28 rfl ?_
      refine J_aload_n 7 hC dX6_windowOf_30 rfl rfl ?_
      refine fg_X6_7 hC hsT.ky dX6_windowOf_31 ?_
      refine J_topI (hvT.1.2.1.trans hln.1) ?_
      refine J_icmp_ge 133 hC dX6_windowOf_34 (by decide) (fun c34 => ?_) (fun c34 => ?_)
      · have e1 : t = lnV σ := Nat.le_antisymm ht (Nat.not_lt.mp (fun q => absurd c34 (nI_ge q (by omega))))
        rw [e1] at hI0
        obtain ⟨z4, z5, z6, z7, z8⟩ := wI_end hr hk hI0
        rcases (show j = 0 ∨ j = 1 ∨ j = 2 ∨ j = 3 ∨ j = 4 by omega) with rfl | rfl | rfl | rfl | rfl
        · refine J_iload_n 9 hC dX6_windowOf_133 rfl rfl ?_
          refine J_if_ne 142 hC dX6_windowOf_134 (by decide) (fun c134 => absurd c134 (by decide)) (fun c134 => ?_)
          refine J_iload 5 hC dX6_windowOf_137 rfl ?_
          refine J_goto 174 hC dX6_windowOf_139 (by decide) ?_
          exact J_iretI hC dX6_windowOf_174 (Nat.le_of_ble_eq_true rfl) (Nat.le_of_ble_eq_true rfl) ⟨z4, hMI, hFr, h00⟩
        · refine J_iload_n 9 hC dX6_windowOf_133 rfl rfl ?_
          refine J_if_ne 142 hC dX6_windowOf_134 (by decide) (fun c134 => ?_) (fun c134 => absurd c134 (by decide))
          refine J_iload_n 9 hC dX6_windowOf_142 rfl rfl ?_
          refine J_iconst (v := 1) hC dX6_windowOf_143 (by decide) ?_
          refine J_icmp_ne 152 hC dX6_windowOf_144 (by decide) (fun c144 => absurd c144 (by decide)) (fun c144 => ?_)
          refine J_iload 4 hC dX6_windowOf_147 rfl ?_
          refine J_goto 174 hC dX6_windowOf_149 (by decide) ?_
          exact J_iretI hC dX6_windowOf_174 (Nat.le_of_ble_eq_true rfl) (Nat.le_of_ble_eq_true rfl) ⟨z5, hMI, hFr, h00⟩
        · refine J_iload_n 9 hC dX6_windowOf_133 rfl rfl ?_
          refine J_if_ne 142 hC dX6_windowOf_134 (by decide) (fun c134 => ?_) (fun c134 => absurd c134 (by decide))
          refine J_iload_n 9 hC dX6_windowOf_142 rfl rfl ?_
          refine J_iconst (v := 1) hC dX6_windowOf_143 (by decide) ?_
          refine J_icmp_ne 152 hC dX6_windowOf_144 (by decide) (fun c144 => ?_) (fun c144 => absurd c144 (by decide))
          refine J_iload_n 9 hC dX6_windowOf_152 rfl rfl ?_
          refine J_iconst (v := 2) hC dX6_windowOf_153 (by decide) ?_
          refine J_icmp_ne 162 hC dX6_windowOf_154 (by decide) (fun c154 => absurd c154 (by decide)) (fun c154 => ?_)
          refine J_iload 3 hC dX6_windowOf_157 rfl ?_
          refine J_goto 174 hC dX6_windowOf_159 (by decide) ?_
          exact J_iretI hC dX6_windowOf_174 (Nat.le_of_ble_eq_true rfl) (Nat.le_of_ble_eq_true rfl) ⟨z6, hMI, hFr, h00⟩
        · refine J_iload_n 9 hC dX6_windowOf_133 rfl rfl ?_
          refine J_if_ne 142 hC dX6_windowOf_134 (by decide) (fun c134 => ?_) (fun c134 => absurd c134 (by decide))
          refine J_iload_n 9 hC dX6_windowOf_142 rfl rfl ?_
          refine J_iconst (v := 1) hC dX6_windowOf_143 (by decide) ?_
          refine J_icmp_ne 152 hC dX6_windowOf_144 (by decide) (fun c144 => ?_) (fun c144 => absurd c144 (by decide))
          refine J_iload_n 9 hC dX6_windowOf_152 rfl rfl ?_
          refine J_iconst (v := 2) hC dX6_windowOf_153 (by decide) ?_
          refine J_icmp_ne 162 hC dX6_windowOf_154 (by decide) (fun c154 => ?_) (fun c154 => absurd c154 (by decide))
          refine J_iload_n 9 hC dX6_windowOf_162 rfl rfl ?_
          refine J_iconst (v := 3) hC dX6_windowOf_163 (by decide) ?_
          refine J_icmp_ne 172 hC dX6_windowOf_164 (by decide) (fun c164 => absurd c164 (by decide)) (fun c164 => ?_)
          refine J_iload 2 hC dX6_windowOf_167 rfl ?_
          refine J_goto 174 hC dX6_windowOf_169 (by decide) ?_
          exact J_iretI hC dX6_windowOf_174 (Nat.le_of_ble_eq_true rfl) (Nat.le_of_ble_eq_true rfl) ⟨z7, hMI, hFr, h00⟩
        · refine J_iload_n 9 hC dX6_windowOf_133 rfl rfl ?_
          refine J_if_ne 142 hC dX6_windowOf_134 (by decide) (fun c134 => ?_) (fun c134 => absurd c134 (by decide))
          refine J_iload_n 9 hC dX6_windowOf_142 rfl rfl ?_
          refine J_iconst (v := 1) hC dX6_windowOf_143 (by decide) ?_
          refine J_icmp_ne 152 hC dX6_windowOf_144 (by decide) (fun c144 => ?_) (fun c144 => absurd c144 (by decide))
          refine J_iload_n 9 hC dX6_windowOf_152 rfl rfl ?_
          refine J_iconst (v := 2) hC dX6_windowOf_153 (by decide) ?_
          refine J_icmp_ne 162 hC dX6_windowOf_154 (by decide) (fun c154 => ?_) (fun c154 => absurd c154 (by decide))
          refine J_iload_n 9 hC dX6_windowOf_162 rfl rfl ?_
          refine J_iconst (v := 3) hC dX6_windowOf_163 (by decide) ?_
          refine J_icmp_ne 172 hC dX6_windowOf_164 (by decide) (fun c164 => ?_) (fun c164 => absurd c164 (by decide))
          refine J_iload 1 hC dX6_windowOf_172 rfl ?_
          exact J_iretI hC dX6_windowOf_174 (Nat.le_of_ble_eq_true rfl) (Nat.le_of_ble_eq_true rfl) ⟨z8, hMI, hFr, h00⟩
      · have hlt : t < lnV σ := Nat.not_le.mp (fun q => c34 (nI_le q (by omega)))
        obtain ⟨s, hs0, hs7⟩ := wI_h hI0 (show t < 900 by omega)
        have hs9 : s < lnV σ := by omega
        obtain ⟨i4, i5, i6, i7, i8⟩ := hI0
        have v22 := hw2.1 k hk t hlt
        have v22s := hw2.1 k hk s hs9
        have c127 : ∀ (w4 w5 w6 w7 w8 : Int32), wI σ k (t + 1) w4 w5 w6 w7 w8 → J X G (QQ X G (rI (fun r S' => r = wnV σ k j ∧ MI y B σ S' ∧ FrM S S' ∧ hI S' 0 y = hI S 0 y)) noX 21 100) 10 21 100 127 [(9, .int (nI t)), (8, .int w8), (7, .int w7), (6, .int w6), (5, .int w5), (4, .int w4), (3, .int (nI (900 * k))), (0, .ref y), (1, .int (nI k)), (2, .int (nI j))] [] T := by
          intro w4 w5 w6 w7 w8 hI1
          refine J_iinc (lv' := [(9, _), (8, _), (7, _), (6, _), (5, _), (4, _), (3, _), (0, _), (1, _), (2, _)]) 0 hC dX6_windowOf_127 rfl (nI_1 t) (by decide) rfl ?_
          refine J_goto 28 hC dX6_windowOf_130 (by decide) ?_
          exact J_re [0, 1, 2, 3, 4, 5, 6, 7, 8, 9] rfl (ih (t + 1) w4 w5 w6 w7 w8 (by omega) (by omega) hI1)
        have c90 : ∀ (w7 w8 : Int32), isHi (fun t => thV σ k (nI t)) 0 (t + 1) w7 → isFst (wQ σ k) 0 (t + 1) w8 → J X G (QQ X G (rI (fun r S' => r = wnV σ k j ∧ MI y B σ S' ∧ FrM S S' ∧ hI S' 0 y = hI S 0 y)) noX 21 100) 10 21 100 90 [(9, .int (nI t)), (8, .int w8), (7, .int w7), (6, .int v6), (5, .int v5), (4, .int v4), (3, .int (nI (900 * k))), (0, .ref y), (1, .int (nI k)), (2, .int (nI j))] [] T := by
          intro w7 w8 hw7 hw8
          refine J_aload_n 7 hC dX6_windowOf_90 rfl rfl ?_
          refine fg_X6_54 hC hsT.ky (hsT.p 23 rfl) dX6_windowOf_91 ?_
          refine J_iload_n 6 hC dX6_windowOf_94 rfl rfl ?_
          refine J_iload 0 hC dX6_windowOf_95 rfl ?_
          refine J_iadd hC dX6_windowOf_97 ?_
          refine J_topI (nI_add (900 * k) t) ?_
          refine J_iald hC (hsT.k 23 rfl) rfl (inN (hsT.n 23 rfl) (vp_in_nI (show 900 * k + t < 18000 by omega) (by decide))) dX6_windowOf_98 ?_
          refine J_topI (show _ = nI (rnA σ k t) by rw [nI_clamp (by omega)]; exact v22.2) ?_
          refine J_if_ne 105 hC dX6_windowOf_99 (by decide) (fun c99 => ?_) (fun c99 => ?_)
          · refine J_iload 5 hC dX6_windowOf_105 rfl ?_
            refine J_iconst (v := (-1)) hC dX6_windowOf_107 (by decide) ?_
            refine J_icmp_ne 116 hC dX6_windowOf_108 (by decide) (fun c108 => ?_) (fun c108 => ?_)
            · refine J_iload 5 hC dX6_windowOf_116 rfl ?_
              refine J_istore (lv' := [(4, _), (9, _), (8, _), (7, _), (6, _), (5, _), (3, _), (0, _), (1, _), (2, _)]) hC dX6_windowOf_118 (by decide) rfl ?_
              refine J_iload 1 hC dX6_windowOf_120 rfl ?_
              refine J_istore (lv' := [(5, _), (4, _), (9, _), (8, _), (7, _), (6, _), (3, _), (0, _), (1, _), (2, _)]) hC dX6_windowOf_122 (by decide) rfl ?_
              refine J_iinc (lv' := [(6, _), (5, _), (4, _), (9, _), (8, _), (7, _), (3, _), (0, _), (1, _), (2, _)]) 5 hC dX6_windowOf_124 rfl rfl (by decide) rfl ?_
              have c' : 0 < rnA σ k t := Nat.pos_of_ne_zero (fun z => c99 (by rw [z]; rfl))
              have e6 : v6 + 1 = nI (cnF σ k (t + 1)) := by rw [i6, nI_1]; show _ = nI (cnF σ k t + if 0 < rnA σ k t then 1 else 0); rw [if_pos c']
              refine J_re [3, 4, 5, 0, 1, 2, 6, 7, 8, 9] rfl (c127 v4 (nI t) _ w7 w8 ⟨isFst_ext i4 (Or.inr c108), isLst_new c', e6, Or.inr hw7, hw8⟩)
            · refine J_iload 0 hC dX6_windowOf_111 rfl ?_
              refine J_goto 118 hC dX6_windowOf_113 (by decide) ?_
              refine J_istore (lv' := [(4, _), (9, _), (8, _), (7, _), (6, _), (5, _), (3, _), (0, _), (1, _), (2, _)]) hC dX6_windowOf_118 (by decide) rfl ?_
              refine J_iload 1 hC dX6_windowOf_120 rfl ?_
              refine J_istore (lv' := [(5, _), (4, _), (9, _), (8, _), (7, _), (6, _), (3, _), (0, _), (1, _), (2, _)]) hC dX6_windowOf_122 (by decide) rfl ?_
              refine J_iinc (lv' := [(6, _), (5, _), (4, _), (9, _), (8, _), (7, _), (3, _), (0, _), (1, _), (2, _)]) 5 hC dX6_windowOf_124 rfl rfl (by decide) rfl ?_
              have c' : 0 < rnA σ k t := Nat.pos_of_ne_zero (fun z => c99 (by rw [z]; rfl))
              have e6 : v6 + 1 = nI (cnF σ k (t + 1)) := by rw [i6, nI_1]; show _ = nI (cnF σ k t + if 0 < rnA σ k t then 1 else 0); rw [if_pos c']
              refine J_re [3, 4, 5, 0, 1, 2, 6, 7, 8, 9] rfl (c127 (nI t) (nI t) _ w7 w8 ⟨isFst_new (by omega) i4 c' c108, isLst_new c', e6, Or.inr hw7, hw8⟩)
          · refine J_goto 127 hC dX6_windowOf_102 (by decide) ?_
            have c' : rnA σ k t = 0 := nI_inj (Nat.lt_of_le_of_lt (rnA_le9 hr k t) (by decide)) (by decide) c99
            exact J_re [0, 1, 2, 3, 4, 5, 6, 7, 8, 9] rfl (c127 v4 v5 v6 w7 w8 ⟨isFst_ext i4 (Or.inl (by unfold wP; omega)), isLst_ext i5 (by unfold wP; omega), by rw [i6]; show nI (cnF σ k t) = nI (cnF σ k t + if 0 < rnA σ k t then 1 else 0); rw [if_neg (by omega), Nat.add_zero], Or.inr hw7, hw8⟩)
        have c62 : ∀ (w7 : Int32), isHi (fun t => thV σ k (nI t)) 0 (t + 1) w7 → J X G (QQ X G (rI (fun r S' => r = wnV σ k j ∧ MI y B σ S' ∧ FrM S S' ∧ hI S' 0 y = hI S 0 y)) noX 21 100) 10 21 100 62 [(9, .int (nI t)), (8, .int v8), (7, .int w7), (6, .int v6), (5, .int v5), (4, .int v4), (3, .int (nI (900 * k))), (0, .ref y), (1, .int (nI k)), (2, .int (nI j))] [] T := by
          intro w7 hw7
          refine J_aload_n 7 hC dX6_windowOf_62 rfl rfl ?_
          refine fg_X6_54 hC hsT.ky (hsT.p 23 rfl) dX6_windowOf_63 ?_
          refine J_iload_n 6 hC dX6_windowOf_66 rfl rfl ?_
          refine J_iload 0 hC dX6_windowOf_67 rfl ?_
          refine J_iadd hC dX6_windowOf_69 ?_
          refine J_topI (nI_add (900 * k) t) ?_
          refine J_iald hC (hsT.k 23 rfl) rfl (inN (hsT.n 23 rfl) (vp_in_nI (show 900 * k + t < 18000 by omega) (by decide))) dX6_windowOf_70 ?_
          refine J_topI (show _ = nI (rnA σ k t) by rw [nI_clamp (by omega)]; exact v22.2) ?_
          refine J_aload_n 7 hC dX6_windowOf_71 rfl rfl ?_
          refine fg_X6_36 hC hsT.ky (hsT.p 16 rfl) dX6_windowOf_72 ?_
          refine J_iload_n 8 hC dX6_windowOf_75 rfl rfl ?_
          refine J_iald hC (hsT.k 16 rfl) rfl (inN (hsT.n 16 rfl) (vp_in_nI (show k < 20 by have := hr.2.2.2.2.2.2.2.1; omega) (by decide))) dX6_windowOf_76 ?_
          refine J_topI (show _ = vt σ k 5 by rw [nI_clamp (show k < 2147483648 by have := hr.2.2.2.2.2.2.2.1; omega)]; exact hvT.t hk (show 5 < 10 by decide)) ?_
          refine J_icmp_lt 90 hC dX6_windowOf_77 (by decide) (fun c77 => ?_) (fun c77 => ?_)
          · exact J_re [0, 1, 2, 3, 4, 5, 6, 7, 8, 9] rfl (c90 w7 v8 hw7 (isFst_ext i8 (Or.inl (fun z => absurd z (Int32.not_le.mpr c77)))))
          · refine J_iload 1 hC dX6_windowOf_80 rfl ?_
            refine J_iconst (v := (-1)) hC dX6_windowOf_82 (by decide) ?_
            refine J_icmp_ne 90 hC dX6_windowOf_83 (by decide) (fun c83 => ?_) (fun c83 => ?_)
            · exact J_re [0, 1, 2, 3, 4, 5, 6, 7, 8, 9] rfl (c90 w7 v8 hw7 (isFst_ext i8 (Or.inr c83)))
            · refine J_iload 0 hC dX6_windowOf_86 rfl ?_
              refine J_istore (lv' := [(8, _), (9, _), (7, _), (6, _), (5, _), (4, _), (3, _), (0, _), (1, _), (2, _)]) hC dX6_windowOf_88 (by decide) rfl ?_
              exact J_re [1, 0, 2, 3, 4, 5, 6, 7, 8, 9] rfl (c90 w7 (nI t) hw7 (isFst_new (by omega) i8 (Int32.not_lt.mp c77) c83))
        refine J_aload_n 7 hC dX6_windowOf_37 rfl rfl ?_
        refine fg_X6_51 hC hsT.ky (hsT.p 22 rfl) dX6_windowOf_38 ?_
        refine J_iload_n 6 hC dX6_windowOf_41 rfl rfl ?_
        refine J_iload 0 hC dX6_windowOf_42 rfl ?_
        refine J_iadd hC dX6_windowOf_44 ?_
        refine J_topI (nI_add (900 * k) t) ?_
        refine J_iald hC (hsT.k 22 rfl) rfl (inN (hsT.n 22 rfl) (vp_in_nI (show 900 * k + t < 18000 by omega) (by decide))) dX6_windowOf_45 ?_
        refine J_topI (show _ = thV σ k (nI t) by rw [nI_clamp (by omega)]; exact v22.1) ?_
        refine J_aload_n 7 hC dX6_windowOf_46 rfl rfl ?_
        refine fg_X6_51 hC hsT.ky (hsT.p 22 rfl) dX6_windowOf_47 ?_
        refine J_iload_n 6 hC dX6_windowOf_50 rfl rfl ?_
        refine J_iload 2 hC dX6_windowOf_51 rfl ?_
        refine J_topI hs7 ?_
        refine J_iadd hC dX6_windowOf_53 ?_
        refine J_topI (nI_add (900 * k) s) ?_
        refine J_iald hC (hsT.k 22 rfl) rfl (inN (hsT.n 22 rfl) (vp_in_nI (show 900 * k + s < 18000 by omega) (by decide))) dX6_windowOf_54 ?_
        refine J_topI (show _ = thV σ k (nI s) by rw [nI_clamp (by omega)]; exact v22s.1) ?_
        refine J_icmp_le 62 hC dX6_windowOf_55 (by decide) (fun c55 => ?_) (fun c55 => ?_)
        · exact J_re [0, 1, 2, 3, 4, 5, 6, 7, 8, 9] rfl (c62 v7 (isHi_keep i7 hs7 (by omega) (by omega) (Int32.not_lt.mpr c55)))
        · refine J_iload 0 hC dX6_windowOf_58 rfl ?_
          refine J_istore (lv' := [(7, _), (9, _), (8, _), (6, _), (5, _), (4, _), (3, _), (0, _), (1, _), (2, _)]) hC dX6_windowOf_60 (by decide) rfl ?_
          exact J_re [1, 2, 0, 3, 4, 5, 6, 7, 8, 9] rfl (c62 (nI t) (isHi_new i7 hs7 (by omega) (by omega) (Int32.not_le.mp c55)))
  refine J_aload_n 0 hC dX6_windowOf_0 rfl rfl ?_
  refine cl_X6_168 hC (c_workOut S y B σ h) h.1.ky (Nat.le_of_ble_eq_true rfl) ⟨⟨Nat.le_of_ble_eq_true rfl, Nat.le_of_ble_eq_true rfl⟩, Nat.le_of_ble_eq_true rfl, Nat.le_of_ble_eq_true rfl⟩ dX6_windowOf_1 (fun S1 e1 => ?_)
  obtain ⟨a1, a2, a3, a4, a5⟩ := e1
  refine J_sipush (v := 900) hC dX6_windowOf_4 (by decide) ?_
  refine J_iload_n 1 hC dX6_windowOf_7 rfl rfl ?_
  refine J_imul hC dX6_windowOf_8 ?_
  refine J_topI (show (900 : Int32) * nI k = nI (900 * k) from nI_mul 900 k) ?_
  refine J_istore_n (lv' := [(3, _), (0, _), (1, _), (2, _)]) hC dX6_windowOf_9 rfl (by decide) rfl ?_
  refine J_iconst (v := (-1)) hC dX6_windowOf_10 (by decide) ?_
  refine J_istore (lv' := [(4, _), (3, _), (0, _), (1, _), (2, _)]) hC dX6_windowOf_11 (by decide) rfl ?_
  refine J_iconst (v := (-1)) hC dX6_windowOf_13 (by decide) ?_
  refine J_istore (lv' := [(5, _), (4, _), (3, _), (0, _), (1, _), (2, _)]) hC dX6_windowOf_14 (by decide) rfl ?_
  refine J_iconst (v := 0) hC dX6_windowOf_16 (by decide) ?_
  refine J_istore (lv' := [(6, _), (5, _), (4, _), (3, _), (0, _), (1, _), (2, _)]) hC dX6_windowOf_17 (by decide) rfl ?_
  refine J_iconst (v := 0) hC dX6_windowOf_19 (by decide) ?_
  refine J_istore (lv' := [(7, _), (6, _), (5, _), (4, _), (3, _), (0, _), (1, _), (2, _)]) hC dX6_windowOf_20 (by decide) rfl ?_
  refine J_iconst (v := (-1)) hC dX6_windowOf_22 (by decide) ?_
  refine J_istore (lv' := [(8, _), (7, _), (6, _), (5, _), (4, _), (3, _), (0, _), (1, _), (2, _)]) hC dX6_windowOf_23 (by decide) rfl ?_
  refine J_iconst (v := 0) hC dX6_windowOf_25 (by decide) ?_
  refine J_istore (lv' := [(9, _), (8, _), (7, _), (6, _), (5, _), (4, _), (3, _), (0, _), (1, _), (2, _)]) hC dX6_windowOf_26 (by decide) rfl ?_
  exact J_re [0, 1, 2, 3, 4, 5, 6, 7, 8, 9] rfl (loop _ ⟨a1, a2, a3, a5⟩ (lnV σ + 1) 0 (-1) (-1) 0 0 (-1) (by omega) (by omega) (wI_0 σ k))
