/-! the model's digest and its constructor: printed by wip/whole/model10.py -/
def tdF (f : Nat → Int32) (N : Nat) (S : HS) (v n : Nat) (T : HS) : Prop := ext S T ∧ hK T v = 31 ∧ hN T v = N ∧ ∀ j, j < n → hV T j v = f j
theorem tdF.step {f : Nat → Int32} {N : Nat} {S T : HS} {v n : Nat} (h : tdF f N S v n T) (hv : hK S v = 0) : tdF f N S v (n + 1) (sV T n v (f n)) := by
  obtain ⟨h1, h2, h3, h4⟩ := h
  refine ⟨told_ext h1 hv, kV h2, nV h3, fun j hj => ?_⟩
  by_cases c : j = n
  · rw [c]; exact hV_same _ _ _ _
  · exact (hV_nk c).trans (h4 j (by omega))
def f8 (σ : Sg) (j : Nat) : Int32 := if j = 0 then vg σ 3 else if j = 1 then vg σ 2 else if j = 2 then vg σ 0 else if j = 3 then vg σ 1 else if j = 4 then vg σ 4 else if j = 5 then vg σ 5 else if j = 6 then vg σ 6 else nI (vn σ)
theorem dg8 (σ : Sg) : blN (f8 σ) 347 8 = bl (dg7 σ) (nI (vn σ)) := rfl
theorem blP_eq {π : Pl} {F : Nat → Int32} {d : Int64} : ∀ {p : Nat}, (∀ i, i < p → ∀ j, j < 4 → F (4 * i + j) = pR π i j) → blN F d (4 * p) = blP π d p
  | 0, _ => rfl
  | p + 1, h => by
    rw [show 4 * (p + 1) = 4 * p + 3 + 1 by omega, blN, blN, blN, blN, blP_eq (p := p) (fun i hi => h i (by omega)), h p (by omega) 3 (by omega), h p (by omega) 2 (by omega), h p (by omega) 1 (by omega), show F (4 * p) = pR π p 0 from h p (by omega) 0 (by omega)]
    rfl
theorem MW.ofMI {y : Nat} {B : Nat → Nat} {σ : Sg} {T : HS} (h : MI y B σ T) (e : hI T 21 y = 1) : MW y B σ T := by
  rcases h.2.2.2 with q | ⟨-, q⟩
  · rw [e] at q; exact absurd q (by decide)
  · exact q

set_option maxHeartbeats 4000000 in
set_option maxRecDepth 100000 in
/-- digest -/
theorem c_X6_digest {G : JG} (S : HS) (y : Nat) (B : Nat → Nat) (σ : Sg) (h : MI y B σ S) : Ct G yX6_digest cX6_digest 8 (some .long) 10 400 300 2600 [.ref y] S (rL (fun r S' => r = dgV σ ∧ MX y B σ S S' 0)) noX := by
  refine Ct.of (by decide) (Nat.le_of_ble_eq_true rfl) (fun X hC hT hin => ?_)
  obtain ⟨hs, hv, hr, hw⟩ := id h
  have n20 : vn σ ≤ 20 := hr.2.2.2.2.2.2.2.1
  have h1 := h.thr (v := 0)
  have hs1 := h1.1
  have hv1 := h1.2.1
  have hps : pS σ (plV σ) ≤ 20 := Nat.le_trans (ctU_le _ _) n20
  obtain ⟨d0, hd0⟩ : ∃ d0, d0 = bl (dg7 σ) (nI (vn σ)) := ⟨_, rfl⟩
  obtain ⟨d1, hd1⟩ : ∃ d1, d1 = bl (dgT σ (dg7 σ)) (nI (pS σ (plV σ))) := ⟨_, rfl⟩
  have hdT : blT σ d0 (vn σ) = dgT σ (dg7 σ) := by rw [hd0]; rfl
  obtain ⟨F, hF⟩ : ∃ F : Nat → Int32, F = fun i => pR (plV σ) (i / 4) (i % 4) := ⟨_, rfl⟩
  have hF2 : ∀ i, i < pS σ (plV σ) → ∀ j, j < 4 → F (4 * i + j) = pR (plV σ) i j := fun i _ j hj => by
    rw [hF]
    show pR (plV σ) ((4 * i + j) / 4) ((4 * i + j) % 4) = _
    rw [show (4 * i + j) / 4 = i by omega, show (4 * i + j) % 4 = j by omega]
  have hdP : blN F d1 (4 * pS σ (plV σ)) = dgV σ := by
    rw [blP_eq hF2, hd1]; rfl
  have loop3 : ∀ (T : HS), MX y B σ S T 0 → hI T 21 y = 1 → ∀ (n i : Nat), 4 * pS σ (plV σ) - i < n → i ≤ 4 * pS σ (plV σ) → J X G (QQ X G (rL (fun r S' => r = dgV σ ∧ MX y B σ S S' 0)) noX 300 2600) 8 222 2108 213 [(4, .int (nI i)), (2, .long (blN F d1 i)), (0, .ref y)] [] T := by
    intro T hmx h21 n
    have hsT := hmx.1.1
    have hw := MW.ofMI hmx.1 h21
    induction n with
    | zero => intro i h; omega
    | succ n ih =>
      intro i hn hi
      refine J_iload 0 hC dX6_digest_213 rfl ?_
      refine J_iconst (v := 4) hC dX6_digest_215 (by decide) ?_
      refine J_aload_n 2 hC dX6_digest_216 rfl rfl ?_
      refine fg_X6_133 hC hsT.ky dX6_digest_217 ?_
      refine J_topI hw.2.1 ?_
      refine J_imul hC dX6_digest_220 ?_
      refine J_topI (nI_4 _) ?_
      refine J_icmp_ge 245 hC dX6_digest_221 (by decide) (fun c221 => ?_) (fun c221 => ?_)
      · have e1 : i = 4 * pS σ (plV σ) := Nat.le_antisymm hi (Nat.not_lt.mp (fun q => absurd c221 (nI_ge q (by omega))))
        refine J_lload_n 1 hC dX6_digest_245 rfl rfl ?_
        exact J_lretI hC dX6_digest_246 (Nat.le_of_ble_eq_true rfl) (Nat.le_of_ble_eq_true rfl) ⟨by rw [e1]; exact hdP, hmx⟩
      · have hlt : i < 4 * pS σ (plV σ) := Nat.not_le.mp (fun q => c221 (nI_le q (by omega)))
        refine J_lload_n 1 hC dX6_digest_224 rfl rfl ?_
        refine J_ldc2 (v := 31) hC dX6_digest_225 (mG 1036 (by decide +kernel) rfl) ?_
        refine J_lmul hC dX6_digest_228 ?_
        refine J_aload_n 2 hC dX6_digest_229 rfl rfl ?_
        refine fg_X6_57 hC hsT.ky (hsT.p 25 rfl) dX6_digest_230 ?_
        refine J_iload 0 hC dX6_digest_233 rfl ?_
        refine J_iald hC (hsT.k 25 rfl) rfl (inN (hsT.n 25 rfl) (vp_in_nI (show i < 80 by omega) (by decide))) dX6_digest_235 ?_
        refine J_topI (show _ = F i by rw [nI_clamp (by omega), hF]; have h9 := hw.2.2 (i / 4) (by omega) (i % 4) (by omega); rw [show 4 * (i / 4) + i % 4 = i by omega] at h9; exact h9) ?_
        refine J_i2l hC dX6_digest_236 ?_
        refine J_ladd hC dX6_digest_237 ?_
        refine J_lstore_n (lv' := [(2, _), (4, _), (0, _)]) hC dX6_digest_238 rfl (by decide) rfl ?_
        refine J_iinc (lv' := [(4, _), (2, _), (0, _)]) 1 hC dX6_digest_239 rfl (nI_1 i) (by decide) rfl ?_
        refine J_goto 213 hC dX6_digest_242 (by decide) ?_
        exact J_re [0, 1, 2] rfl (ih (i + 1) (by omega) (by omega))
  have loop2 : ∀ (n k : Nat) (T : HS), MX y B σ S T 0 → hI T 21 y = 1 → vn σ - k < n → k ≤ vn σ → J X G (QQ X G (rL (fun r S' => r = dgV σ ∧ MX y B σ S S' 0)) noX 300 2600) 8 (22 + 10 * k) (108 + 100 * k) 120 [(4, .int (nI k)), (2, .long (blT σ d0 k)), (0, .ref y)] [] T := by
    intro n
    induction n with
    | zero => intro k T _ _ h; omega
    | succ n ih =>
      intro k T hmx h21 hn hk
      have hsT := hmx.1.1
      have hvT := hmx.1.2.1
      refine J_iload 0 hC dX6_digest_120 rfl ?_
      refine J_aload_n 2 hC dX6_digest_122 rfl rfl ?_
      refine fg_X6_63 hC hsT.ky dX6_digest_123 ?_
      refine J_topI hvT.1.2.2.2.2.2.2.2.2 ?_
      refine J_icmp_ge 198 hC dX6_digest_126 (by decide) (fun c126 => ?_) (fun c126 => ?_)
      · have e1 : k = vn σ := Nat.le_antisymm hk (Nat.not_lt.mp (fun q => absurd c126 (nI_ge q (by omega))))
        refine J_lload_n 1 hC dX6_digest_198 rfl rfl ?_
        refine J_ldc2 (v := 31) hC dX6_digest_199 (mG 1036 (by decide +kernel) rfl) ?_
        refine J_lmul hC dX6_digest_202 ?_
        refine J_aload_n 2 hC dX6_digest_203 rfl rfl ?_
        refine fg_X6_133 hC hsT.ky dX6_digest_204 ?_
        refine J_topI (MW.ofMI hmx.1 h21).2.1 ?_
        refine J_i2l hC dX6_digest_207 ?_
        refine J_ladd hC dX6_digest_208 ?_
        refine J_lstore_n (lv' := [(2, _), (4, _), (0, _)]) hC dX6_digest_209 rfl (by decide) rfl ?_
        refine J_iconst (v := 0) hC dX6_digest_210 (by decide) ?_
        refine J_istore (lv' := [(4, _), (2, _), (0, _)]) hC dX6_digest_211 (by decide) rfl ?_
        refine J_wd (cs' := 222) (ss' := 2108) (by omega) (by omega) ?_
        refine J_re [0, 1, 2] rfl (J_eqL ?_ (loop3 T hmx h21 (4 * pS σ (plV σ) + 1) 0 (by omega) (by omega)))
        rw [hd1, ← hdT, e1]; rfl
      · have hlt : k < vn σ := Nat.not_le.mp (fun q => c126 (nI_le q (by omega)))
        refine J_iconst (v := 0) hC dX6_digest_129 (by decide) ?_
        refine J_istore (lv' := [(5, _), (4, _), (2, _), (0, _)]) hC dX6_digest_130 (by decide) rfl ?_
        have in2 : ∀ (U : HS), MX y B σ S U 0 → hI U 21 y = 1 → ∀ (n j : Nat), 5 - j < n → j ≤ 5 → J X G (QQ X G (rL (fun r S' => r = dgV σ ∧ MX y B σ S S' 0)) noX 300 2600) 8 (22 + 10 * k + 10) (108 + 100 * k + 100) 164 [(5, .int (nI j)), (4, .int (nI k)), (2, .long (blN (wnV σ k) (blN (vt σ k) (blT σ d0 k) 10) j)), (0, .ref y)] [] U := by
          intro U hmU hU21 n
          have hwU := MW.ofMI hmU.1 hU21
          induction n with
          | zero => intro j h; omega
          | succ n ih2 =>
            intro j hj hj5
            refine J_iload 0 hC dX6_digest_164 rfl ?_
            refine J_iconst (v := 5) hC dX6_digest_166 (by decide) ?_
            refine J_icmp_ge 192 hC dX6_digest_167 (by decide) (fun c167 => ?_) (fun c167 => ?_)
            · have e : j = 5 := Nat.le_antisymm hj5 (Nat.not_lt.mp (fun q => absurd c167 (nI_ge q (by decide))))
              subst e
              refine J_iinc (lv' := [(4, _), (5, _), (2, _), (0, _)]) 1 hC dX6_digest_192 rfl (nI_1 k) (by decide) rfl ?_
              refine J_goto 120 hC dX6_digest_195 (by decide) ?_
              refine J_wd (cs' := 22 + 10 * (k + 1)) (ss' := 108 + 100 * (k + 1)) (by omega) (by omega) ?_
              exact J_re [0, 2, 3] rfl (ih (k + 1) U hmU hU21 (by omega) (by omega))
            · have hjl : j < 5 := Nat.not_le.mp (fun q => c167 (nI_le q (by omega)))
              refine J_lload_n 2 hC dX6_digest_170 rfl rfl ?_
              refine J_ldc2 (v := 31) hC dX6_digest_171 (mG 1036 (by decide +kernel) rfl) ?_
              refine J_lmul hC dX6_digest_174 ?_
              refine J_aload_n 3 hC dX6_digest_175 rfl rfl ?_
              refine J_iload 1 hC dX6_digest_176 rfl ?_
              refine J_iload 0 hC dX6_digest_178 rfl ?_
              refine cl_X6_171 hC (c_windowOf_w U y B σ hmU.1 k hlt j hjl hU21 hwU) hmU.1.1.ky (Nat.le_of_ble_eq_true rfl) ⟨⟨Nat.le_of_ble_eq_true rfl, Nat.le_of_ble_eq_true rfl⟩, by omega, by omega⟩ dX6_digest_180 (fun r180 S180 e180 => ?_)
              obtain ⟨rfl, e180⟩ := e180
              subst S180
              refine J_i2l hC dX6_digest_183 ?_
              refine J_ladd hC dX6_digest_184 ?_
              refine J_lstore_n (lv' := [(2, _), (5, _), (4, _), (0, _)]) hC dX6_digest_185 rfl (by decide) rfl ?_
              refine J_iinc (lv' := [(5, _), (2, _), (4, _), (0, _)]) 1 hC dX6_digest_186 rfl (nI_1 j) (by decide) rfl ?_
              refine J_goto 164 hC dX6_digest_189 (by decide) ?_
              exact J_re [0, 2, 1, 3] rfl (ih2 (j + 1) (by omega) (by omega))
        have in1 : ∀ (n j : Nat) (U : HS), MX y B σ S U 0 → hI U 21 y = 1 → 10 - j < n → j ≤ 10 → J X G (QQ X G (rL (fun r S' => r = dgV σ ∧ MX y B σ S S' 0)) noX 300 2600) 8 (22 + 10 * k + j) (108 + 100 * k + 10 * j) 132 [(5, .int (nI j)), (4, .int (nI k)), (2, .long (blN (vt σ k) (blT σ d0 k) j)), (0, .ref y)] [] U := by
          intro n
          induction n with
          | zero => intro j U _ _ h; omega
          | succ n ih1 =>
            intro j U hmU hU21 hj hj5
            refine J_iload 0 hC dX6_digest_132 rfl ?_
            refine J_bipush (v := 10) hC dX6_digest_134 (by decide) ?_
            refine J_icmp_ge 161 hC dX6_digest_136 (by decide) (fun c136 => ?_) (fun c136 => ?_)
            · have e : j = 10 := Nat.le_antisymm hj5 (Nat.not_lt.mp (fun q => absurd c136 (nI_ge q (by decide))))
              subst e
              refine J_iconst (v := 0) hC dX6_digest_161 (by decide) ?_
              refine J_istore (lv' := [(5, _), (4, _), (2, _), (0, _)]) hC dX6_digest_162 (by decide) rfl ?_
              exact J_wd (by omega) (by omega) (J_re [0, 1, 2, 3] rfl (in2 U hmU hU21 6 0 (by omega) (by omega)))
            · have hjl : j < 10 := Nat.not_le.mp (fun q => c136 (nI_le q (by omega)))
              refine J_lload_n 2 hC dX6_digest_139 rfl rfl ?_
              refine J_ldc2 (v := 31) hC dX6_digest_140 (mG 1036 (by decide +kernel) rfl) ?_
              refine J_lmul hC dX6_digest_143 ?_
              refine J_aload_n 3 hC dX6_digest_144 rfl rfl ?_
              refine J_iload 1 hC dX6_digest_145 rfl ?_
              refine J_iload 0 hC dX6_digest_147 rfl ?_
              refine cl_X6_165 hC (c_X6_told U y B σ hmU.1.1 hmU.1.2.1 hmU.1.2.2.1 k j hlt hjl) hmU.1.1.ky (Nat.le_of_ble_eq_true rfl) ⟨⟨Nat.le_of_ble_eq_true rfl, Nat.le_of_ble_eq_true rfl⟩, by omega, by omega⟩ dX6_digest_149 (fun r149 S149 e149 => ?_)
              obtain ⟨rfl, x9⟩ := e149
              have ey := x9 y (by rw [hmU.1.1.ky]; decide)
              have hmV : MX y B σ S S149 0 := ⟨hmU.1.ofE x9, hmU.2.1.trans (FrM.ofE x9), (ey.2.2.1 0).trans hmU.2.2⟩
              refine J_i2l hC dX6_digest_152 ?_
              refine J_ladd hC dX6_digest_153 ?_
              refine J_lstore_n (lv' := [(2, _), (5, _), (4, _), (0, _)]) hC dX6_digest_154 rfl (by decide) rfl ?_
              refine J_iinc (lv' := [(5, _), (2, _), (4, _), (0, _)]) 1 hC dX6_digest_155 rfl (nI_1 j) (by decide) rfl ?_
              refine J_goto 132 hC dX6_digest_158 (by decide) ?_
              exact J_wd (by omega) (by omega) (J_re [0, 2, 1, 3] rfl (ih1 (j + 1) S149 hmV ((ey.2.2.1 21).trans hU21) (by omega) (by omega)))
        exact J_re [0, 1, 2, 3] rfl (in1 11 0 T hmx h21 (by omega) (by omega))
  have loop1 : ∀ (T : HS) (v : Nat), MX y B σ S T 0 → hI T 21 y = 1 → hK T v = 31 → hN T v = 8 → (∀ j, j < 8 → hV T j v = f8 σ j) → ∀ (n j : Nat), 8 - j < n → j ≤ 8 → J X G (QQ X G (rL (fun r S' => r = dgV σ ∧ MX y B σ S S' 0)) noX 300 2600) 8 22 108 87 [(6, .int (nI j)), (5, .int 8), (4, .ref v), (2, .long (blN (f8 σ) 347 j)), (0, .ref y)] [] T := by
    intro T v hmx h21 kv nv hvv n
    induction n with
    | zero => intro j h; omega
    | succ n ih =>
      intro j hn hj
      refine J_iload 0 hC dX6_digest_87 rfl ?_
      refine J_iload 1 hC dX6_digest_89 rfl ?_
      refine J_icmp_ge 117 hC dX6_digest_91 (by decide) (fun c91 => ?_) (fun c91 => ?_)
      · have e1 : j = 8 := Nat.le_antisymm hj (Nat.not_lt.mp (fun q => absurd c91 (nI_ge q (by decide))))
        subst e1
        refine J_iconst (v := 0) hC dX6_digest_117 (by decide) ?_
        refine J_istore (lv' := [(4, _), (6, _), (5, _), (2, _), (0, _)]) hC dX6_digest_118 (by decide) rfl ?_
        refine J_wd (cs' := 22 + 10 * 0) (ss' := 108 + 100 * 0) (by omega) (by omega) ?_
        refine J_re [0, 3, 4] rfl (J_eqL ?_ (loop2 (vn σ + 1) 0 T hmx h21 (by omega) (by omega)))
        rw [hd0, dg8]; rfl
      · have hlt : j < 8 := Nat.not_le.mp (fun q => c91 (nI_le q (by omega)))
        refine J_aload 2 hC dX6_digest_94 rfl ?_
        refine J_iload 0 hC dX6_digest_96 rfl ?_
        refine J_iald hC kv rfl (inN nv (vp_in_nI hlt (by decide))) dX6_digest_98 ?_
        refine J_topI (show _ = f8 σ j by rw [nI_clamp (by omega)]; exact hvv j hlt) ?_
        refine J_istore (lv' := [(7, _), (6, _), (5, _), (4, _), (2, _), (0, _)]) hC dX6_digest_99 (by decide) rfl ?_
        refine J_lload_n 4 hC dX6_digest_101 rfl rfl ?_
        refine J_ldc2 (v := 31) hC dX6_digest_102 (mG 1036 (by decide +kernel) rfl) ?_
        refine J_lmul hC dX6_digest_105 ?_
        refine J_iload 0 hC dX6_digest_106 rfl ?_
        refine J_i2l hC dX6_digest_108 ?_
        refine J_ladd hC dX6_digest_109 ?_
        refine J_lstore_n (lv' := [(2, _), (7, _), (6, _), (5, _), (4, _), (0, _)]) hC dX6_digest_110 rfl (by decide) rfl ?_
        refine J_iinc (lv' := [(6, _), (2, _), (7, _), (5, _), (4, _), (0, _)]) 2 hC dX6_digest_111 rfl (nI_1 j) (by decide) rfl ?_
        refine J_goto 87 hC dX6_digest_114 (by decide) ?_
        exact J_re [0, 3, 4, 1, 5] rfl (ih (j + 1) (by omega) (by omega))
  refine J_aload_n 0 hC dX6_digest_0 rfl rfl ?_
  refine J_iconst (v := 0) hC dX6_digest_1 (by decide) ?_
  refine fp_X6_60 hC hs.ky dX6_digest_2 ?_
  refine J_aload_n 0 hC dX6_digest_5 rfl rfl ?_
  refine cl_X6_168 hC (c_workOut _ y B σ h1) hs1.ky (Nat.le_of_ble_eq_true rfl) ⟨⟨Nat.le_of_ble_eq_true rfl, Nat.le_of_ble_eq_true rfl⟩, Nat.le_of_ble_eq_true rfl, Nat.le_of_ble_eq_true rfl⟩ dX6_digest_6 (fun S6 e6 => ?_)
  obtain ⟨a1, a2, a3, a4, a5⟩ := e6
  have hs2 := a1.1
  have hv2 := a1.2.1
  have fr2 : FrM S S6 := (mx_0 h).2.1.trans a2
  have z2 : hI S6 0 y = 0 := a3.trans (hI_same _ _ _ _)
  have hps : pS σ (plV σ) ≤ 20 := Nat.le_trans (ctU_le _ _) n20
  refine J_bipush (v := 8) hC dX6_digest_9 (by decide) ?_
  refine J_newI (lab := 31) (N := 8) hC rfl (mG 111 (by decide +kernel) rfl) (by decide) (by decide) (by decide) (by omega) (by omega) dX6_digest_11 (fun v fv => ?_)
  refine J_inv (A := fun T => tdF (f8 σ) 8 S6 v 0 T) ⟨ext.rfl.new fv, if_pos rfl, if_pos rfl, fun j hj => absurd hj (Nat.not_lt_zero j)⟩ (fun T0 t0 => ?_)
  refine J_dup hC dX6_digest_13 rfl ?_
  refine J_iconst (v := 0) hC dX6_digest_14 (by decide) ?_
  refine J_aload_n 0 hC dX6_digest_15 rfl rfl ?_
  refine fg_X6_87 hC (kE t0.1 hs2.ky (by decide)) dX6_digest_16 ?_
  refine J_topI (show _ = f8 σ 0 from ((t0.1 y (by rw [hs2.ky]; decide)).2.2.1 1).trans hv2.1.1) ?_
  refine J_iast hC t0.2.1 rfl (inN t0.2.2.1 (vp_in_nI (show 0 < 8 by decide) (by decide))) dX6_digest_19 ?_
  refine J_inv (A := fun T => tdF (f8 σ) 8 S6 v 1 T) (t0.step fv) (fun T1 t1 => ?_)
  refine J_dup hC dX6_digest_20 rfl ?_
  refine J_iconst (v := 1) hC dX6_digest_21 (by decide) ?_
  refine J_aload_n 0 hC dX6_digest_22 rfl rfl ?_
  refine fg_X6_7 hC (kE t1.1 hs2.ky (by decide)) dX6_digest_23 ?_
  refine J_topI (show _ = f8 σ 1 from ((t1.1 y (by rw [hs2.ky]; decide)).2.2.1 2).trans hv2.1.2.1) ?_
  refine J_iast hC t1.2.1 rfl (inN t1.2.2.1 (vp_in_nI (show 1 < 8 by decide) (by decide))) dX6_digest_26 ?_
  refine J_inv (A := fun T => tdF (f8 σ) 8 S6 v 2 T) (t1.step fv) (fun T2 t2 => ?_)
  refine J_dup hC dX6_digest_27 rfl ?_
  refine J_iconst (v := 2) hC dX6_digest_28 (by decide) ?_
  refine J_aload_n 0 hC dX6_digest_29 rfl rfl ?_
  refine fg_X6_13 hC (kE t2.1 hs2.ky (by decide)) dX6_digest_30 ?_
  refine J_topI (show _ = f8 σ 2 from ((t2.1 y (by rw [hs2.ky]; decide)).2.2.1 3).trans hv2.1.2.2.1) ?_
  refine J_iast hC t2.2.1 rfl (inN t2.2.2.1 (vp_in_nI (show 2 < 8 by decide) (by decide))) dX6_digest_33 ?_
  refine J_inv (A := fun T => tdF (f8 σ) 8 S6 v 3 T) (t2.step fv) (fun T3 t3 => ?_)
  refine J_dup hC dX6_digest_34 rfl ?_
  refine J_iconst (v := 3) hC dX6_digest_35 (by decide) ?_
  refine J_aload_n 0 hC dX6_digest_36 rfl rfl ?_
  refine fg_X6_84 hC (kE t3.1 hs2.ky (by decide)) dX6_digest_37 ?_
  refine J_topI (show _ = f8 σ 3 from ((t3.1 y (by rw [hs2.ky]; decide)).2.2.1 4).trans hv2.1.2.2.2.1) ?_
  refine J_iast hC t3.2.1 rfl (inN t3.2.2.1 (vp_in_nI (show 3 < 8 by decide) (by decide))) dX6_digest_40 ?_
  refine J_inv (A := fun T => tdF (f8 σ) 8 S6 v 4 T) (t3.step fv) (fun T4 t4 => ?_)
  refine J_dup hC dX6_digest_41 rfl ?_
  refine J_iconst (v := 4) hC dX6_digest_42 (by decide) ?_
  refine J_aload_n 0 hC dX6_digest_43 rfl rfl ?_
  refine fg_X6_100 hC (kE t4.1 hs2.ky (by decide)) dX6_digest_44 ?_
  refine J_topI (show _ = f8 σ 4 from ((t4.1 y (by rw [hs2.ky]; decide)).2.2.1 5).trans hv2.1.2.2.2.2.1) ?_
  refine J_iast hC t4.2.1 rfl (inN t4.2.2.1 (vp_in_nI (show 4 < 8 by decide) (by decide))) dX6_digest_47 ?_
  refine J_inv (A := fun T => tdF (f8 σ) 8 S6 v 5 T) (t4.step fv) (fun T5 t5 => ?_)
  refine J_dup hC dX6_digest_48 rfl ?_
  refine J_iconst (v := 5) hC dX6_digest_49 (by decide) ?_
  refine J_aload_n 0 hC dX6_digest_50 rfl rfl ?_
  refine fg_X6_103 hC (kE t5.1 hs2.ky (by decide)) dX6_digest_51 ?_
  refine J_topI (show _ = f8 σ 5 from ((t5.1 y (by rw [hs2.ky]; decide)).2.2.1 6).trans hv2.1.2.2.2.2.2.1) ?_
  refine J_iast hC t5.2.1 rfl (inN t5.2.2.1 (vp_in_nI (show 5 < 8 by decide) (by decide))) dX6_digest_54 ?_
  refine J_inv (A := fun T => tdF (f8 σ) 8 S6 v 6 T) (t5.step fv) (fun T6 t6 => ?_)
  refine J_dup hC dX6_digest_55 rfl ?_
  refine J_bipush (v := 6) hC dX6_digest_56 (by decide) ?_
  refine J_aload_n 0 hC dX6_digest_58 rfl rfl ?_
  refine fg_X6_97 hC (kE t6.1 hs2.ky (by decide)) dX6_digest_59 ?_
  refine J_topI (show _ = f8 σ 6 from ((t6.1 y (by rw [hs2.ky]; decide)).2.2.1 7).trans hv2.1.2.2.2.2.2.2.1) ?_
  refine J_iast hC t6.2.1 rfl (inN t6.2.2.1 (vp_in_nI (show 6 < 8 by decide) (by decide))) dX6_digest_62 ?_
  refine J_inv (A := fun T => tdF (f8 σ) 8 S6 v 7 T) (t6.step fv) (fun T7 t7 => ?_)
  refine J_dup hC dX6_digest_63 rfl ?_
  refine J_bipush (v := 7) hC dX6_digest_64 (by decide) ?_
  refine J_aload_n 0 hC dX6_digest_66 rfl rfl ?_
  refine fg_X6_63 hC (kE t7.1 hs2.ky (by decide)) dX6_digest_67 ?_
  refine J_topI (show _ = f8 σ 7 from ((t7.1 y (by rw [hs2.ky]; decide)).2.2.1 10).trans hv2.1.2.2.2.2.2.2.2.2) ?_
  refine J_iast hC t7.2.1 rfl (inN t7.2.2.1 (vp_in_nI (show 7 < 8 by decide) (by decide))) dX6_digest_70 ?_
  refine J_inv (A := fun T => tdF (f8 σ) 8 S6 v 8 T) (t7.step fv) (fun T8 t8 => ?_)
  refine J_astore_n (lv' := [(1, _), (0, _)]) hC dX6_digest_71 rfl (by decide) rfl ?_
  refine J_ldc2 (v := 347) hC dX6_digest_72 (mG 1035 (by decide +kernel) rfl) ?_
  refine J_lstore_n (lv' := [(2, _), (1, _), (0, _)]) hC dX6_digest_75 rfl (by decide) rfl ?_
  refine J_aload_n 1 hC dX6_digest_76 rfl rfl ?_
  refine J_astore (lv' := [(4, _), (2, _), (1, _), (0, _)]) hC dX6_digest_77 (by decide) rfl ?_
  refine J_aload 0 hC dX6_digest_79 rfl ?_
  refine J_alen hC (t0 := 0) t8.2.1 rfl rfl (show Int32.ofNat (hN T8 v) = 8 by rw [t8.2.2.1]; rfl) dX6_digest_81 ?_
  refine J_istore (lv' := [(5, _), (4, _), (2, _), (1, _), (0, _)]) hC dX6_digest_82 (by decide) rfl ?_
  refine J_iconst (v := 0) hC dX6_digest_84 (by decide) ?_
  refine J_istore (lv' := [(6, _), (5, _), (4, _), (2, _), (1, _), (0, _)]) hC dX6_digest_85 (by decide) rfl ?_
  have ey := t8.1 y (by rw [hs2.ky]; decide)
  refine J_wd (cs' := 22) (ss' := 108) (by omega) (by omega) ?_
  exact J_re [0, 1, 2, 3, 5] rfl (loop1 T8 v ⟨a1.ofE t8.1, fr2.trans (FrM.ofE t8.1), (ey.2.2.1 0).trans z2⟩ ((ey.2.2.1 21).trans a4) t8.2.1 t8.2.2.1 t8.2.2.2 9 0 (by omega) (by omega))
