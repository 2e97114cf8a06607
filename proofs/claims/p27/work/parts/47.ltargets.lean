/-! the targets that the law adds: printed by wip/p27/law1.py -/
/-- what the law keeps of each target: its minutes -/
def tdI (told : Nat) (σ : Sg) (T : HS) : Prop := hK T told = 18 ∧ hN T told = 100 ∧ ∀ i, i < vn σ → hV T (5 * i + 4) told = vt σ i 5
theorem tdI.frc {told : Nat} {σ τ : Sg} {S T : HS} (h : tdI told σ S) (f : FrC S T) (hn : vn τ = vn σ) (ht : ∀ i, i < vn σ → vt τ i 5 = vt σ i 5) : tdI told τ T :=
  ⟨f.k h.1 (by decide), f.n h.1 (by decide) h.2.1, fun i hi => (f.v h.1 (by decide) _).trans ((h.2.2 i (hn ▸ hi)).trans (ht i (hn ▸ hi)).symm)⟩
/-- new targets: nothing had, in the night 0, no clouds -/
def nN (σ : Sg) (k : Nat) : Prop := vn σ = k ∧ vg σ 3 = 0 ∧ vc σ = 0 ∧ ∀ i, i < k → vt σ i 8 = 0 ∧ vt σ i 9 = -1 ∧ 0 ≤ vt σ i 6
def tgI (G : JG) (x told : Nat) (σ : Sg) (k : Nat) (T : HS) : Prop := CE G x σ T ∧ nN σ k ∧ tdI told σ T
def mdV (j0 j1 j2 j3 j4 : Nat) : Nat → Int32 := fun j => if j = 0 then nI j0 else if j = 1 then nI j1 - nI 90 else if j = 2 then nI j2 else if j = 3 then nI (1 + j3) else nI (5 + j4)
/-- the five numbers of a target are made; the first i of them are told -/
def mdI (G : JG) (x told : Nat) (σ : Sg) (k q : Nat) (v : Nat → Int32) (i : Nat) (T : HS) : Prop := tgI G x told σ k T ∧ (hK T q = 19 ∧ hN T q = 5 ∧ ∀ j, j < 5 → hV T j q = v j) ∧ (4 < i → hV T (5 * k + 4) told = v 4)
theorem made_ok {G : JG} {x told : Nat} {σ : Sg} {k q : Nat} {T : HS} (h : tgI G x told σ k T) (fq : hK T q = 0) (j0 j1 j2 j3 j4 : Nat) : mdI G x told σ k q (mdV j0 j1 j2 j3 j4) 0 (sV (sV (sV (sV (sV (sNew T q 19 5) 0 q (nI j0)) 1 q (nI j1 - nI 90)) 2 q (nI j2)) 3 q (nI (1 + j3))) 4 q (nI (5 + j4))) := by
  obtain ⟨h1, h2, h3, h4, h5⟩ := h
  have hne : told ≠ q := hK_ne h3 fq (by decide)
  have k0 : hK (sNew T q 19 5) q = 19 := if_pos rfl
  have g : ∀ {U : HS}, hK U q = 19 → hK U q = 0 ∨ 14 < hK U q := fun e => gt14 e (Or.inr (by decide))
  refine ⟨⟨h1.frm ((((((FrM.rfl.new fq).sV (g k0)).sV (g k0)).sV (g k0)).sV (g k0)).sV (g k0)), h2, (if_neg hne).trans h3, (if_neg hne).trans h4, fun i hi => ?_⟩, ⟨k0, if_pos rfl, fun j hj => ?_⟩, fun z => absurd z (by decide)⟩
  · rw [hV_na hne, hV_na hne, hV_na hne, hV_na hne, hV_na hne, hV_sNew, if_neg hne]
    exact h5 i hi
  · rcases (show j = 0 ∨ j = 1 ∨ j = 2 ∨ j = 3 ∨ j = 4 by omega) with rfl | rfl | rfl | rfl | rfl
    · rw [hV_nk (by decide), hV_nk (by decide), hV_nk (by decide), hV_nk (by decide), hV_same]; rfl
    · rw [hV_nk (by decide), hV_nk (by decide), hV_nk (by decide), hV_same]; rfl
    · rw [hV_nk (by decide), hV_nk (by decide), hV_same]; rfl
    · rw [hV_nk (by decide), hV_same]; rfl
    · rw [hV_same]; rfl
theorem mdI.step {G : JG} {x told : Nat} {σ : Sg} {k q : Nat} {v : Nat → Int32} {i : Nat} {T : HS} (h : mdI G x told σ k q v i T) (hi : i < 5) : mdI G x told σ k q v (i + 1) (sV T (5 * k + i) told (v i)) := by
  obtain ⟨⟨h1, h2, h3, h4, h5⟩, ⟨h6, h7, h8⟩, h9⟩ := h
  have hne : q ≠ told := hK_ne h6 h3 (by decide)
  refine ⟨⟨h1.frm (FrM.rfl.sV (gt14 h3 (Or.inr (by decide)))), h2, h3, h4, fun j hj => ?_⟩, ⟨h6, h7, fun j hj => (hV_na hne).trans (h8 j hj)⟩, fun z => ?_⟩
  · have hjk : j < k := by rw [← h2.1]; exact hj
    rw [hV_nk (by omega)]
    exact h5 j hj
  · have e : i = 4 := by omega
    subst e
    exact hV_same _ _ _ _
theorem addT_ok {G : JG} {x told : Nat} {σ : Sg} {k q : Nat} {j0 j1 j2 j3 j4 : Nat} {T U : HS} (h : mdI G x told σ k q (mdV j0 j1 j2 j3 j4) 5 T) (c : CS G x (addT σ (nI j0) (nI j1 - nI 90) (nI j2) (nI (1 + j3)) (nI (5 + j4))) T U) : tgI G x told (addT σ (nI j0) (nI j1 - nI 90) (nI j2) (nI (1 + j3)) (nI (5 + j4))) (k + 1) U := by
  obtain ⟨⟨h1, ⟨n1, n2, n3, n4⟩, h3, h4, h5⟩, -, h9⟩ := h
  obtain ⟨c1, f⟩ := c
  have old : ∀ i j, i < k → vt (addT σ (nI j0) (nI j1 - nI 90) (nI j2) (nI (1 + j3)) (nI (5 + j4))) i j = vt σ i j := fun i j hi => if_neg (by omega)
  have new : ∀ j, vt (addT σ (nI j0) (nI j1 - nI 90) (nI j2) (nI (1 + j3)) (nI (5 + j4))) k j = ntF (nI j0) (nI j1 - nI 90) (nI j2) (nI (1 + j3)) (nI (5 + j4)) j := fun j => if_pos n1.symm
  refine ⟨c1, ⟨congrArg (· + 1) n1, n2, n3, fun i hi => ?_⟩, f.k h3 (by decide), f.n h3 (by decide) h4, fun i hi => ?_⟩
  · by_cases e : i = k
    · subst e
      rw [new, new, new]
      exact ⟨rfl, rfl, show (0 : Int32) ≤ 1 by decide⟩
    · rw [old i 8 (by omega), old i 9 (by omega), old i 6 (by omega)]
      exact n4 i (by omega)
  · have hi' : i < k + 1 := by
      have q : vn (addT σ (nI j0) (nI j1 - nI 90) (nI j2) (nI (1 + j3)) (nI (5 + j4))) = vn σ + 1 := rfl
      omega
    rw [f.v h3 (by decide)]
    by_cases e : i = k
    · subst e
      rw [new]
      exact h9 (by decide)
    · rw [old i 5 (by omega)]
      exact h5 i (by omega)
set_option maxHeartbeats 4000000 in
set_option maxRecDepth 100000 in
theorem tg_inner {X : JX} {G : JG} {Q : State → Prop} (hC : JC X G RL cL_targets 9 none 10 390 1420 24100) {cs ss x b told q k : Nat} {w6 w2 w3 : Int32} {σ : Sg} {v : Nat → Int32} (hk : k < 20) (fin : ∀ T, mdI G x told σ k q v 5 T → J X G Q 9 cs ss 139 [(8, .int (nI 5)), (7, .ref q), (6, .int w6), (5, .int (nI k)), (0, .ref x), (1, .ref b), (2, .int w2), (3, .int w3), (4, .ref told)] [] T) :
    ∀ (n i : Nat) (T : HS), 5 - i < n → i ≤ 5 → mdI G x told σ k q v i T → J X G Q 9 cs ss 112 [(8, .int (nI i)), (7, .ref q), (6, .int w6), (5, .int (nI k)), (0, .ref x), (1, .ref b), (2, .int w2), (3, .int w3), (4, .ref told)] [] T := by
  intro n
  induction n with
  | zero => intro i T h; omega
  | succ n ih =>
    intro i T hn hi h
    obtain ⟨⟨-, -, ht, hm, -⟩, ⟨hq, hqn, hqv⟩, -⟩ := id h
    refine J_iload 0 hC dL_targets_112 rfl ?_
    refine J_iconst (v := nI 5) hC dL_targets_114 (by decide) ?_
    refine J_icmp_ge 139 hC dL_targets_115 (by decide) (fun c115 => ?_) (fun c115 => ?_)
    · have e5 : i = 5 := by
        have q := (nI_leI (a := 5) (by decide) (by omega)).mp c115
        omega
      subst e5
      exact fin T h
    · have hi5 : i < 5 := Nat.not_le.mp (fun z => c115 (nI_le (a := 5) z (by omega)))
      refine J_aload 8 hC dL_targets_118 rfl ?_
      refine J_iconst (v := nI 5) hC dL_targets_120 (by decide) ?_
      refine J_iload 3 hC dL_targets_121 rfl ?_
      refine J_imul hC dL_targets_123 ?_
      refine J_topI (mul_I (a := 5) (b := k)) ?_
      refine J_iload 0 hC dL_targets_124 rfl ?_
      refine J_iadd hC dL_targets_126 ?_
      refine J_topI (nI_add (5 * k) i) ?_
      refine J_aload 1 hC dL_targets_127 rfl ?_
      refine J_iload 0 hC dL_targets_129 rfl ?_
      refine J_iald hC hq rfl (inN hqn (vp_in_nI (show i < 5 by omega) (by omega))) dL_targets_131 ?_
      refine J_topI (w := v i) (by rw [nI_clamp (by omega)]; exact hqv i (by omega)) ?_
      refine J_iast hC ht rfl (inN hm (vp_in_nI (show 5 * k + i < 100 by omega) (by omega))) dL_targets_132 ?_
      refine J_eqS (S' := sV T (5 * k + i) told (v i)) (by rw [nI_clamp (by omega)]) ?_
      refine J_iinc (lv' := [(8, _), (7, _), (6, _), (5, _), (0, _), (1, _), (2, _), (3, _), (4, _)]) 0 hC dL_targets_133 rfl (nI_add i 1) (by decide) rfl ?_
      refine J_goto 112 hC dL_targets_136 (by decide) ?_
      exact ih (i + 1) _ (by omega) (by omega) (h.step hi5)
set_option maxHeartbeats 4000000 in
set_option maxRecDepth 100000 in
/-- the targets are added -/
theorem c_L_targets {G : JG} (S : HS) (x told many : Nat) (σ0' : Sg) (hL : gLen G ≤ 260) (hm : many ≤ 20) (h0 : tgI G x told σ0' 0 S) : Ct G yL_targets cL_targets 9 none 10 390 1420 24100 [.ref x, .ref (gScr G), .int (nI 1), .int (nI many), .ref told] S (rV (fun S' => ∃ σ', tgI G x told σ' many S')) noX := by
  refine Ct.of (by decide) (Nat.le_of_ble_eq_true rfl) (fun X hC hT hin => ?_)
  have loop : ∀ (n k : Nat) (σ : Sg) (T : HS), many - k < n → k ≤ many → tgI G x told σ k T → J X G (QQ X G (rV (fun S' => ∃ σ', tgI G x told σ' many S')) noX 1420 24100) 9 (71 * k) (1205 * k) 3 [(5, .int (nI k)), (0, .ref x), (1, .ref (gScr G)), (2, .int (nI 1)), (3, .int (nI many)), (4, .ref told)] [] T := by
    intro n
    induction n with
    | zero => intro k σ T h; omega
    | succ n ih =>
      intro k σ T hn hkm hT
      refine J_iload 0 hC dL_targets_3 rfl ?_
      refine J_iload_n 4 hC dL_targets_5 rfl rfl ?_
      refine J_icmp_ge 170 hC dL_targets_6 (by decide) (fun c6 => ?_) (fun c6 => ?_)
      · refine J_vretI hC dL_targets_170 (by omega) (by omega) ?_
        have e : k = many := by
          have q := (nI_leI (by omega) (by omega)).mp c6
          omega
        subst e
        exact ⟨σ, hT⟩
      · have hk : k < many := Nat.not_le.mp (fun z => c6 (nI_le z (by omega)))
        refine J_aload_n 2 hC dL_targets_9 rfl rfl ?_
        refine J_iload_n 3 hC dL_targets_10 rfl rfl ?_
        refine J_iload 0 hC dL_targets_11 rfl ?_
        refine J_iconst (v := nI 5) hC dL_targets_13 (by decide) ?_
        refine J_irem hC dL_targets_14 (by decide) ?_
        obtain ⟨r, hr, er⟩ := rem_I (a := k) (b := 5) (by decide) (by omega) (by decide)
        refine J_topI er ?_
        refine J_iadd hC dL_targets_15 ?_
        refine J_topI (nI_add 1 r) ?_
        refine v_cell hC hL (n := 1 + r) (by omega) (Nat.le_of_ble_eq_true rfl) (Nat.le_of_ble_eq_true rfl) (Nat.le_of_ble_eq_true rfl) (by omega) (by omega) dL_targets_16 (fun z => ?_)
        refine J_iload 0 hC dL_targets_19 rfl ?_
        refine J_iconst (v := nI 5) hC dL_targets_21 (by decide) ?_
        refine J_idiv hC dL_targets_22 (by decide) ?_
        refine J_iconst (v := nI 3) hC dL_targets_23 (by decide) ?_
        refine J_imul hC dL_targets_24 ?_
        refine J_ishr hC dL_targets_25 ?_
        refine J_iload 0 hC dL_targets_26 rfl ?_
        refine J_sipush (v := nI 911) hC dL_targets_28 (by decide) ?_
        refine J_imul hC dL_targets_31 ?_
        refine J_ixor hC dL_targets_32 ?_
        refine J_any (fun w6 => ?_)
        refine J_istore (lv' := [(6, _), (5, _), (0, _), (1, _), (2, _), (3, _), (4, _)]) hC dL_targets_33 (by decide) rfl ?_
        refine J_iconst (v := nI 5) hC dL_targets_35 (by decide) ?_
        refine J_newI (lab := 19) (N := 5) hC rfl (mG 93 (by decide +kernel) rfl) (by decide) (by decide) (by decide) (by omega) (by omega) dL_targets_36 (fun q fq => ?_)
        have k19 : hK (sNew T q 19 5) q = 19 := if_pos rfl
        have n5 : hN (sNew T q 19 5) q = 5 := if_pos rfl
        refine J_dup hC dL_targets_38 rfl ?_
        refine J_iconst (v := nI 0) hC dL_targets_39 (by decide) ?_
        refine J_iload 0 hC dL_targets_40 rfl ?_
        refine J_sipush (v := nI 1440) hC dL_targets_42 (by decide) ?_
        refine v_below hC (m := 1440) (by decide) (by decide) (Nat.le_of_ble_eq_true rfl) (Nat.le_of_ble_eq_true rfl) (Nat.le_of_ble_eq_true rfl) (by omega) (by omega) dL_targets_45 (fun j0 gj0 => ?_)
        refine J_iast hC k19 rfl (inN n5 (vp_in_nI (show 0 < 5 by decide) (by decide))) dL_targets_48 ?_
        refine J_dup hC dL_targets_49 rfl ?_
        refine J_iconst (v := nI 1) hC dL_targets_50 (by decide) ?_
        refine J_iload 0 hC dL_targets_51 rfl ?_
        refine J_iconst (v := nI 5) hC dL_targets_53 (by decide) ?_
        refine J_ishr hC dL_targets_54 ?_
        refine J_sipush (v := nI 181) hC dL_targets_55 (by decide) ?_
        refine v_below hC (m := 181) (by decide) (by decide) (Nat.le_of_ble_eq_true rfl) (Nat.le_of_ble_eq_true rfl) (Nat.le_of_ble_eq_true rfl) (by omega) (by omega) dL_targets_58 (fun j1 gj1 => ?_)
        refine J_bipush (v := nI 90) hC dL_targets_61 (by decide) ?_
        refine J_isub hC dL_targets_63 ?_
        refine J_iast hC k19 rfl (inN n5 (vp_in_nI (show 1 < 5 by decide) (by decide))) dL_targets_64 ?_
        refine J_dup hC dL_targets_65 rfl ?_
        refine J_iconst (v := nI 2) hC dL_targets_66 (by decide) ?_
        refine J_iload 0 hC dL_targets_67 rfl ?_
        refine J_bipush (v := nI 9) hC dL_targets_69 (by decide) ?_
        refine J_ishr hC dL_targets_71 ?_
        refine J_iconst (v := nI 4) hC dL_targets_72 (by decide) ?_
        refine v_below hC (m := 4) (by decide) (by decide) (Nat.le_of_ble_eq_true rfl) (Nat.le_of_ble_eq_true rfl) (Nat.le_of_ble_eq_true rfl) (by omega) (by omega) dL_targets_73 (fun j2 gj2 => ?_)
        refine J_iast hC k19 rfl (inN n5 (vp_in_nI (show 2 < 5 by decide) (by decide))) dL_targets_76 ?_
        refine J_dup hC dL_targets_77 rfl ?_
        refine J_iconst (v := nI 3) hC dL_targets_78 (by decide) ?_
        refine J_iconst (v := nI 1) hC dL_targets_79 (by decide) ?_
        refine J_iload 0 hC dL_targets_80 rfl ?_
        refine J_bipush (v := nI 11) hC dL_targets_82 (by decide) ?_
        refine J_ishr hC dL_targets_84 ?_
        refine J_bipush (v := nI 9) hC dL_targets_85 (by decide) ?_
        refine v_below hC (m := 9) (by decide) (by decide) (Nat.le_of_ble_eq_true rfl) (Nat.le_of_ble_eq_true rfl) (Nat.le_of_ble_eq_true rfl) (by omega) (by omega) dL_targets_87 (fun j3 gj3 => ?_)
        refine J_iadd hC dL_targets_90 ?_
        refine J_topI (nI_add 1 j3) ?_
        refine J_iast hC k19 rfl (inN n5 (vp_in_nI (show 3 < 5 by decide) (by decide))) dL_targets_91 ?_
        refine J_dup hC dL_targets_92 rfl ?_
        refine J_iconst (v := nI 4) hC dL_targets_93 (by decide) ?_
        refine J_iconst (v := nI 5) hC dL_targets_94 (by decide) ?_
        refine J_iload 0 hC dL_targets_95 rfl ?_
        refine J_bipush (v := nI 13) hC dL_targets_97 (by decide) ?_
        refine J_ishr hC dL_targets_99 ?_
        refine J_bipush (v := nI 60) hC dL_targets_100 (by decide) ?_
        refine v_below hC (m := 60) (by decide) (by decide) (Nat.le_of_ble_eq_true rfl) (Nat.le_of_ble_eq_true rfl) (Nat.le_of_ble_eq_true rfl) (by omega) (by omega) dL_targets_102 (fun j4 gj4 => ?_)
        refine J_iadd hC dL_targets_105 ?_
        refine J_topI (nI_add 5 j4) ?_
        refine J_iast hC k19 rfl (inN n5 (vp_in_nI (show 4 < 5 by decide) (by decide))) dL_targets_106 ?_
        refine J_astore (lv' := [(7, _), (6, _), (5, _), (0, _), (1, _), (2, _), (3, _), (4, _)]) hC dL_targets_107 (by decide) rfl ?_
        refine J_iconst (v := nI 0) hC dL_targets_109 (by decide) ?_
        refine J_istore (lv' := [(8, _), (7, _), (6, _), (5, _), (0, _), (1, _), (2, _), (3, _), (4, _)]) hC dL_targets_110 (by decide) rfl ?_
        refine J_inv (A := mdI G x told σ k q (mdV j0 j1 j2 j3 j4) 0) (made_ok hT fq j0 j1 j2 j3 j4) (fun T1 m1 => ?_)
        refine tg_inner hC (by omega) (fun T2 m2 => ?_) 6 0 T1 (by omega) (by omega) m1
        obtain ⟨⟨⟨A, hA⟩, n2, -⟩, ⟨hq, hqn, hqv⟩, -⟩ := id m2
        refine J_aload_n 4 hC dL_targets_139 rfl rfl ?_
        refine J_aload 1 hC dL_targets_140 rfl ?_
        refine J_iconst (v := nI 0) hC dL_targets_142 (by decide) ?_
        refine J_iald hC hq rfl (inN hqn (vp_in_nI (show 0 < 5 by decide) (by decide))) dL_targets_143 ?_
        refine J_topI (w := nI j0) (hqv 0 (by decide)) ?_
        refine J_aload 1 hC dL_targets_144 rfl ?_
        refine J_iconst (v := nI 1) hC dL_targets_146 (by decide) ?_
        refine J_iald hC hq rfl (inN hqn (vp_in_nI (show 1 < 5 by decide) (by decide))) dL_targets_147 ?_
        refine J_topI (w := nI j1 - nI 90) (hqv 1 (by decide)) ?_
        refine J_aload 1 hC dL_targets_148 rfl ?_
        refine J_iconst (v := nI 2) hC dL_targets_150 (by decide) ?_
        refine J_iald hC hq rfl (inN hqn (vp_in_nI (show 2 < 5 by decide) (by decide))) dL_targets_151 ?_
        refine J_topI (w := nI j2) (hqv 2 (by decide)) ?_
        refine J_aload 1 hC dL_targets_152 rfl ?_
        refine J_iconst (v := nI 3) hC dL_targets_154 (by decide) ?_
        refine J_iald hC hq rfl (inN hqn (vp_in_nI (show 3 < 5 by decide) (by decide))) dL_targets_155 ?_
        refine J_topI (w := nI (1 + j3)) (hqv 3 (by decide)) ?_
        refine J_aload 1 hC dL_targets_156 rfl ?_
        refine J_iconst (v := nI 4) hC dL_targets_158 (by decide) ?_
        refine J_iald hC hq rfl (inN hqn (vp_in_nI (show 4 < 5 by decide) (by decide))) dL_targets_159 ?_
        refine J_topI (w := nI (5 + j4)) (hqv 4 (by decide)) ?_
        refine cl_L_19 hC (c_X5_addTarget T2 x A σ hA (nI j0) (nI j1 - nI 90) (nI j2) (nI (1 + j3)) (nI (5 + j4))) hA.1.kx (Nat.le_of_ble_eq_true rfl) ⟨⟨(Nat.le_of_ble_eq_true rfl), (Nat.le_of_ble_eq_true rfl)⟩, by omega, by omega⟩ dL_targets_160 (fun E U e => ?_) (fun r2 U e => ?_)
        · rcases e with ⟨-, -, e⟩ | ⟨-, -, -, e⟩
          · exact absurd ⟨⟨in_n (lo := 0) (hi := 1439) (by omega) (by omega) (by decide), in_90 (by omega)⟩, in_n (lo := 0) (hi := 3) (by omega) (by omega) (by decide), in_n (lo := 1) (hi := 9) (by omega) (by omega) (by decide), in_n (lo := 5) (hi := 120) (by omega) (by omega) (by decide)⟩ e
          · have q0 := n2.1
            omega
        obtain ⟨-, -, c, -⟩ := e
        refine J_pop hC dL_targets_163 rfl ?_
        refine J_iinc (lv' := [(5, _), (8, _), (7, _), (6, _), (0, _), (1, _), (2, _), (3, _), (4, _)]) 3 hC dL_targets_164 rfl (nI_add k 1) (by decide) rfl ?_
        refine J_goto 3 hC dL_targets_167 (by decide) ?_
        refine J_re [0, 4, 5, 6, 7, 8] rfl ?_
        refine J_wd (cs' := 71 * (k + 1)) (ss' := 1205 * (k + 1)) (by omega) (by omega) ?_
        exact ih (k + 1) _ U (by omega) (by omega) (addT_ok m2 c)
  refine J_iconst (v := nI 0) hC dL_targets_0 (by decide) ?_
  refine J_istore (lv' := [(5, _), (0, _), (1, _), (2, _), (3, _), (4, _)]) hC dL_targets_1 (by decide) rfl ?_
  exact loop (many + 1) 0 σ0' S (by omega) (by omega) h0
