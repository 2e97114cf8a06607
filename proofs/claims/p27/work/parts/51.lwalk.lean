/-! the law from its entry to its nights: printed by wip/p27/law5.py -/
/-- nothing is there yet -/
def H00 : HS := (fun _ => 0, fun _ _ => 0, fun _ _ => none, fun _ => 0, fun _ _ => 0, fun _ _ => 0)
theorem nN.cn {σ : Sg} {many : Nat} (h : nN σ many) : ∀ m, m ≤ many → cnV σ 3 m = 0
  | 0, _ => rfl
  | m + 1, hm => by
    rw [cnV, nN.cn h m (by omega)]
    have e : shV σ m 3 = vt σ m 8 := rfl
    rw [e, (h.2.2.2 m (by omega)).1]
    rfl
theorem nN.ok {σ : Sg} {many : Nat} (h : nN σ many) : nOK σ many 0 := by
  obtain ⟨h1, h2, h3, h4⟩ := h
  refine ⟨h1, h2, h3, fun k hk => ?_⟩
  obtain ⟨a, b, c⟩ := h4 k hk
  rw [a, b, h2]
  exact ⟨c, by decide⟩
theorem nN.g {σ τ : Sg} {many : Nat} (h : nN σ many) (h1 : τ.2 = σ.2) (h2 : vg τ 3 = vg σ 3) : nN τ many := by
  obtain ⟨g, r⟩ := σ
  obtain ⟨g', r'⟩ := τ
  replace h1 : r' = r := h1
  subst h1
  exact ⟨h.1, h2.trans h.2.1, h.2.2.1, h.2.2.2⟩
theorem nN.want {σ : Sg} {many k j : Nat} {u w : Int32} (h : nN σ many) (hj : j < 100) : nN (upT σ k (wnF σ k u (nI j) w)) many := by
  obtain ⟨h1, h2, h3, h4⟩ := h
  refine ⟨h1, h2, h3, fun i hi => ?_⟩
  by_cases e : i = k
  · subst e
    have ev : ∀ j', vt (upT σ i (wnF σ i u (nI j) w)) i j' = wnF σ i u (nI j) w j' := fun _ => if_pos rfl
    rw [ev, ev, ev]
    exact ⟨(h4 i hi).1, (h4 i hi).2.1, nI_pos' (by omega)⟩
  · have ev : ∀ j', vt (upT σ k (wnF σ k u (nI j) w)) i j' = vt σ i j' := fun _ => if_neg e
    rw [ev, ev, ev]
    exact h4 i hi
theorem wn_5 {σ : Sg} {k i : Nat} {u v w : Int32} : vt (upT σ k (wnF σ k u v w)) i 5 = vt σ i 5 := by
  by_cases e : i = k
  · subst e; exact if_pos rfl
  · exact if_neg e
set_option maxHeartbeats 4000000 in
set_option maxRecDepth 100000 in
/-- what each target wants -/
theorem lm_want {X : JX} {G : JG} {Q : State → Prop} (hC : JCL X G) {x told many : Nat} (hL : gLen G ≤ 260) (hmany : many ≤ 20) {E F : Nat} (hE : E ≤ room_1.cells) (hF : F ≤ room_1.slots) (fin : ∀ (σ : Sg) (T : HS), CE G x σ T → tdI told σ T → nN σ many → J X G Q 16 E F 195 [(4, .int (nI many)), (3, .ref told), (2, .int (nI many)), (1, .ref x), (0, .ref (gScr G))] [] T) :
    ∀ (m k cs ss : Nat) (σ : Sg) (T : HS), many - k < m → k ≤ many → CE G x σ T → tdI told σ T → nN σ many → cs + 4 * (many - k) ≤ E → ss + 40 * (many - k) ≤ F → J X G Q 16 cs ss 118 [(4, .int (nI k)), (3, .ref told), (2, .int (nI many)), (1, .ref x), (0, .ref (gScr G))] [] T := by
  intro m
  induction m with
  | zero => intro k cs ss σ T h; omega
  | succ m ih =>
    intro k cs ss σ T hm hk h td hn h1 h2
    refine J_iload 0 hC dL_law_118 rfl ?_
    refine J_iload_n 2 hC dL_law_120 rfl rfl ?_
    refine J_icmp_ge 195 hC dL_law_121 (by decide) (fun c121 => ?_) (fun c121 => ?_)
    · have ek : k = many := by
        have q := (nI_leI (by omega) (by omega)).mp c121
        omega
      subst ek
      exact J_wd (by omega) (by omega) (fin σ T h td hn)
    · have hkm : k < many := Nat.not_le.mp (fun z => c121 (nI_le z (by omega)))
      have hvn := hn.1
      refine J_aload_n 3 hC dL_law_124 rfl rfl ?_
      refine J_iload 0 hC dL_law_125 rfl ?_
      refine J_aload_n 4 hC dL_law_127 rfl rfl ?_
      refine J_bipush (v := nI 9) hC dL_law_128 (by decide) ?_
      refine v_cell hC hL (n := 9) (by decide) (Nat.le_of_ble_eq_true rfl) (Nat.le_of_ble_eq_true rfl) (Nat.le_of_ble_eq_true rfl) (by omega) (by omega) dL_law_130 (fun z9 => ?_)
      refine J_iload 0 hC dL_law_133 rfl ?_
      refine J_bipush (v := nI 12) hC dL_law_135 (by decide) ?_
      refine J_irem hC dL_law_137 (by decide) ?_
      refine J_ishr hC dL_law_138 ?_
      refine J_sipush (v := nI 1100) hC dL_law_139 (by decide) ?_
      refine v_below hC (m := 1100) (by decide) (by decide) (Nat.le_of_ble_eq_true rfl) (Nat.le_of_ble_eq_true rfl) (Nat.le_of_ble_eq_true rfl) (by omega) (by omega) dL_law_142 (fun ja gja => ?_)
      refine J_sipush (v := nI 400) hC dL_law_145 (by decide) ?_
      refine J_isub hC dL_law_148 ?_
      refine J_iconst (v := nI 1) hC dL_law_149 (by decide) ?_
      refine J_aload_n 4 hC dL_law_150 rfl rfl ?_
      refine J_bipush (v := nI 10) hC dL_law_151 (by decide) ?_
      refine v_cell hC hL (n := 10) (by decide) (Nat.le_of_ble_eq_true rfl) (Nat.le_of_ble_eq_true rfl) (Nat.le_of_ble_eq_true rfl) (by omega) (by omega) dL_law_153 (fun z10 => ?_)
      refine J_iload 0 hC dL_law_156 rfl ?_
      refine J_bipush (v := nI 12) hC dL_law_158 (by decide) ?_
      refine J_irem hC dL_law_160 (by decide) ?_
      refine J_ishr hC dL_law_161 ?_
      refine J_iconst (v := nI 4) hC dL_law_162 (by decide) ?_
      refine v_below hC (m := 4) (by decide) (by decide) (Nat.le_of_ble_eq_true rfl) (Nat.le_of_ble_eq_true rfl) (Nat.le_of_ble_eq_true rfl) (by omega) (by omega) dL_law_163 (fun jb gjb => ?_)
      refine J_iadd hC dL_law_166 ?_
      refine J_topI (nI_add 1 jb) ?_
      refine J_iconst (v := nI 1) hC dL_law_167 (by decide) ?_
      refine J_aload_n 4 hC dL_law_168 rfl rfl ?_
      refine J_bipush (v := nI 11) hC dL_law_169 (by decide) ?_
      refine v_cell hC hL (n := 11) (by decide) (Nat.le_of_ble_eq_true rfl) (Nat.le_of_ble_eq_true rfl) (Nat.le_of_ble_eq_true rfl) (by omega) (by omega) dL_law_171 (fun z11 => ?_)
      refine J_iload 0 hC dL_law_174 rfl ?_
      refine J_bipush (v := nI 12) hC dL_law_176 (by decide) ?_
      refine J_irem hC dL_law_178 (by decide) ?_
      refine J_ishr hC dL_law_179 ?_
      refine J_iconst (v := nI 3) hC dL_law_180 (by decide) ?_
      refine v_below hC (m := 3) (by decide) (by decide) (Nat.le_of_ble_eq_true rfl) (Nat.le_of_ble_eq_true rfl) (Nat.le_of_ble_eq_true rfl) (by omega) (by omega) dL_law_181 (fun jc gjc => ?_)
      refine J_iadd hC dL_law_184 ?_
      refine J_topI (nI_add 1 jc) ?_
      refine v_want hC h (k := k) (by omega) ⟨in_h (by omega), in_n (lo := 1) (hi := 10) (by omega) (by omega) (by decide), in_n (lo := 1) (hi := 20) (by omega) (by omega) (by decide)⟩ (Nat.le_of_ble_eq_true rfl) (by omega) (by omega) dL_law_185 (fun r T1 h1c f1 => ?_)
      have td1 := td.frc f1 (τ := upT σ k (wnF σ k (nI ja - nI 400) (nI (1 + jb)) (nI (1 + jc)))) rfl (fun i _ => wn_5)
      refine J_pop hC dL_law_188 rfl ?_
      refine J_iinc (lv' := [(4, _), (3, _), (2, _), (1, _), (0, _)]) 0 hC dL_law_189 rfl (nI_add k 1) (by decide) rfl ?_
      refine J_goto 118 hC dL_law_192 (by decide) ?_
      refine J_re [0, 1, 2, 3, 4] rfl ?_
      exact ih (k + 1) _ _ _ T1 (by omega) (by omega) h1c td1 (hn.want (by omega)) (by omega) (by omega)
set_option maxHeartbeats 4000000 in
set_option maxRecDepth 100000 in
/-- the law from its entry -/
theorem law_walk {X : JX} {G : JG} {Q : State → Prop} (hC : JCL X G) (hL : gLen G ≤ 260) (fin : ∀ (x told many : Nat) (cs ss : Nat) (T : HS) (had : Int32), cs ≤ room_1.cells → ss ≤ room_1.slots → J X G Q 16 cs ss 661 [(5, .int (nI 6)), (4, .int had), (3, .ref told), (2, .int (nI many)), (1, .ref x), (0, .ref (gScr G))] [] T) : J X G Q 16 0 0 0 [(0, .ref (gScr G))] [] H00 := by
  have hz1 : 100000 ≤ room_1.cells := Nat.le_of_ble_eq_true rfl
  have hz2 : 1000000 ≤ room_1.slots := Nat.le_of_ble_eq_true rfl
  refine nw_L_20 hC (Nat.le_of_ble_eq_true rfl) (Nat.le_of_ble_eq_true rfl) dL_law_0 (fun x fx => ?_)
  refine J_dup hC dL_law_3 rfl ?_
  refine cl_L_25 hC (c_X5_init _ x (if_pos rfl) (fun k => if_pos rfl)) (Nat.le_of_ble_eq_true rfl) ⟨⟨(Nat.le_of_ble_eq_true rfl), (Nat.le_of_ble_eq_true rfl)⟩, (Nat.le_of_ble_eq_true rfl), (Nat.le_of_ble_eq_true rfl)⟩ dL_law_4 (fun S1 e1 => ?_)
  obtain ⟨⟨A, hA⟩, -⟩ := e1
  refine J_astore_n (lv' := [(1, _), (0, _)]) hC dL_law_7 rfl (by decide) rfl ?_
  refine J_iconst (v := nI 1) hC dL_law_8 (by decide) ?_
  refine J_aload_n 1 hC dL_law_9 rfl rfl ?_
  refine J_iconst (v := nI 0) hC dL_law_10 (by decide) ?_
  refine v_cell hC hL (n := 0) (by decide) (Nat.le_of_ble_eq_true rfl) (Nat.le_of_ble_eq_true rfl) (Nat.le_of_ble_eq_true rfl) (Nat.le_of_ble_eq_true rfl) (Nat.le_of_ble_eq_true rfl) dL_law_11 (fun z0 => ?_)
  refine J_bipush (v := nI 20) hC dL_law_14 (by decide) ?_
  refine v_below hC (m := 20) (by decide) (by decide) (Nat.le_of_ble_eq_true rfl) (Nat.le_of_ble_eq_true rfl) (Nat.le_of_ble_eq_true rfl) (Nat.le_of_ble_eq_true rfl) (Nat.le_of_ble_eq_true rfl) dL_law_16 (fun jm gjm => ?_)
  refine J_iadd hC dL_law_19 ?_
  obtain ⟨many, hmany⟩ : ∃ many, many = 1 + jm := ⟨_, rfl⟩
  refine J_topI (w := nI many) (by rw [hmany]; exact nI_add 1 jm) ?_
  refine J_istore_n (lv' := [(2, _), (1, _), (0, _)]) hC dL_law_20 rfl (by decide) rfl ?_
  refine J_bipush (v := nI 100) hC dL_law_21 (by decide) ?_
  refine J_newI (lab := 18) (N := 100) hC rfl (mG 93 (by decide +kernel) rfl) (by decide) (by decide) (by decide) (Nat.le_of_ble_eq_true rfl) (Nat.le_of_ble_eq_true rfl) dL_law_23 (fun told ftold => ?_)
  have g0 : tgI G x told σ0 0 (sNew S1 told 18 100) := ⟨⟨A, hA.frm (FrM.rfl.new ftold)⟩, ⟨rfl, rfl, rfl, fun i hi => absurd hi (Nat.not_lt_zero i)⟩, if_pos rfl, if_pos rfl, fun i hi => absurd hi (Nat.not_lt_zero i)⟩
  refine J_astore_n (lv' := [(3, _), (2, _), (1, _), (0, _)]) hC dL_law_25 rfl (by decide) rfl ?_
  refine J_aload_n 2 hC dL_law_26 rfl rfl ?_
  refine J_aload_n 3 hC dL_law_27 rfl rfl ?_
  refine J_iconst (v := nI 1) hC dL_law_28 (by decide) ?_
  refine J_iload_n 1 hC dL_law_29 rfl rfl ?_
  refine J_aload_n 0 hC dL_law_30 rfl rfl ?_
  refine cl_L_26 hC (c_L_targets _ x told many σ0 hL (by omega) g0) (Nat.le_of_ble_eq_true rfl) ⟨⟨(Nat.le_of_ble_eq_true rfl), (Nat.le_of_ble_eq_true rfl)⟩, (Nat.le_of_ble_eq_true rfl), (Nat.le_of_ble_eq_true rfl)⟩ dL_law_31 (fun S2 e2 => ?_)
  obtain ⟨σ1, h1, n1, t1⟩ := e2
  refine J_aload_n 2 hC dL_law_34 rfl rfl ?_
  refine J_aload_n 3 hC dL_law_35 rfl rfl ?_
  refine J_bipush (v := nI 6) hC dL_law_36 (by decide) ?_
  refine v_cell hC hL (n := 6) (by decide) (Nat.le_of_ble_eq_true rfl) (Nat.le_of_ble_eq_true rfl) (Nat.le_of_ble_eq_true rfl) (Nat.le_of_ble_eq_true rfl) (Nat.le_of_ble_eq_true rfl) dL_law_38 (fun z6 => ?_)
  refine J_sipush (v := nI 181) hC dL_law_41 (by decide) ?_
  refine v_below hC (m := 181) (by decide) (by decide) (Nat.le_of_ble_eq_true rfl) (Nat.le_of_ble_eq_true rfl) (Nat.le_of_ble_eq_true rfl) (Nat.le_of_ble_eq_true rfl) (Nat.le_of_ble_eq_true rfl) dL_law_44 (fun ja gja => ?_)
  refine J_bipush (v := nI 90) hC dL_law_47 (by decide) ?_
  refine J_isub hC dL_law_49 ?_
  refine J_aload_n 3 hC dL_law_50 rfl rfl ?_
  refine J_bipush (v := nI 6) hC dL_law_51 (by decide) ?_
  refine v_cell hC hL (n := 6) (by decide) (Nat.le_of_ble_eq_true rfl) (Nat.le_of_ble_eq_true rfl) (Nat.le_of_ble_eq_true rfl) (Nat.le_of_ble_eq_true rfl) (Nat.le_of_ble_eq_true rfl) dL_law_53 (fun z7 => ?_)
  refine J_bipush (v := nI 8) hC dL_law_56 (by decide) ?_
  refine J_ishr hC dL_law_58 ?_
  refine J_sipush (v := nI 1440) hC dL_law_59 (by decide) ?_
  refine v_below hC (m := 1440) (by decide) (by decide) (Nat.le_of_ble_eq_true rfl) (Nat.le_of_ble_eq_true rfl) (Nat.le_of_ble_eq_true rfl) (Nat.le_of_ble_eq_true rfl) (Nat.le_of_ble_eq_true rfl) dL_law_62 (fun jb gjb => ?_)
  refine v_setSite hC h1 ⟨in_90 (by omega), in_n (lo := 0) (hi := 1439) (by omega) (by omega) (by decide)⟩ (Nat.le_of_ble_eq_true rfl) (Nat.le_of_ble_eq_true rfl) (Nat.le_of_ble_eq_true rfl) dL_law_65 (fun r3 S3 h3 f3 => ?_)
  have t3 := t1.frc f3 (τ := setG (setG σ1 0 (nI ja - nI 90)) 1 (nI jb)) rfl (fun _ _ => rfl)
  have n3 := n1.g (τ := setG (setG σ1 0 (nI ja - nI 90)) 1 (nI jb)) rfl ((setG_ne (by decide)).trans (setG_ne (by decide)))
  refine J_pop hC dL_law_68 rfl ?_
  refine J_aload_n 2 hC dL_law_69 rfl rfl ?_
  refine J_aload_n 3 hC dL_law_70 rfl rfl ?_
  refine J_bipush (v := nI 7) hC dL_law_71 (by decide) ?_
  refine v_cell hC hL (n := 7) (by decide) (Nat.le_of_ble_eq_true rfl) (Nat.le_of_ble_eq_true rfl) (Nat.le_of_ble_eq_true rfl) (Nat.le_of_ble_eq_true rfl) (Nat.le_of_ble_eq_true rfl) dL_law_73 (fun z8 => ?_)
  refine J_sipush (v := nI 1440) hC dL_law_76 (by decide) ?_
  refine v_below hC (m := 1440) (by decide) (by decide) (Nat.le_of_ble_eq_true rfl) (Nat.le_of_ble_eq_true rfl) (Nat.le_of_ble_eq_true rfl) (Nat.le_of_ble_eq_true rfl) (Nat.le_of_ble_eq_true rfl) dL_law_79 (fun jc gjc => ?_)
  refine J_aload_n 3 hC dL_law_82 rfl rfl ?_
  refine J_bipush (v := nI 7) hC dL_law_83 (by decide) ?_
  refine v_cell hC hL (n := 7) (by decide) (Nat.le_of_ble_eq_true rfl) (Nat.le_of_ble_eq_true rfl) (Nat.le_of_ble_eq_true rfl) (Nat.le_of_ble_eq_true rfl) (Nat.le_of_ble_eq_true rfl) dL_law_85 (fun z9 => ?_)
  refine J_bipush (v := nI 8) hC dL_law_88 (by decide) ?_
  refine J_ishr hC dL_law_90 ?_
  refine J_sipush (v := nI 181) hC dL_law_91 (by decide) ?_
  refine v_below hC (m := 181) (by decide) (by decide) (Nat.le_of_ble_eq_true rfl) (Nat.le_of_ble_eq_true rfl) (Nat.le_of_ble_eq_true rfl) (Nat.le_of_ble_eq_true rfl) (Nat.le_of_ble_eq_true rfl) dL_law_94 (fun jd gjd => ?_)
  refine J_bipush (v := nI 90) hC dL_law_97 (by decide) ?_
  refine J_isub hC dL_law_99 ?_
  refine J_aload_n 3 hC dL_law_100 rfl rfl ?_
  refine J_bipush (v := nI 8) hC dL_law_101 (by decide) ?_
  refine v_cell hC hL (n := 8) (by decide) (Nat.le_of_ble_eq_true rfl) (Nat.le_of_ble_eq_true rfl) (Nat.le_of_ble_eq_true rfl) (Nat.le_of_ble_eq_true rfl) (Nat.le_of_ble_eq_true rfl) dL_law_103 (fun z10 => ?_)
  refine J_bipush (v := nI 30) hC dL_law_106 (by decide) ?_
  refine v_below hC (m := 30) (by decide) (by decide) (Nat.le_of_ble_eq_true rfl) (Nat.le_of_ble_eq_true rfl) (Nat.le_of_ble_eq_true rfl) (Nat.le_of_ble_eq_true rfl) (Nat.le_of_ble_eq_true rfl) dL_law_108 (fun je gje => ?_)
  refine v_setMoon hC h3 ⟨⟨in_n (lo := 0) (hi := 1439) (by omega) (by omega) (by decide), in_90 (by omega)⟩, in_n (lo := 0) (hi := 29) (by omega) (by omega) (by decide)⟩ (Nat.le_of_ble_eq_true rfl) (Nat.le_of_ble_eq_true rfl) (Nat.le_of_ble_eq_true rfl) dL_law_111 (fun r4 S4 h4 f4 => ?_)
  have t4 := t3.frc f4 (τ := setG (setG (setG (setG (setG σ1 0 (nI ja - nI 90)) 1 (nI jb)) 4 (nI jc)) 5 (nI jd - nI 90)) 6 (nI je)) rfl (fun _ _ => rfl)
  have n4 := n3.g (τ := setG (setG (setG (setG (setG σ1 0 (nI ja - nI 90)) 1 (nI jb)) 4 (nI jc)) 5 (nI jd - nI 90)) 6 (nI je)) rfl ((setG_ne (by decide)).trans ((setG_ne (by decide)).trans (setG_ne (by decide))))
  refine J_pop hC dL_law_114 rfl ?_
  refine J_iconst (v := nI 0) hC dL_law_115 (by decide) ?_
  refine J_istore (lv' := [(4, _), (3, _), (2, _), (1, _), (0, _)]) hC dL_law_116 (by decide) rfl ?_
  refine lm_want hC hL (by omega) (E := 2000) (F := 30000) (by omega) (by omega) (fun σ5 S5 h5 t5 n5 => ?_) (many + 1) 0 _ _ _ S4 (by omega) (by omega) h4 t4 n4 (by omega) (by omega)
  refine J_iconst (v := 0) hC dL_law_195 (by decide) ?_
  refine J_topI (w := cnV σ5 3 many) (n5.cn many (Nat.le_refl _)).symm ?_
  refine J_istore (lv' := [(4, _), (3, _), (2, _), (1, _), (0, _)]) hC dL_law_196 (by decide) rfl ?_
  refine J_iconst (v := nI 0) hC dL_law_198 (by decide) ?_
  refine J_istore (lv' := [(5, _), (4, _), (3, _), (2, _), (1, _), (0, _)]) hC dL_law_199 (by decide) rfl ?_
  exact lm_nights hC hL (fun cs ss T had => fin x told many cs ss T had) 7 0 _ _ σ5 S5 (by omega) (by omega) h5 t5 n5.ok (by omega) (by omega)
