/-! counts, nights, the digest: printed by wip/p27/class7.py -/
theorem opI1 {σ : Sg} {k : Nat} (h : ¬ opI σ k = 0) : opI σ k = 1 := if_pos (bI_ne h)
theorem J_inv {X : JX} {G : JG} {Q : State → Prop} {nL cs ss pc : Nat} {lv : List (Nat × Value)} {st : List Value} {S : HS} {A : HS → Prop} (h : A S) (k : ∀ T, A T → J X G Q nL cs ss pc lv st T) : J X G Q nL cs ss pc lv st S := k S h

set_option maxHeartbeats 4000000 in
set_option maxRecDepth 100000 in
/-- share -/
theorem c_X5_share {G : JG} (S : HS) (x : Nat) (A : Nat → Nat → Nat) (σ : Sg) (hs : Shp G x A (vn σ) S) (hv : Vl x A σ S) (k j : Nat) (hk : k < vn σ) (hj : j < 4) : Ct G yX5_share cX5_share 3 (some .int) 1 40 0 0 [.ref x, .ref (A 1 k), .int (nI j)] S (rI (fun r S' => r = shV σ k j ∧ S' = S)) noX := by
  refine Ct.of (by decide) (Nat.le_of_ble_eq_true rfl) (fun X hC hT hin => ?_)
  rcases (show j = 0 ∨ j = 1 ∨ j = 2 ∨ j = 3 by omega) with rfl | rfl | rfl | rfl
  · refine J_iload_n 2 hC dX5_share_0 rfl rfl ?_
    refine J_tableIn (off := 27) 28 hC dX5_share_1 (by decide) (by decide) (by decide) (by decide) ?_
    refine J_iconst (v := 1) hC dX5_share_28 (by decide) ?_
    exact J_iretI hC dX5_share_29 (Nat.le_of_ble_eq_true rfl) (Nat.le_of_ble_eq_true rfl) ⟨rfl, rfl⟩
  · refine J_iload_n 2 hC dX5_share_0 rfl rfl ?_
    refine J_tableIn (off := 29) 30 hC dX5_share_1 (by decide) (by decide) (by decide) (by decide) ?_
    refine J_aload_n 1 hC dX5_share_30 rfl rfl ?_
    refine J_aload_n 0 hC dX5_share_31 rfl rfl ?_
    refine fg_X5_172 hC hs.kx dX5_share_32 ?_
    refine cl_X5_175 hC (c_op hs hv k hk) (hs.kg hk) (Nat.le_of_ble_eq_true rfl) ⟨⟨Nat.le_of_ble_eq_true rfl, Nat.le_of_ble_eq_true rfl⟩, Nat.le_of_ble_eq_true rfl, Nat.le_of_ble_eq_true rfl⟩ dX5_share_35 (fun r35 S35 e35 => ?_)
    obtain ⟨rfl, e35⟩ := e35
    subst S35
    refine J_if_eq 45 hC dX5_share_38 (by decide) (fun c38 => ?_) (fun c38 => ?_)
    · refine J_iconst (v := 0) hC dX5_share_45 (by decide) ?_
      exact J_iretI hC dX5_share_46 (Nat.le_of_ble_eq_true rfl) (Nat.le_of_ble_eq_true rfl) ⟨c38.symm, rfl⟩
    · refine J_iconst (v := 1) hC dX5_share_41 (by decide) ?_
      refine J_goto 46 hC dX5_share_42 (by decide) ?_
      exact J_iretI hC dX5_share_46 (Nat.le_of_ble_eq_true rfl) (Nat.le_of_ble_eq_true rfl) ⟨(opI1 c38).symm, rfl⟩
  · refine J_iload_n 2 hC dX5_share_0 rfl rfl ?_
    refine J_tableIn (off := 46) 47 hC dX5_share_1 (by decide) (by decide) (by decide) (by decide) ?_
    refine J_aload_n 1 hC dX5_share_47 rfl rfl ?_
    refine fg_X5_266 hC (hs.kg hk) dX5_share_48 ?_
    refine J_topI (hv.tg hk).2.2.2.2.2.2.2.1 ?_
    refine J_aload_n 1 hC dX5_share_51 rfl rfl ?_
    refine fg_X5_126 hC (hs.kg hk) dX5_share_52 ?_
    refine J_topI (hv.tg hk).2.2.2.2.2.1 ?_
    refine J_icmp_lt 62 hC dX5_share_55 (by decide) (fun c55 => ?_) (fun c55 => ?_)
    · refine J_iconst (v := 0) hC dX5_share_62 (by decide) ?_
      exact J_iretI hC dX5_share_63 (Nat.le_of_ble_eq_true rfl) (Nat.le_of_ble_eq_true rfl) ⟨(if_neg (fun z => absurd c55 (Int32.not_lt.mpr z))).symm, rfl⟩
    · refine J_iconst (v := 1) hC dX5_share_58 (by decide) ?_
      refine J_goto 63 hC dX5_share_59 (by decide) ?_
      exact J_iretI hC dX5_share_63 (Nat.le_of_ble_eq_true rfl) (Nat.le_of_ble_eq_true rfl) ⟨(if_pos (Int32.not_lt.mp c55)).symm, rfl⟩
  · refine J_iload_n 2 hC dX5_share_0 rfl rfl ?_
    refine J_tableOut 64 hC dX5_share_1 (by decide) (by decide) ?_
    refine J_aload_n 1 hC dX5_share_64 rfl rfl ?_
    refine fg_X5_266 hC (hs.kg hk) dX5_share_65 ?_
    refine J_topI (hv.tg hk).2.2.2.2.2.2.2.1 ?_
    exact J_iretI hC dX5_share_68 (Nat.le_of_ble_eq_true rfl) (Nat.le_of_ble_eq_true rfl) ⟨rfl, rfl⟩

set_option maxHeartbeats 4000000 in
set_option maxRecDepth 100000 in
/-- count -/
theorem c_X5_count {G : JG} (S : HS) (x : Nat) (A : Nat → Nat → Nat) (σ : Sg) (h : CI G x A σ S) (w : Int32) : Ct G yX5_count cX5_count 4 (some .int) 9 340 4 40 [.ref x, .int w] S (rI (fun r S' => S' = S ∧ ∃ j, j < 4 ∧ w = nI j ∧ r = cnV σ j (vn σ))) (fun E S' => E = eIO ∧ S' = S ∧ ¬ (0 ≤ w ∧ w < 4)) := by
  refine Ct.of (by decide) (Nat.le_of_ble_eq_true rfl) (fun X hC hT hin => ?_)
  obtain ⟨hs, hv, hr, ho, hp⟩ := h
  have n20 := hs.n20
  have loop : ∀ (j : Nat), j < 4 → w = nI j → ∀ (m i : Nat), vn σ - i < m → i ≤ vn σ → J X G (QQ X G (rI (fun r S' => S' = S ∧ ∃ j, j < 4 ∧ w = nI j ∧ r = cnV σ j (vn σ))) (fun E S' => E = eIO ∧ S' = S ∧ ¬ (0 ≤ w ∧ w < 4)) 4 40) 4 (0 + 1) (0 + 6) 9 [(3, .int (nI i)), (2, .int (cnV σ j i)), (0, .ref x), (1, .int w)] [] S := by
    intro j hj hw m
    induction m with
    | zero => intro i h; omega
    | succ m ih =>
    intro i hm hi
    refine J_iload_n 0 hC dX5_count_9 rfl rfl ?_
    refine J_aload_n 2 hC dX5_count_10 rfl rfl ?_
    refine fg_X5_35 hC hs.kx hs.pl dX5_count_11 ?_
    refine cl_X5_102 hC (c_size S (A 0 5) hs.kl) hs.kl (Nat.le_of_ble_eq_true rfl) ⟨⟨Nat.le_of_ble_eq_true rfl, Nat.le_of_ble_eq_true rfl⟩, Nat.le_of_ble_eq_true rfl, Nat.le_of_ble_eq_true rfl⟩ dX5_count_14 (fun r14 S14 e14 => ?_)
    obtain ⟨rfl, e14⟩ := e14
    subst S14
    refine J_topI hv.2.2.2.2.1 ?_
    refine J_icmp_ge 45 hC dX5_count_17 (by decide) (fun c17 => ?_) (fun c17 => ?_)
    · refine J_iload_n 1 hC dX5_count_45 rfl rfl ?_
      refine J_iretI hC dX5_count_46 (Nat.le_of_ble_eq_true rfl) (Nat.le_of_ble_eq_true rfl) ?_
      have e : i = vn σ := Nat.le_antisymm hi (Nat.not_lt.mp (fun q => absurd c17 (nI_ge q (by omega))))
      subst e
      exact ⟨rfl, j, hj, hw, rfl⟩
    · have hlt : i < vn σ := Nat.not_le.mp (fun q => c17 (nI_le q (by omega)))
      refine J_iload_n 1 hC dX5_count_20 rfl rfl ?_
      refine J_aload_n 2 hC dX5_count_21 rfl rfl ?_
      refine J_aload_n 2 hC dX5_count_22 rfl rfl ?_
      refine fg_X5_35 hC hs.kx hs.pl dX5_count_23 ?_
      refine J_iload_n 0 hC dX5_count_26 rfl rfl ?_
      refine cl_X5_179 hC (c_get S (A 0 5) (A 0 6) (vn σ) i (A 1 i) hs.kl hs.pe (hs.ked hlt) hv.2.2.2.2.1 hlt (hs.ned hlt) (hs.ned2 hlt) hs.n20 (hs.pg hlt)) hs.kl (Nat.le_of_ble_eq_true rfl) ⟨⟨Nat.le_of_ble_eq_true rfl, Nat.le_of_ble_eq_true rfl⟩, Nat.le_of_ble_eq_true rfl, Nat.le_of_ble_eq_true rfl⟩ dX5_count_27 (fun r27 S27 e27 => ?_)
      obtain ⟨rfl, e27⟩ := e27
      subst S27
      refine J_castT hC (hs.kg hlt) dX5_count_30 ?_
      refine J_iload_n 3 hC dX5_count_33 rfl rfl ?_
      refine J_topI hw ?_
      refine cl_X5_183 hC (c_X5_share S x A σ hs hv i j hlt hj) hs.kx (Nat.le_of_ble_eq_true rfl) ⟨⟨Nat.le_of_ble_eq_true rfl, Nat.le_of_ble_eq_true rfl⟩, Nat.le_of_ble_eq_true rfl, Nat.le_of_ble_eq_true rfl⟩ dX5_count_34 (fun r34 S34 e34 => ?_)
      obtain ⟨rfl, e34⟩ := e34
      subst S34
      refine J_iadd hC dX5_count_37 ?_
      refine J_istore_n (lv' := [(2, _), (3, _), (0, _), (1, _)]) hC dX5_count_38 rfl (by decide) rfl ?_
      refine J_iinc (lv' := [(3, _), (2, _), (0, _), (1, _)]) 1 hC dX5_count_39 rfl (nI_1 i) (by decide) rfl ?_
      refine J_goto 9 hC dX5_count_42 (by decide) ?_
      exact J_re [0, 1, 2, 3] rfl (ih (i + 1) (by omega) (by omega))
  refine J_iload_n 1 hC dX5_count_0 rfl rfl ?_
  refine J_iconst (v := 4) hC dX5_count_1 (by decide) ?_
  refine cl_X5_142 hC (c_X5_checkWhat S w 4) (Nat.le_of_ble_eq_true rfl) ⟨⟨Nat.le_of_ble_eq_true rfl, Nat.le_of_ble_eq_true rfl⟩, Nat.le_of_ble_eq_true rfl, Nat.le_of_ble_eq_true rfl⟩ dX5_count_2 (fun E S9 h9 => JT_out hC (fun z hz => (hT z hz).elim) (by obtain ⟨rfl, e9, n9⟩ := h9; subst e9; exact ⟨rfl, rfl, fun z => n9 z⟩) (Nat.le_of_ble_eq_true rfl) (Nat.le_of_ble_eq_true rfl)) (fun S2 e2 => ?_)
  obtain ⟨e2, g1, g2⟩ := e2
  subst S2
  obtain ⟨j, hj, rfl⟩ := (isTg_iff (n := 4) (by decide)).mpr ⟨g1, g2⟩
  refine J_iconst (v := 0) hC dX5_count_5 (by decide) ?_
  refine J_istore_n (lv' := [(2, _), (0, _), (1, _)]) hC dX5_count_6 rfl (by decide) rfl ?_
  refine J_iconst (v := 0) hC dX5_count_7 (by decide) ?_
  refine J_istore_n (lv' := [(3, _), (2, _), (0, _), (1, _)]) hC dX5_count_8 rfl (by decide) rfl ?_
  exact J_re [0, 1, 2, 3] rfl (loop j hj rfl (vn σ + 1) 0 (by omega) (by omega))

set_option maxHeartbeats 4000000 in
set_option maxRecDepth 100000 in
/-- beginNextNight -/
theorem c_X5_beginNextNight {G : JG} (S : HS) (x : Nat) (A : Nat → Nat → Nat) (σ : Sg) (hs : Shp G x A (vn σ) S) (hv : Vl x A σ S) (hr : Rng (nxt σ)) : Ct G yX5_beginNextNight cX5_beginNextNight 1 none 6 200 1 4 [.ref x] S (rV (fun S' => CS G x (nxt σ) S S')) noX := by
  refine Ct.of (by decide) (Nat.le_of_ble_eq_true rfl) (fun X hC hT hin => ?_)
  have nk : ∀ {q a n}, hK (sI S 4 x (vg σ 3 + 1)) q = 0 → hK S a = n → n ≠ 0 → a ≠ q := fun h1 h2 h3 z => h3 (by rw [← h2, z]; exact h1)
  refine J_aload_n 0 hC dX5_beginNextNight_0 rfl rfl ?_
  refine J_dup hC dX5_beginNextNight_1 rfl ?_
  refine fg_X5_172 hC hs.kx dX5_beginNextNight_2 ?_
  refine J_topI hv.2.2.1.2.2 ?_
  refine J_iconst (v := 1) hC dX5_beginNextNight_5 (by decide) ?_
  refine J_iadd hC dX5_beginNextNight_6 ?_
  refine fp_X5_172 hC hs.kx dX5_beginNextNight_7 ?_
  refine J_aload_n 0 hC dX5_beginNextNight_10 rfl rfl ?_
  refine nw_X5_7 hC (Nat.le_of_ble_eq_true rfl) (Nat.le_of_ble_eq_true rfl) dX5_beginNextNight_11 (fun q fq => ?_)
  have ptn := newAt.of (lab := 5) (n := 0) fq
  have hs1 := hs.sI (k := 4) (a := x) (v := vg σ 3 + 1)
  have hs2 : Shp G x A (vn σ) (sNew (sI S 4 x (vg σ 3 + 1)) q 5 0) := hs1.off (fun a ha => ⟨(ptn.old ha.1).1, (ptn.old ha.1).2.1, (ptn.old ha.1).2.2.2.1⟩)
  have hv1 := nit_step (v := vg σ 3 + 1) hs hv
  have hv2 : Vl x A (setG σ 3 (vg σ 3 + 1)) (sNew (sI S 4 x (vg σ 3 + 1)) q 5 0) := Vl.off (σ := setG σ 3 (vg σ 3 + 1)) hs1 hv1 (fun a ha => ⟨(ptn.old ha.1).2.2.1, (ptn.old ha.1).2.2.2.2.1⟩)
  refine J_dup hC dX5_beginNextNight_14 rfl ?_
  refine J_aload_n 0 hC dX5_beginNextNight_15 rfl rfl ?_
  refine fg_X5_18 hC hs2.kx hs2.pm dX5_beginNextNight_16 ?_
  refine fg_X5_220 hC hs2.km dX5_beginNextNight_19 ?_
  refine J_topI hv2.2.1.1 ?_
  refine J_bipush (v := 49) hC dX5_beginNextNight_22 (by decide) ?_
  refine J_iadd hC dX5_beginNextNight_24 ?_
  refine J_sipush (v := 1440) hC dX5_beginNextNight_25 (by decide) ?_
  refine J_irem hC dX5_beginNextNight_28 (by decide) ?_
  refine J_aload_n 0 hC dX5_beginNextNight_29 rfl rfl ?_
  refine fg_X5_18 hC hs2.kx hs2.pm dX5_beginNextNight_30 ?_
  refine fg_X5_57 hC hs2.km dX5_beginNextNight_33 ?_
  refine J_topI hv2.2.1.2.1 ?_
  refine cl_X5_9 hC (c_pt _ q _ _) (Nat.le_of_ble_eq_true rfl) ⟨⟨Nat.le_of_ble_eq_true rfl, Nat.le_of_ble_eq_true rfl⟩, Nat.le_of_ble_eq_true rfl, Nat.le_of_ble_eq_true rfl⟩ dX5_beginNextNight_36 (fun S36 e36 => ?_)
  subst S36
  have hs3 := pt_shp (v := im (vg σ 4 + 49) 1440) (w := vg σ 5) hs1 fq
  have hq4 := hs3.newpt pt_k (Or.inr rfl)
  have hv3 := pt_vl (σ := setG σ 3 (vg σ 3 + 1)) (v := im (vg σ 4 + 49) 1440) (w := vg σ 5) hs1 hv1 fq
  refine fp_X5_18 hC hs3.kx dX5_beginNextNight_39 ?_
  refine J_aload_n 0 hC dX5_beginNextNight_42 rfl rfl ?_
  refine J_aload_n 0 hC dX5_beginNextNight_43 rfl rfl ?_
  refine fg_X5_71 hC hq4.kx dX5_beginNextNight_44 ?_
  refine J_topI (show hI (sP (ptS (sI S 4 x (vg σ 3 + 1)) q (im (vg σ 4 + 49) 1440) (vg σ 5)) 1 x (some q)) 2 x = vg σ 6 from (hI_sP _ _ _ _ _ _).trans hv3.2.2.1.1) ?_
  refine J_iconst (v := 1) hC dX5_beginNextNight_47 (by decide) ?_
  refine J_iadd hC dX5_beginNextNight_48 ?_
  refine J_bipush (v := 30) hC dX5_beginNextNight_49 (by decide) ?_
  refine J_irem hC dX5_beginNextNight_51 (by decide) ?_
  refine fp_X5_71 hC hq4.kx dX5_beginNextNight_52 ?_
  have hq5 := hq4.sI (k := 2) (a := x) (v := im (vg σ 6 + 1) 30)
  refine J_aload_n 0 hC dX5_beginNextNight_55 rfl rfl ?_
  refine fg_X5_28 hC hq5.kx (show _ = some (A 0 2) from hq5.pc) dX5_beginNextNight_56 ?_
  refine J_iconst (v := 0) hC dX5_beginNextNight_59 (by decide) ?_
  have hcl0 : hK (sI (sP (ptS (sI S 4 x (vg σ 3 + 1)) q (im (vg σ 4 + 49) 1440) (vg σ 5)) 1 x (some q)) 2 x (im (vg σ 6 + 1) 30)) (A 0 2) = 2 := by have := hq5.kc; rw [show upA A 0 1 q 0 2 = A 0 2 from if_neg (by decide)] at this; exact this
  refine fp_X5_80 hC hcl0 dX5_beginNextNight_60 ?_
  obtain ⟨hn1, hn2, hn3⟩ := nx_step (v3 := vg σ 3 + 1) (v4 := im (vg σ 4 + 49) 1440) (d := vg σ 5) (v6 := im (vg σ 6 + 1) 30) hs hv fq
  have hn4 := nxt_cong hn2
  refine J_aload_n 0 hC dX5_beginNextNight_63 rfl rfl ?_
  refine cl_X5_60 hC (c_X5_forgetNight (nxS S x q (A 0 2) (vg σ 3 + 1) (im (vg σ 4 + 49) 1440) (vg σ 5) (im (vg σ 6 + 1) 30)) x (vn σ) (upA A 0 1 q) hn1 hn2.2.2.2.2.1) hn1.kx (Nat.le_of_ble_eq_true rfl) ⟨⟨Nat.le_of_ble_eq_true rfl, Nat.le_of_ble_eq_true rfl⟩, Nat.le_of_ble_eq_true rfl, Nat.le_of_ble_eq_true rfl⟩ dX5_beginNextNight_64 (fun S64 e64 => ?_)
  obtain ⟨I9, e9, hfn⟩ := e64
  subst e9
  exact J_vretI hC dX5_beginNextNight_67 (Nat.le_of_ble_eq_true rfl) (Nat.le_of_ble_eq_true rfl) (fn_CS (σ := nxt σ) hn3 hn1 hn4 hr hfn).2

theorem Rng.n3 {σ : Sg} (hr : Rng σ) : ∃ j, vg σ 3 = nI j ∧ j ≤ 60 := by
  obtain ⟨-, -, -, ⟨h1, h2⟩, -⟩ := hr
  obtain ⟨j, hj, e⟩ := nI_of (x := vg σ 3) (Int32.not_lt.mpr h1)
  rw [e] at h2
  exact ⟨j, e, (nI_leI (b := 60) hj (by decide)).mp h2⟩
theorem nI_sub {a b : Nat} (h : a ≤ b) (hb : b < 2147483648) : nI b - nI a = nI (b - a) := by
  have e : nI (b - a) + nI a = nI b := by rw [nI_add]; congr 1; omega
  rw [← e, Int32.add_sub_cancel]
theorem pass_m {σ : Sg} (hr : Rng σ) {w : Int32} (h1 : 1 ≤ w) (h2 : w ≤ 60 - vg σ 3) : ∃ m j, w = nI m ∧ vg σ 3 = nI j ∧ m + j ≤ 60 := by
  obtain ⟨j, e, hj⟩ := hr.n3
  obtain ⟨m, hm, e2⟩ := nI_of (x := w) (fun z => absurd (Int32.le_trans h1 (Int32.le_of_lt z)) (by decide))
  rw [e, show (60 : Int32) = nI 60 from rfl, nI_sub hj (by decide), e2] at h2
  have := (nI_leI hm (show 60 - j < 2147483648 by omega)).mp h2
  exact ⟨m, j, e2, e, by omega⟩
theorem nxN_lt {σ : Sg} {i j m : Nat} (e : vg σ 3 = nI j) (h : m + j ≤ 60) (hi : i < m) : vg (nxN σ i) 3 < 60 := by
  rw [nxN_3, e, nI_add]
  exact nI_lt (b := 60) (by omega) (by decide)

set_option maxHeartbeats 4000000 in
set_option maxRecDepth 100000 in
/-- observe -/
theorem c_X5_observe {G : JG} (S : HS) (x : Nat) (A : Nat → Nat → Nat) (σ : Sg) (h : CI G x A σ S) : Ct G yX5_observe cX5_observe 3 (some .int) 9 340 4 40 [.ref x] S (rI (fun r S' => vg σ 3 < 60 ∧ CS G x (obN σ) S S' ∧ r = nI (pS σ (plV σ)))) (fun E S' => E = eIS ∧ S' = S ∧ ¬ vg σ 3 < 60) := by
  refine Ct.of (by decide) (Nat.le_of_ble_eq_true rfl) (fun X hC hT hin => ?_)
  obtain ⟨hs, hv, hr, -, -⟩ := id h
  have n20 := hs.n20
  have loop : ∀ (m i : Nat) (T : HS), vg σ 3 < 60 → vn σ - i < m → i ≤ vn σ → Shp G x A (vn σ) T → Vl x A (obsV σ i) T → (∀ k, k < vn σ → hI T 11 (A 1 k) = zI (pU (plV σ) k)) → FrC S T → J X G (QQ X G (rI (fun r S' => vg σ 3 < 60 ∧ CS G x (obN σ) S S' ∧ r = nI (pS σ (plV σ)))) (fun E S' => E = eIS ∧ S' = S ∧ ¬ vg σ 3 < 60) 4 40) 3 0 0 33 [(2, .int (nI i)), (1, .int (nI (pS σ (plV σ)))), (0, .ref x)] [] T := by
    intro m
    induction m with
    | zero => intro i T _ h; omega
    | succ m ih =>
    intro i T h60 hm hi hs1 hv1 hu1 hf1
    refine J_iload_n 0 hC dX5_observe_33 rfl rfl ?_
    refine J_aload_n 2 hC dX5_observe_34 rfl rfl ?_
    refine fg_X5_35 hC hs1.kx hs1.pl dX5_observe_35 ?_
    refine cl_X5_102 hC (c_size T (A 0 5) hs1.kl) hs1.kl (Nat.le_of_ble_eq_true rfl) ⟨⟨Nat.le_of_ble_eq_true rfl, Nat.le_of_ble_eq_true rfl⟩, Nat.le_of_ble_eq_true rfl, Nat.le_of_ble_eq_true rfl⟩ dX5_observe_38 (fun r38 S38 e38 => ?_)
    obtain ⟨rfl, e38⟩ := e38
    subst S38
    refine J_topI (show _ = nI (vn σ) from hv1.2.2.2.2.1) ?_
    refine J_icmp_ge 68 hC dX5_observe_41 (by decide) (fun c41 => ?_) (fun c41 => ?_)
    · have e : i = vn σ := Nat.le_antisymm hi (Nat.not_lt.mp (fun q => absurd c41 (nI_ge q (by omega))))
      subst e
      refine J_aload_n 2 hC dX5_observe_68 rfl rfl ?_
      refine cl_X5_209 hC (c_X5_beginNextNight T x A (obsV σ (vn σ)) hs1 hv1 (obN_rng hr h60)) hs1.kx (Nat.le_of_ble_eq_true rfl) ⟨⟨Nat.le_of_ble_eq_true rfl, Nat.le_of_ble_eq_true rfl⟩, Nat.le_of_ble_eq_true rfl, Nat.le_of_ble_eq_true rfl⟩ dX5_observe_69 (fun S69 e69 => ?_)
      refine J_iload_n 1 hC dX5_observe_72 rfl rfl ?_
      exact J_iretI hC dX5_observe_73 (Nat.le_of_ble_eq_true rfl) (Nat.le_of_ble_eq_true rfl) ⟨h60, ⟨e69.1, hf1.trans e69.2⟩, rfl⟩
    · have hlt : i < vn σ := Nat.not_le.mp (fun q => c41 (nI_le q (by omega)))
      refine J_aload_n 2 hC dX5_observe_44 rfl rfl ?_
      refine fg_X5_35 hC hs1.kx hs1.pl dX5_observe_45 ?_
      refine J_iload_n 0 hC dX5_observe_48 rfl rfl ?_
      refine cl_X5_179 hC (c_get T (A 0 5) (A 0 6) (vn σ) i (A 1 i) hs1.kl hs1.pe (hs1.ked hlt) hv1.2.2.2.2.1 hlt (hs1.ned hlt) (hs1.ned2 hlt) hs1.n20 (hs1.pg hlt)) hs1.kl (Nat.le_of_ble_eq_true rfl) ⟨⟨Nat.le_of_ble_eq_true rfl, Nat.le_of_ble_eq_true rfl⟩, Nat.le_of_ble_eq_true rfl, Nat.le_of_ble_eq_true rfl⟩ dX5_observe_49 (fun r49 S49 e49 => ?_)
      obtain ⟨rfl, e49⟩ := e49
      subst S49
      refine J_castT hC (hs1.kg hlt) dX5_observe_52 ?_
      refine J_aload_n 2 hC dX5_observe_55 rfl rfl ?_
      refine fg_X5_172 hC hs1.kx dX5_observe_56 ?_
      refine J_topI (show _ = vg σ 3 from hv1.2.2.1.2.2) ?_
      refine cl_X5_206 hC (c_X4_takeVisit T (A 1 i) (vg σ 3) (hs1.kg hlt)) (hs1.kg hlt) (Nat.le_of_ble_eq_true rfl) ⟨⟨Nat.le_of_ble_eq_true rfl, Nat.le_of_ble_eq_true rfl⟩, Nat.le_of_ble_eq_true rfl, Nat.le_of_ble_eq_true rfl⟩ dX5_observe_59 (fun S59 e59 => ?_)
      have ht := take_step hs1 hv1 hlt hu1 e59
      refine J_iinc (lv' := [(2, _), (1, _), (0, _)]) 0 hC dX5_observe_62 rfl (nI_1 i) (by decide) rfl ?_
      refine J_goto 33 hC dX5_observe_65 (by decide) ?_
      exact J_re [0, 1, 2] rfl (ih (i + 1) S59 h60 (by omega) (by omega) ht.1 ht.2.1 ht.2.2.1 (hf1.trans ht.2.2.2))
  refine J_aload_n 0 hC dX5_observe_0 rfl rfl ?_
  refine fg_X5_172 hC hs.kx dX5_observe_1 ?_
  refine J_topI hv.2.2.1.2.2 ?_
  refine J_bipush (v := 60) hC dX5_observe_4 (by decide) ?_
  refine J_icmp_lt 19 hC dX5_observe_6 (by decide) (fun c6 => ?_) (fun c6 => ?_)
  · refine J_aload_n 0 hC dX5_observe_19 rfl rfl ?_
    refine cl_X5_187 hC (c_settle S x A σ h) hs.kx (Nat.le_of_ble_eq_true rfl) ⟨⟨Nat.le_of_ble_eq_true rfl, Nat.le_of_ble_eq_true rfl⟩, Nat.le_of_ble_eq_true rfl, Nat.le_of_ble_eq_true rfl⟩ dX5_observe_20 (fun S20 e20 => ?_)
    obtain ⟨hc1, hf1, hp1, ho1⟩ := e20
    have hs1 := hc1.1
    refine J_aload_n 0 hC dX5_observe_23 rfl rfl ?_
    refine fg_X5_42 hC hs1.kx hs1.pp dX5_observe_24 ?_
    refine fg_X5_190 hC hs1.kp dX5_observe_27 ?_
    refine J_topI hp1.1.2.2.2 ?_
    refine J_istore_n (lv' := [(1, _), (0, _)]) hC dX5_observe_30 rfl (by decide) rfl ?_
    refine J_iconst (v := 0) hC dX5_observe_31 (by decide) ?_
    refine J_istore_n (lv' := [(2, _), (1, _), (0, _)]) hC dX5_observe_32 rfl (by decide) rfl ?_
    exact J_re [0, 1, 2] rfl (loop (vn σ + 1) 0 S20 c6 (by omega) (by omega) hc1.1 (by rw [obsV_0]; exact hc1.2.1) hp1.1.2.2.1 hf1)
  · exact J_throwS hC hT (text := "it is the last night") (names := exN) fit_IS exN_ok (mG 295 (by decide +kernel) rfl) (mG 29 (by decide +kernel) rfl) (by decide +kernel) at_IS dX5_observe_9 dX5_observe_12 dX5_observe_13 dX5_observe_15 dX5_observe_18 (by decide) (Nat.le_of_ble_eq_true rfl) (Nat.le_of_ble_eq_true rfl) (Nat.le_of_ble_eq_true rfl) ⟨rfl, rfl, fun z => absurd z (Int32.not_lt.mpr (Int32.not_lt.mp c6))⟩
