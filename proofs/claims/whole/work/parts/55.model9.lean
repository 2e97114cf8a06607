/-! the model's addClouds, addTarget: printed by wip/whole/model9.py -/
def acW (B : Nat → Nat) (S : HS) (a i : Nat) (k j : Nat) : Int32 := if j = 9 ∧ a ≤ k ∧ k < i then 1 else hV S k (B j)
theorem ac_step {y : Nat} {B : Nat → Nat} {S T : HS} {a i : Nat} (h : mU S y B (acW B S a i) T) (ha : a ≤ i) : mU S y B (acW B S a (i + 1)) (sV T i (B 9) 1) := by
  have h2 := mU.sV (n := i) (i := 9) (v := 1) h rfl
  refine ⟨h2.1, h2.2.1, h2.2.2.1, fun j hj k => (h2.2.2.2 j hj k).trans ?_⟩
  unfold acW
  by_cases c : j = 9
  · subst c
    by_cases c2 : k = i
    · subst c2
      exact (up2_same _ _ _ _).trans (if_pos ⟨rfl, ha, by omega⟩).symm
    · refine (up2_nk c2).trans ?_
      have : (a ≤ k ∧ k < i + 1) ↔ (a ≤ k ∧ k < i) := by omega
      simp only [this]
  · exact (up2_na c).trans ((if_neg (fun z => c z.1)).trans (if_neg (fun z => c z.1)).symm)
theorem ac_end {y : Nat} {B : Nat → Nat} {σ : Sg} {S T : HS} {a b : Nat} (hv : MVl y B σ S) (h8 : vc σ < 8) (ha : a < 2147483648) (hb : b < 2147483648) (h : mU (sI S 8 y (nI (vc σ + 1))) y B (acW B (sI S 8 y (nI (vc σ + 1))) a (b + 1)) T) : MVl y B (addC σ (nI a) (nI b)) T := by
  obtain ⟨h1, h2, h3, h4⟩ := h
  obtain ⟨⟨v1, v2, v3, v4, v5, v6, v7, v8, v10⟩, w9, wt, w19, wc⟩ := hv
  refine ⟨⟨(h3 1).trans ((hI_nk (by decide)).trans v1), (h3 2).trans ((hI_nk (by decide)).trans v2), (h3 3).trans ((hI_nk (by decide)).trans v3), (h3 4).trans ((hI_nk (by decide)).trans v4), (h3 5).trans ((hI_nk (by decide)).trans v5), (h3 6).trans ((hI_nk (by decide)).trans v6), (h3 7).trans ((hI_nk (by decide)).trans v7), (h3 8).trans (hI_same _ _ _ _), (h3 10).trans ((hI_nk (by decide)).trans v10)⟩, fun t ht => (h4 9 rfl t).trans ?_, fun k hk j hj => (h4 (j + 11) (mIn_f hj) k).trans ?_, fun k p q => (h4 19 rfl k).trans ?_, (by show vc σ + 1 ≤ 8; omega)⟩
  · rw [cld_add]
    unfold acW
    by_cases c : a ≤ t ∧ t ≤ b
    · rw [if_pos ⟨rfl, c.1, by omega⟩, decide_eq_true ((nI_leI ha (by omega)).mpr c.1), decide_eq_true ((nI_leI (show t < 2147483648 by omega) hb).mpr c.2), Bool.and_self, Bool.or_true]
      rfl
    · rw [if_neg (fun z => c ⟨z.2.1, by omega⟩)]
      have : (decide (nI a ≤ nI t) && decide (nI t ≤ nI b)) = false := by
        cases e : (decide (nI a ≤ nI t) && decide (nI t ≤ nI b)) with
        | false => rfl
        | true =>
          rw [Bool.and_eq_true, decide_eq_true_eq, decide_eq_true_eq] at e
          exact (c ⟨(nI_leI ha (by omega)).mp e.1, (nI_leI (by omega) hb).mp e.2⟩).elim
      rw [this, Bool.or_false]
      exact w9 t ht
  · unfold acW
    rw [if_neg (fun z => absurd z.1 (by omega))]
    exact wt k hk j hj
  · unfold acW
    rw [if_neg (fun z => absurd z.1 (by decide))]
    exact w19 k p q
theorem in_c {σ : Sg} (hr : Rng σ) {w : Int32} : (0 ≤ w ∧ w ≤ vg σ 2 - 1) ↔ (0 ≤ w ∧ w < vg σ 2) := by
  have hln := hr.ln
  constructor
  · rintro ⟨h1, h2⟩
    refine ⟨h1, ?_⟩
    obtain ⟨j, hj, rfl⟩ := nI_of (Int32.not_lt.mpr h1)
    rw [hln.1, show (1 : Int32) = nI 1 from rfl, nI_sub (by omega) (by omega)] at h2
    have := (nI_leI hj (by omega)).mp h2
    rw [hln.1]
    exact nI_lt (by omega) (by omega)
  · rintro ⟨h1, h2⟩
    refine ⟨h1, ?_⟩
    obtain ⟨j, hj, rfl⟩ := nI_of (Int32.not_lt.mpr h1)
    rw [hln.1] at h2
    have := (nI_ltI hj (by omega)).mp h2
    rw [hln.1, show (1 : Int32) = nI 1 from rfl, nI_sub (by omega) (by omega)]
    exact nI_le (by omega) (by omega)

set_option maxHeartbeats 4000000 in
set_option maxRecDepth 100000 in
/-- addClouds -/
theorem c_X6_addClouds {G : JG} (S : HS) (y : Nat) (B : Nat → Nat) (σ : Sg) (h : MI y B σ S) (v w : Int32) : Ct G yX6_addClouds cX6_addClouds 5 (some .int) 10 400 300 2600 [.ref y, .int v, .int w] S (rI (fun r S' => ((0 ≤ v ∧ v ≤ w ∧ w < vg σ 2) ∧ vc σ < 8 ∧ r = clN (addC σ v w) (lnV σ) ∧ MX y B (addC σ v w) S S' 0) ∨ (¬ (0 ≤ v ∧ v ≤ w ∧ w < vg σ 2) ∧ MX y B σ S S' 1) ∨ ((0 ≤ v ∧ v ≤ w ∧ w < vg σ 2) ∧ vc σ = 8 ∧ MX y B σ S S' 2))) noX := by
  refine Ct.of (by decide) (Nat.le_of_ble_eq_true rfl) (fun X hC hT hin => ?_)
  obtain ⟨hs, hv, hr, hw⟩ := id h
  have n20 : vn σ ≤ 20 := hr.2.2.2.2.2.2.2.1
  have h1 := h.thr (v := 0)
  have hs1 := h1.1
  have hv1 := h1.2.1
  have hln := hr.ln
  have loop2 : ∀ (T : HS), (0 ≤ v ∧ v ≤ w ∧ w < vg σ 2) → vc σ < 8 → MX y B (addC σ v w) S T 0 → ∀ (n t : Nat), lnV σ - t < n → t ≤ lnV σ → J X G (QQ X G (rI (fun r S' => ((0 ≤ v ∧ v ≤ w ∧ w < vg σ 2) ∧ vc σ < 8 ∧ r = clN (addC σ v w) (lnV σ) ∧ MX y B (addC σ v w) S S' 0) ∨ (¬ (0 ≤ v ∧ v ≤ w ∧ w < vg σ 2) ∧ MX y B σ S S' 1) ∨ ((0 ≤ v ∧ v ≤ w ∧ w < vg σ 2) ∧ vc σ = 8 ∧ MX y B σ S S' 2))) noX 300 2600) 5 0 0 83 [(4, .int (nI t)), (3, .int (clN (addC σ v w) t)), (0, .ref y)] [] T := by
    intro T hcs h8 hmx n
    have hsT := hmx.1.1
    have hvT := hmx.1.2.1
    induction n with
    | zero => intro t h; omega
    | succ n ih =>
      intro t hn ht
      refine J_iload 0 hC dX6_addClouds_83 rfl ?_
      refine J_aload_n 2 hC dX6_addClouds_85 rfl rfl ?_
      refine fg_X6_7 hC hsT.ky dX6_addClouds_86 ?_
      refine J_topI (show _ = nI (lnV σ) from hvT.1.2.1.trans hln.1) ?_
      refine J_icmp_ge 116 hC dX6_addClouds_89 (by decide) (fun c89 => ?_) (fun c89 => ?_)
      · refine J_iload_n 1 hC dX6_addClouds_116 rfl rfl ?_
        exact J_iretI hC dX6_addClouds_117 (Nat.le_of_ble_eq_true rfl) (Nat.le_of_ble_eq_true rfl) (Or.inl ⟨hcs, h8, by rw [show t = lnV σ from Nat.le_antisymm ht (Nat.not_lt.mp (fun q => absurd c89 (nI_ge q (by omega))))], hmx⟩)
      · have hlt : t < lnV σ := Nat.not_le.mp (fun q => c89 (nI_le q (by omega)))
        refine J_iload_n 1 hC dX6_addClouds_92 rfl rfl ?_
        refine J_aload_n 2 hC dX6_addClouds_93 rfl rfl ?_
        refine fg_X6_16 hC hsT.ky (hsT.p 9 rfl) dX6_addClouds_94 ?_
        refine J_iload 0 hC dX6_addClouds_97 rfl ?_
        refine J_zald hC (hsT.k 9 rfl) rfl (inN (hsT.n 9 rfl) (vp_in_nI (show t < 900 by omega) (by decide))) dX6_addClouds_99 ?_
        refine J_topI (show _ = zI (cldV (addC σ v w) (nI t)) by rw [nI_clamp (by omega)]; exact hvT.2.1 t (by omega)) ?_
        refine J_if_eq 107 hC dX6_addClouds_100 (by decide) (fun c100 => ?_) (fun c100 => ?_)
        · refine J_iconst (v := 1) hC dX6_addClouds_107 (by decide) ?_
          refine J_iadd hC dX6_addClouds_108 ?_
          refine J_istore_n (lv' := [(3, _), (4, _), (0, _)]) hC dX6_addClouds_109 rfl (by decide) rfl ?_
          refine J_iinc (lv' := [(4, _), (3, _), (0, _)]) 1 hC dX6_addClouds_110 rfl (nI_1 t) (by decide) rfl ?_
          refine J_goto 83 hC dX6_addClouds_113 (by decide) ?_
          have e9 : clN (addC σ v w) t + 1 = clN (addC σ v w) (t + 1) := by rw [clN, if_neg (zI_eq c100)]
          rw [e9]
          exact J_re [0, 1, 2] rfl (ih (t + 1) (by omega) (by omega))
        · refine J_iconst (v := 0) hC dX6_addClouds_103 (by decide) ?_
          refine J_goto 108 hC dX6_addClouds_104 (by decide) ?_
          refine J_iadd hC dX6_addClouds_108 ?_
          refine J_istore_n (lv' := [(3, _), (4, _), (0, _)]) hC dX6_addClouds_109 rfl (by decide) rfl ?_
          refine J_iinc (lv' := [(4, _), (3, _), (0, _)]) 1 hC dX6_addClouds_110 rfl (nI_1 t) (by decide) rfl ?_
          refine J_goto 83 hC dX6_addClouds_113 (by decide) ?_
          have e9 : clN (addC σ v w) t + 0 = clN (addC σ v w) (t + 1) := by rw [clN, if_pos (zI_ne c100)]
          rw [e9]
          exact J_re [0, 1, 2] rfl (ih (t + 1) (by omega) (by omega))
  have loop1 : ∀ (a b : Nat), v = nI a → w = nI b → a ≤ b → b < lnV σ → (0 ≤ v ∧ v ≤ w ∧ w < vg σ 2) → vc σ < 8 → ∀ (n i : Nat) (T : HS), b + 1 - i < n → a ≤ i → i ≤ b + 1 → mU (sI (sI S 0 y 0) 8 y (nI (vc σ + 1))) y B (acW B (sI (sI S 0 y 0) 8 y (nI (vc σ + 1))) a i) T → J X G (QQ X G (rI (fun r S' => ((0 ≤ v ∧ v ≤ w ∧ w < vg σ 2) ∧ vc σ < 8 ∧ r = clN (addC σ v w) (lnV σ) ∧ MX y B (addC σ v w) S S' 0) ∨ (¬ (0 ≤ v ∧ v ≤ w ∧ w < vg σ 2) ∧ MX y B σ S S' 1) ∨ ((0 ≤ v ∧ v ≤ w ∧ w < vg σ 2) ∧ vc σ = 8 ∧ MX y B σ S S' 2))) noX 300 2600) 5 0 0 55 [(3, .int (nI i)), (0, .ref y), (1, .int v), (2, .int (nI b))] [] T := by
    intro a b hva hwb hab hbL hcs h8 n
    induction n with
    | zero => intro i T h; omega
    | succ n ih =>
      intro i T hn hai hi hI0
      have hsT := hI0.1
      refine J_iload_n 0 hC dX6_addClouds_55 rfl rfl ?_
      refine J_iload_n 3 hC dX6_addClouds_56 rfl rfl ?_
      refine J_icmp_gt 73 hC dX6_addClouds_57 (by decide) (fun c57 => ?_) (fun c57 => ?_)
      · have e1 : i = b + 1 := by have := (nI_ltI (show b < 2147483648 by omega) (show i < 2147483648 by omega)).mp c57; omega
        rw [e1] at hI0
        have hvm := ac_end hv1 h8 (show a < 2147483648 by omega) (show b < 2147483648 by omega) hI0
        rw [← hva, ← hwb] at hvm
        have hmx : MX y B (addC σ v w) S (sI T 21 y 0) 0 := ⟨MI.of0 hsT hvm (hr.cong hr.1 hr.2.1 hr.2.2.1 hr.2.2.2.1 (Int32.le_refl _) hr.2.2.2.2.1 hr.2.2.2.2.2.1 hr.2.2.2.2.2.2.1 rfl rfl), frm_thr ((frm_thr (mx_0 h).2.1 hs1).trans hI0.2.1) hsT, (hI_nk (by decide)).trans ((hI0.2.2.1 0).trans ((hI_nk (by decide)).trans (hI_same _ _ _ _)))⟩
        refine J_aload_n 1 hC dX6_addClouds_73 rfl rfl ?_
        refine J_iconst (v := 0) hC dX6_addClouds_74 (by decide) ?_
        refine fp_X6_123 hC hsT.ky ⟨rfl, rfl⟩ dX6_addClouds_75 ?_
        refine J_iconst (v := 0) hC dX6_addClouds_78 (by decide) ?_
        refine J_istore_n (lv' := [(3, _), (0, _), (1, _), (2, _)]) hC dX6_addClouds_79 rfl (by decide) rfl ?_
        refine J_iconst (v := 0) hC dX6_addClouds_80 (by decide) ?_
        refine J_istore (lv' := [(4, _), (3, _), (0, _), (1, _), (2, _)]) hC dX6_addClouds_81 (by decide) rfl ?_
        exact J_re [0, 1, 2] rfl (loop2 _ hcs h8 hmx (lnV σ + 1) 0 (by omega) (by omega))
      · have hib : i ≤ b := Nat.not_lt.mp (fun q => c57 (nI_lt q (by omega)))
        refine J_aload_n 1 hC dX6_addClouds_60 rfl rfl ?_
        refine fg_X6_16 hC hsT.ky (hsT.p 9 rfl) dX6_addClouds_61 ?_
        refine J_iload_n 0 hC dX6_addClouds_64 rfl rfl ?_
        refine J_iconst (v := 1) hC dX6_addClouds_65 (by decide) ?_
        refine J_zast hC (hsT.k 9 rfl) rfl (inN (hsT.n 9 rfl) (vp_in_nI (show i < 900 by omega) (by decide))) dX6_addClouds_66 ?_
        rw [nI_clamp (show i < 2147483648 by omega), show vp_nar .boolean 1 = 1 from rfl]
        refine J_iinc (lv' := [(3, _), (0, _), (1, _), (2, _)]) 0 hC dX6_addClouds_67 rfl (nI_1 i) (by decide) rfl ?_
        refine J_goto 55 hC dX6_addClouds_70 (by decide) ?_
        exact J_re [0, 1, 2, 3] rfl (ih (i + 1) _ (by omega) (by omega) (by omega) (ac_step hI0 hai))
  refine J_aload_n 0 hC dX6_addClouds_0 rfl rfl ?_
  refine J_iconst (v := 0) hC dX6_addClouds_1 (by decide) ?_
  refine fp_X6_60 hC hs.ky dX6_addClouds_2 ?_
  refine J_iload_n 1 hC dX6_addClouds_5 rfl rfl ?_
  refine J_if_lt 22 hC dX6_addClouds_6 (by decide) (fun c6 => ?_) (fun c6 => ?_)
  · refine J_aload_n 0 hC dX6_addClouds_22 rfl rfl ?_
    refine J_iconst (v := 1) hC dX6_addClouds_23 (by decide) ?_
    refine cl_X6_149 hC (c_X6_no _ y _ hs1.ky) hs1.ky (Nat.le_of_ble_eq_true rfl) ⟨⟨Nat.le_of_ble_eq_true rfl, Nat.le_of_ble_eq_true rfl⟩, Nat.le_of_ble_eq_true rfl, Nat.le_of_ble_eq_true rfl⟩ dX6_addClouds_24 (fun r24 S24 e24 => ?_)
    obtain ⟨rfl, e24⟩ := e24
    subst S24
    exact J_iretI hC dX6_addClouds_27 (Nat.le_of_ble_eq_true rfl) (Nat.le_of_ble_eq_true rfl) (Or.inr (Or.inl ⟨fun z => absurd z.1 (Int32.not_le.mpr c6), mx_no h⟩))
  · refine J_iload_n 1 hC dX6_addClouds_9 rfl rfl ?_
    refine J_iload_n 2 hC dX6_addClouds_10 rfl rfl ?_
    refine J_icmp_gt 22 hC dX6_addClouds_11 (by decide) (fun c11 => ?_) (fun c11 => ?_)
    · refine J_aload_n 0 hC dX6_addClouds_22 rfl rfl ?_
      refine J_iconst (v := 1) hC dX6_addClouds_23 (by decide) ?_
      refine cl_X6_149 hC (c_X6_no _ y _ hs1.ky) hs1.ky (Nat.le_of_ble_eq_true rfl) ⟨⟨Nat.le_of_ble_eq_true rfl, Nat.le_of_ble_eq_true rfl⟩, Nat.le_of_ble_eq_true rfl, Nat.le_of_ble_eq_true rfl⟩ dX6_addClouds_24 (fun r24 S24 e24 => ?_)
      obtain ⟨rfl, e24⟩ := e24
      subst S24
      exact J_iretI hC dX6_addClouds_27 (Nat.le_of_ble_eq_true rfl) (Nat.le_of_ble_eq_true rfl) (Or.inr (Or.inl ⟨fun z => absurd z.2.1 (Int32.not_le.mpr c11), mx_no h⟩))
    · refine J_aload_n 0 hC dX6_addClouds_14 rfl rfl ?_
      refine J_iload_n 2 hC dX6_addClouds_15 rfl rfl ?_
      refine cl_X6_156 hC (c_X6_isMinute _ y B σ hs1 hv1 hr _) hs1.ky (Nat.le_of_ble_eq_true rfl) ⟨⟨Nat.le_of_ble_eq_true rfl, Nat.le_of_ble_eq_true rfl⟩, Nat.le_of_ble_eq_true rfl, Nat.le_of_ble_eq_true rfl⟩ dX6_addClouds_16 (fun r16 S16 e16 => ?_)
      obtain ⟨rfl, e16⟩ := e16
      subst S16
      refine J_if_ne 28 hC dX6_addClouds_19 (by decide) (fun c19 => ?_) (fun c19 => ?_)
      · have hcs : 0 ≤ v ∧ v ≤ w ∧ w < vg σ 2 := ⟨Int32.not_lt.mp c6, Int32.not_lt.mp c11, ((in_c hr).mp (bI_ne c19)).2⟩
        refine J_aload_n 0 hC dX6_addClouds_28 rfl rfl ?_
        refine fg_X6_159 hC hs1.ky dX6_addClouds_29 ?_
        refine J_topI hv1.1.2.2.2.2.2.2.2.1 ?_
        refine J_bipush (v := 8) hC dX6_addClouds_32 (by decide) ?_
        refine J_icmp_ne 43 hC dX6_addClouds_34 (by decide) (fun c34 => ?_) (fun c34 => ?_)
        · have h8 : vc σ < 8 := by have h9 := hv.2.2.2.2; rcases Nat.lt_or_ge (vc σ) 8 with z | z; exact z; exact (c34 (by rw [show vc σ = 8 by omega]; rfl)).elim
          obtain ⟨a, ha, hva⟩ := nI_of (x := v) (Int32.not_lt.mpr hcs.1)
          obtain ⟨b, hb, hwb⟩ := nI_of (x := w) (Int32.not_lt.mpr (Int32.le_trans hcs.1 hcs.2.1))
          have hab : a ≤ b := (nI_leI ha hb).mp (by rw [← hva, ← hwb]; exact hcs.2.1)
          have hbL : b < lnV σ := (nI_ltI hb (by omega)).mp (by rw [← hwb, ← hln.1]; exact hcs.2.2)
          refine J_aload_n 0 hC dX6_addClouds_43 rfl rfl ?_
          refine J_dup hC dX6_addClouds_44 rfl ?_
          refine fg_X6_159 hC hs1.ky dX6_addClouds_45 ?_
          refine J_topI hv1.1.2.2.2.2.2.2.2.1 ?_
          refine J_iconst (v := 1) hC dX6_addClouds_48 (by decide) ?_
          refine J_iadd hC dX6_addClouds_49 ?_
          rw [nI_1]
          refine fp_X6_159 hC hs1.ky dX6_addClouds_50 ?_
          refine J_iload_n 1 hC dX6_addClouds_53 rfl rfl ?_
          refine J_istore_n (lv' := [(3, _), (0, _), (1, _), (2, _)]) hC dX6_addClouds_54 rfl (by decide) rfl ?_
          refine J_re [0, 1, 2, 3] rfl (J_eqL (show [(3, Value.int v), (0, Value.ref y), (1, Value.int v), (2, Value.int w)] = [(3, Value.int (nI a)), (0, Value.ref y), (1, Value.int v), (2, Value.int (nI b))] by rw [← hva, ← hwb]) (loop1 a b hva hwb hab hbL hcs h8 (b + 2) a _ (by omega) (Nat.le_refl _) (by omega) ⟨hs1.sI, FrM.rfl, fun _ => rfl, fun j hj k => (if_neg (fun z => absurd z.2 (by omega))).symm⟩))
        · refine J_aload_n 0 hC dX6_addClouds_37 rfl rfl ?_
          refine J_iconst (v := 2) hC dX6_addClouds_38 (by decide) ?_
          refine cl_X6_149 hC (c_X6_no _ y _ hs1.ky) hs1.ky (Nat.le_of_ble_eq_true rfl) ⟨⟨Nat.le_of_ble_eq_true rfl, Nat.le_of_ble_eq_true rfl⟩, Nat.le_of_ble_eq_true rfl, Nat.le_of_ble_eq_true rfl⟩ dX6_addClouds_39 (fun r39 S39 e39 => ?_)
          obtain ⟨rfl, e39⟩ := e39
          subst S39
          exact J_iretI hC dX6_addClouds_42 (Nat.le_of_ble_eq_true rfl) (Nat.le_of_ble_eq_true rfl) (Or.inr (Or.inr ⟨hcs, nI_inj (show vc σ < 2147483648 by have := hv.2.2.2.2; omega) (show 8 < 2147483648 by decide) c34, mx_no h⟩))
      · refine J_aload_n 0 hC dX6_addClouds_22 rfl rfl ?_
        refine J_iconst (v := 1) hC dX6_addClouds_23 (by decide) ?_
        refine cl_X6_149 hC (c_X6_no _ y _ hs1.ky) hs1.ky (Nat.le_of_ble_eq_true rfl) ⟨⟨Nat.le_of_ble_eq_true rfl, Nat.le_of_ble_eq_true rfl⟩, Nat.le_of_ble_eq_true rfl, Nat.le_of_ble_eq_true rfl⟩ dX6_addClouds_24 (fun r24 S24 e24 => ?_)
        obtain ⟨rfl, e24⟩ := e24
        subst S24
        exact J_iretI hC dX6_addClouds_27 (Nat.le_of_ble_eq_true rfl) (Nat.le_of_ble_eq_true rfl) (Or.inr (Or.inl ⟨fun z => bI_eq c19 ((in_c hr).mpr ⟨Int32.le_trans z.1 z.2.1, z.2.2⟩), mx_no h⟩))

theorem addt_m {y : Nat} {B : Nat → Nat} {σ : Sg} {S : HS} {u v f w m : Int32} (h : MI y B σ S) (hn : vn σ < 20) (hrm : Rng (addT σ u v f w m)) : MX y B (addT σ u v f w m) S (sI (sI (sV (sV (sV (sV (sV (sV (sV (sV (sV (sI S 0 y 0) (vn σ) (B 11) u) (vn σ) (B 12) v) (vn σ) (B 13) f) (vn σ) (B 14) w) (vn σ) (B 15) 300) (vn σ) (B 16) m) (vn σ) (B 17) 1) (vn σ) (B 18) 1) (vn σ) (B 20) (-1)) 10 y (nI (vn σ + 1))) 21 y 0) 0 := by
  have h1 := h.thr (v := 0)
  obtain ⟨hs, hv, hr, -⟩ := id h1
  have hu := (mU.sV (n := vn σ) (i := 20) (v := (-1)) (mU.sV (n := vn σ) (i := 18) (v := 1) (mU.sV (n := vn σ) (i := 17) (v := 1) (mU.sV (n := vn σ) (i := 16) (v := m) (mU.sV (n := vn σ) (i := 15) (v := 300) (mU.sV (n := vn σ) (i := 14) (v := w) (mU.sV (n := vn σ) (i := 13) (v := f) (mU.sV (n := vn σ) (i := 12) (v := v) (mU.sV (n := vn σ) (i := 11) (v := u) (mU.rfl hs) rfl) rfl) rfl) rfl) rfl) rfl) rfl) rfl) rfl)
  have hs2 := hu.1
  have hvm : MVl y B (addT σ u v f w m) (sI (sV (sV (sV (sV (sV (sV (sV (sV (sV (sI S 0 y 0) (vn σ) (B 11) u) (vn σ) (B 12) v) (vn σ) (B 13) f) (vn σ) (B 14) w) (vn σ) (B 15) 300) (vn σ) (B 16) m) (vn σ) (B 17) 1) (vn σ) (B 18) 1) (vn σ) (B 20) (-1)) 10 y (nI (vn σ + 1))) := by
    obtain ⟨⟨v1, v2, v3, v4, v5, v6, v7, v8, v10⟩, -⟩ := id hv
    have e := hu.2.2.1
    refine ⟨⟨(hI_nk (by decide)).trans ((e 1).trans v1), (hI_nk (by decide)).trans ((e 2).trans v2), (hI_nk (by decide)).trans ((e 3).trans v3), (hI_nk (by decide)).trans ((e 4).trans v4), (hI_nk (by decide)).trans ((e 5).trans v5), (hI_nk (by decide)).trans ((e 6).trans v6), (hI_nk (by decide)).trans ((e 7).trans v7), (hI_nk (by decide)).trans ((e 8).trans v8), hI_same _ _ _ _⟩, fun t ht => (hu.2.2.2 9 rfl t).trans ?_, fun k hk j hj => (hu.2.2.2 (j + 11) (mIn_f hj) k).trans ?_, fun k a b => (hu.2.2.2 19 rfl k).trans ?_, hv.2.2.2.2⟩
    · exact (up2_na (by decide)).trans ((up2_na (by decide)).trans ((up2_na (by decide)).trans ((up2_na (by decide)).trans ((up2_na (by decide)).trans ((up2_na (by decide)).trans ((up2_na (by decide)).trans ((up2_na (by decide)).trans ((up2_na (by decide)).trans (hv.2.1 t ht)))))))))
    · have hk1 : k < vn σ + 1 := hk
      by_cases c : k = vn σ
      · subst c
        have ev : vt (addT σ u v f w m) (vn σ) j = ntF u v f w m j := if_pos rfl
        rw [ev]
        rcases (show j = 0 ∨ j = 1 ∨ j = 2 ∨ j = 3 ∨ j = 4 ∨ j = 5 ∨ j = 6 ∨ j = 7 ∨ j = 8 ∨ j = 9 by omega) with rfl | rfl | rfl | rfl | rfl | rfl | rfl | rfl | rfl | rfl
        · exact (up2_na (by decide)).trans ((up2_na (by decide)).trans ((up2_na (by decide)).trans ((up2_na (by decide)).trans ((up2_na (by decide)).trans ((up2_na (by decide)).trans ((up2_na (by decide)).trans ((up2_na (by decide)).trans (up2_same _ _ _ _))))))))
        · exact (up2_na (by decide)).trans ((up2_na (by decide)).trans ((up2_na (by decide)).trans ((up2_na (by decide)).trans ((up2_na (by decide)).trans ((up2_na (by decide)).trans ((up2_na (by decide)).trans (up2_same _ _ _ _)))))))
        · exact (up2_na (by decide)).trans ((up2_na (by decide)).trans ((up2_na (by decide)).trans ((up2_na (by decide)).trans ((up2_na (by decide)).trans ((up2_na (by decide)).trans (up2_same _ _ _ _))))))
        · exact (up2_na (by decide)).trans ((up2_na (by decide)).trans ((up2_na (by decide)).trans ((up2_na (by decide)).trans ((up2_na (by decide)).trans (up2_same _ _ _ _)))))
        · exact (up2_na (by decide)).trans ((up2_na (by decide)).trans ((up2_na (by decide)).trans ((up2_na (by decide)).trans (up2_same _ _ _ _))))
        · exact (up2_na (by decide)).trans ((up2_na (by decide)).trans ((up2_na (by decide)).trans (up2_same _ _ _ _)))
        · exact (up2_na (by decide)).trans ((up2_na (by decide)).trans (up2_same _ _ _ _))
        · exact (up2_na (by decide)).trans (up2_same _ _ _ _)
        · exact (up2_na (by decide)).trans ((up2_na (by decide)).trans ((up2_na (by decide)).trans ((up2_na (by decide)).trans ((up2_na (by decide)).trans ((up2_na (by decide)).trans ((up2_na (by decide)).trans ((up2_na (by decide)).trans ((up2_na (by decide)).trans (hv.2.2.2.1 (vn σ) (Nat.le_refl _) (by omega))))))))))
        · exact up2_same _ _ _ _
      · have ev : vt (addT σ u v f w m) k j = vt σ k j := if_neg c
        rw [ev]
        exact (up2_nk c).trans ((up2_nk c).trans ((up2_nk c).trans ((up2_nk c).trans ((up2_nk c).trans ((up2_nk c).trans ((up2_nk c).trans ((up2_nk c).trans ((up2_nk c).trans (hv.2.2.1 k (by omega) j hj)))))))))
    · have a' : vn σ + 1 ≤ k := a
      exact (up2_na (by decide)).trans ((up2_na (by decide)).trans ((up2_na (by decide)).trans ((up2_na (by decide)).trans ((up2_na (by decide)).trans ((up2_na (by decide)).trans ((up2_na (by decide)).trans ((up2_na (by decide)).trans ((up2_na (by decide)).trans (hv.2.2.2.1 k (by omega) b)))))))))
  refine ⟨MI.of0 hs2.sI hvm hrm, frm_thr (frm_thr ((mx_0 h).2.1.trans hu.2.1) hs2) hs2.sI, (hI_nk (by decide)).trans ((hI_nk (by decide)).trans ((hu.2.2.1 0).trans (hI_same _ _ _ _)))⟩

set_option maxHeartbeats 4000000 in
set_option maxRecDepth 100000 in
/-- addTarget -/
theorem c_X6_addTarget {G : JG} (S : HS) (y : Nat) (B : Nat → Nat) (σ : Sg) (h : MI y B σ S) (u v f w m : Int32) : Ct G yX6_addTarget cX6_addTarget 6 (some .int) 10 400 300 2600 [.ref y, .int u, .int v, .int f, .int w, .int m] S (rI (fun r S' => ((((0 ≤ u ∧ u ≤ 1439) ∧ (-90 ≤ v ∧ v ≤ 90)) ∧ (0 ≤ f ∧ f ≤ 3) ∧ (1 ≤ w ∧ w ≤ 9) ∧ (5 ≤ m ∧ m ≤ 120)) ∧ vn σ < 20 ∧ r = nI (vn σ) ∧ MX y B (addT σ u v f w m) S S' 0) ∨ (¬ (((0 ≤ u ∧ u ≤ 1439) ∧ (-90 ≤ v ∧ v ≤ 90)) ∧ (0 ≤ f ∧ f ≤ 3) ∧ (1 ≤ w ∧ w ≤ 9) ∧ (5 ≤ m ∧ m ≤ 120)) ∧ MX y B σ S S' 1) ∨ ((((0 ≤ u ∧ u ≤ 1439) ∧ (-90 ≤ v ∧ v ≤ 90)) ∧ (0 ≤ f ∧ f ≤ 3) ∧ (1 ≤ w ∧ w ≤ 9) ∧ (5 ≤ m ∧ m ≤ 120)) ∧ vn σ = 20 ∧ MX y B σ S S' 2))) noX := by
  refine Ct.of (by decide) (Nat.le_of_ble_eq_true rfl) (fun X hC hT hin => ?_)
  obtain ⟨hs, hv, hr, hw⟩ := id h
  have n20 : vn σ ≤ 20 := hr.2.2.2.2.2.2.2.1
  have h1 := h.thr (v := 0)
  have hs1 := h1.1
  have hv1 := h1.2.1
  refine J_aload_n 0 hC dX6_addTarget_0 rfl rfl ?_
  refine J_iconst (v := 0) hC dX6_addTarget_1 (by decide) ?_
  refine fp_X6_60 hC hs.ky dX6_addTarget_2 ?_
  refine J_iload_n 1 hC dX6_addTarget_5 rfl rfl ?_
  refine J_iload_n 2 hC dX6_addTarget_6 rfl rfl ?_
  refine cl_X6_152 hC (c_X6_isPoint _ _ _) (Nat.le_of_ble_eq_true rfl) ⟨⟨Nat.le_of_ble_eq_true rfl, Nat.le_of_ble_eq_true rfl⟩, Nat.le_of_ble_eq_true rfl, Nat.le_of_ble_eq_true rfl⟩ dX6_addTarget_7 (fun r7 S7 e7 => ?_)
  obtain ⟨rfl, e7⟩ := e7
  subst S7
  refine J_if_eq 44 hC dX6_addTarget_10 (by decide) (fun c10 => ?_) (fun c10 => ?_)
  · refine J_aload_n 0 hC dX6_addTarget_44 rfl rfl ?_
    refine J_iconst (v := 1) hC dX6_addTarget_45 (by decide) ?_
    refine cl_X6_149 hC (c_X6_no _ y _ hs1.ky) hs1.ky (Nat.le_of_ble_eq_true rfl) ⟨⟨Nat.le_of_ble_eq_true rfl, Nat.le_of_ble_eq_true rfl⟩, Nat.le_of_ble_eq_true rfl, Nat.le_of_ble_eq_true rfl⟩ dX6_addTarget_46 (fun r46 S46 e46 => ?_)
    obtain ⟨rfl, e46⟩ := e46
    subst S46
    exact J_iretI hC dX6_addTarget_49 (Nat.le_of_ble_eq_true rfl) (Nat.le_of_ble_eq_true rfl) (Or.inr (Or.inl ⟨fun z => bI_eq c10 z.1, mx_no h⟩))
  · refine J_iload_n 3 hC dX6_addTarget_13 rfl rfl ?_
    refine J_iconst (v := 0) hC dX6_addTarget_14 (by decide) ?_
    refine J_iconst (v := 3) hC dX6_addTarget_15 (by decide) ?_
    refine cl_X6_66 hC (c_X6_isIn _ _ _ _) (Nat.le_of_ble_eq_true rfl) ⟨⟨Nat.le_of_ble_eq_true rfl, Nat.le_of_ble_eq_true rfl⟩, Nat.le_of_ble_eq_true rfl, Nat.le_of_ble_eq_true rfl⟩ dX6_addTarget_16 (fun r16 S16 e16 => ?_)
    obtain ⟨rfl, e16⟩ := e16
    subst S16
    refine J_if_eq 44 hC dX6_addTarget_19 (by decide) (fun c19 => ?_) (fun c19 => ?_)
    · refine J_aload_n 0 hC dX6_addTarget_44 rfl rfl ?_
      refine J_iconst (v := 1) hC dX6_addTarget_45 (by decide) ?_
      refine cl_X6_149 hC (c_X6_no _ y _ hs1.ky) hs1.ky (Nat.le_of_ble_eq_true rfl) ⟨⟨Nat.le_of_ble_eq_true rfl, Nat.le_of_ble_eq_true rfl⟩, Nat.le_of_ble_eq_true rfl, Nat.le_of_ble_eq_true rfl⟩ dX6_addTarget_46 (fun r46 S46 e46 => ?_)
      obtain ⟨rfl, e46⟩ := e46
      subst S46
      exact J_iretI hC dX6_addTarget_49 (Nat.le_of_ble_eq_true rfl) (Nat.le_of_ble_eq_true rfl) (Or.inr (Or.inl ⟨fun z => bI_eq c19 z.2.1, mx_no h⟩))
    · refine J_iload 4 hC dX6_addTarget_22 rfl ?_
      refine J_iconst (v := 1) hC dX6_addTarget_24 (by decide) ?_
      refine J_bipush (v := 9) hC dX6_addTarget_25 (by decide) ?_
      refine cl_X6_66 hC (c_X6_isIn _ _ _ _) (Nat.le_of_ble_eq_true rfl) ⟨⟨Nat.le_of_ble_eq_true rfl, Nat.le_of_ble_eq_true rfl⟩, Nat.le_of_ble_eq_true rfl, Nat.le_of_ble_eq_true rfl⟩ dX6_addTarget_27 (fun r27 S27 e27 => ?_)
      obtain ⟨rfl, e27⟩ := e27
      subst S27
      refine J_if_eq 44 hC dX6_addTarget_30 (by decide) (fun c30 => ?_) (fun c30 => ?_)
      · refine J_aload_n 0 hC dX6_addTarget_44 rfl rfl ?_
        refine J_iconst (v := 1) hC dX6_addTarget_45 (by decide) ?_
        refine cl_X6_149 hC (c_X6_no _ y _ hs1.ky) hs1.ky (Nat.le_of_ble_eq_true rfl) ⟨⟨Nat.le_of_ble_eq_true rfl, Nat.le_of_ble_eq_true rfl⟩, Nat.le_of_ble_eq_true rfl, Nat.le_of_ble_eq_true rfl⟩ dX6_addTarget_46 (fun r46 S46 e46 => ?_)
        obtain ⟨rfl, e46⟩ := e46
        subst S46
        exact J_iretI hC dX6_addTarget_49 (Nat.le_of_ble_eq_true rfl) (Nat.le_of_ble_eq_true rfl) (Or.inr (Or.inl ⟨fun z => bI_eq c30 z.2.2.1, mx_no h⟩))
      · refine J_iload 5 hC dX6_addTarget_33 rfl ?_
        refine J_iconst (v := 5) hC dX6_addTarget_35 (by decide) ?_
        refine J_bipush (v := 120) hC dX6_addTarget_36 (by decide) ?_
        refine cl_X6_66 hC (c_X6_isIn _ _ _ _) (Nat.le_of_ble_eq_true rfl) ⟨⟨Nat.le_of_ble_eq_true rfl, Nat.le_of_ble_eq_true rfl⟩, Nat.le_of_ble_eq_true rfl, Nat.le_of_ble_eq_true rfl⟩ dX6_addTarget_38 (fun r38 S38 e38 => ?_)
        obtain ⟨rfl, e38⟩ := e38
        subst S38
        refine J_if_ne 50 hC dX6_addTarget_41 (by decide) (fun c41 => ?_) (fun c41 => ?_)
        · have hcs : ((0 ≤ u ∧ u ≤ 1439) ∧ (-90 ≤ v ∧ v ≤ 90)) ∧ (0 ≤ f ∧ f ≤ 3) ∧ (1 ≤ w ∧ w ≤ 9) ∧ (5 ≤ m ∧ m ≤ 120) := ⟨bI_ne c10, bI_ne c19, bI_ne c30, bI_ne c41⟩
          refine J_aload_n 0 hC dX6_addTarget_50 rfl rfl ?_
          refine fg_X6_63 hC hs1.ky dX6_addTarget_51 ?_
          refine J_topI hv1.1.2.2.2.2.2.2.2.2 ?_
          refine J_bipush (v := 20) hC dX6_addTarget_54 (by decide) ?_
          refine J_icmp_ne 65 hC dX6_addTarget_56 (by decide) (fun c56 => ?_) (fun c56 => ?_)
          · have hn : vn σ < 20 := by rcases Nat.lt_or_ge (vn σ) 20 with z | z; exact z; exact (c56 (by rw [show vn σ = 20 by omega]; rfl)).elim
            have zn : (nI (vn σ)).toNatClampNeg = vn σ := nI_clamp (by omega)
            refine J_aload_n 0 hC dX6_addTarget_65 rfl rfl ?_
            refine fg_X6_20 hC hs1.ky (hs1.p 11 rfl) dX6_addTarget_66 ?_
            refine J_aload_n 0 hC dX6_addTarget_69 rfl rfl ?_
            refine fg_X6_63 hC hs1.ky dX6_addTarget_70 ?_
            refine J_topI hv1.1.2.2.2.2.2.2.2.2 ?_
            refine J_iload_n 1 hC dX6_addTarget_73 rfl rfl ?_
            refine J_iast hC (hs1.k 11 rfl) rfl (inN (hs1.n 11 rfl) (vp_in_nI hn (by decide))) dX6_addTarget_74 ?_
            rw [zn]
            refine J_aload_n 0 hC dX6_addTarget_75 rfl rfl ?_
            refine fg_X6_24 hC hs1.sV.ky (hs1.sV.p 12 rfl) dX6_addTarget_76 ?_
            refine J_aload_n 0 hC dX6_addTarget_79 rfl rfl ?_
            refine fg_X6_63 hC hs1.sV.ky dX6_addTarget_80 ?_
            refine J_topI hv1.1.2.2.2.2.2.2.2.2 ?_
            refine J_iload_n 2 hC dX6_addTarget_83 rfl rfl ?_
            refine J_iast hC (hs1.sV.k 12 rfl) rfl (inN (hs1.sV.n 12 rfl) (vp_in_nI hn (by decide))) dX6_addTarget_84 ?_
            rw [zn]
            refine J_aload_n 0 hC dX6_addTarget_85 rfl rfl ?_
            refine fg_X6_27 hC hs1.sV.sV.ky (hs1.sV.sV.p 13 rfl) dX6_addTarget_86 ?_
            refine J_aload_n 0 hC dX6_addTarget_89 rfl rfl ?_
            refine fg_X6_63 hC hs1.sV.sV.ky dX6_addTarget_90 ?_
            refine J_topI hv1.1.2.2.2.2.2.2.2.2 ?_
            refine J_iload_n 3 hC dX6_addTarget_93 rfl rfl ?_
            refine J_iast hC (hs1.sV.sV.k 13 rfl) rfl (inN (hs1.sV.sV.n 13 rfl) (vp_in_nI hn (by decide))) dX6_addTarget_94 ?_
            rw [zn]
            refine J_aload_n 0 hC dX6_addTarget_95 rfl rfl ?_
            refine fg_X6_30 hC hs1.sV.sV.sV.ky (hs1.sV.sV.sV.p 14 rfl) dX6_addTarget_96 ?_
            refine J_aload_n 0 hC dX6_addTarget_99 rfl rfl ?_
            refine fg_X6_63 hC hs1.sV.sV.sV.ky dX6_addTarget_100 ?_
            refine J_topI hv1.1.2.2.2.2.2.2.2.2 ?_
            refine J_iload 4 hC dX6_addTarget_103 rfl ?_
            refine J_iast hC (hs1.sV.sV.sV.k 14 rfl) rfl (inN (hs1.sV.sV.sV.n 14 rfl) (vp_in_nI hn (by decide))) dX6_addTarget_105 ?_
            rw [zn]
            refine J_aload_n 0 hC dX6_addTarget_106 rfl rfl ?_
            refine fg_X6_33 hC hs1.sV.sV.sV.sV.ky (hs1.sV.sV.sV.sV.p 15 rfl) dX6_addTarget_107 ?_
            refine J_aload_n 0 hC dX6_addTarget_110 rfl rfl ?_
            refine fg_X6_63 hC hs1.sV.sV.sV.sV.ky dX6_addTarget_111 ?_
            refine J_topI hv1.1.2.2.2.2.2.2.2.2 ?_
            refine J_sipush (v := 300) hC dX6_addTarget_114 (by decide) ?_
            refine J_iast hC (hs1.sV.sV.sV.sV.k 15 rfl) rfl (inN (hs1.sV.sV.sV.sV.n 15 rfl) (vp_in_nI hn (by decide))) dX6_addTarget_117 ?_
            rw [zn]
            refine J_aload_n 0 hC dX6_addTarget_118 rfl rfl ?_
            refine fg_X6_36 hC hs1.sV.sV.sV.sV.sV.ky (hs1.sV.sV.sV.sV.sV.p 16 rfl) dX6_addTarget_119 ?_
            refine J_aload_n 0 hC dX6_addTarget_122 rfl rfl ?_
            refine fg_X6_63 hC hs1.sV.sV.sV.sV.sV.ky dX6_addTarget_123 ?_
            refine J_topI hv1.1.2.2.2.2.2.2.2.2 ?_
            refine J_iload 5 hC dX6_addTarget_126 rfl ?_
            refine J_iast hC (hs1.sV.sV.sV.sV.sV.k 16 rfl) rfl (inN (hs1.sV.sV.sV.sV.sV.n 16 rfl) (vp_in_nI hn (by decide))) dX6_addTarget_128 ?_
            rw [zn]
            refine J_aload_n 0 hC dX6_addTarget_129 rfl rfl ?_
            refine fg_X6_39 hC hs1.sV.sV.sV.sV.sV.sV.ky (hs1.sV.sV.sV.sV.sV.sV.p 17 rfl) dX6_addTarget_130 ?_
            refine J_aload_n 0 hC dX6_addTarget_133 rfl rfl ?_
            refine fg_X6_63 hC hs1.sV.sV.sV.sV.sV.sV.ky dX6_addTarget_134 ?_
            refine J_topI hv1.1.2.2.2.2.2.2.2.2 ?_
            refine J_iconst (v := 1) hC dX6_addTarget_137 (by decide) ?_
            refine J_iast hC (hs1.sV.sV.sV.sV.sV.sV.k 17 rfl) rfl (inN (hs1.sV.sV.sV.sV.sV.sV.n 17 rfl) (vp_in_nI hn (by decide))) dX6_addTarget_138 ?_
            rw [zn]
            refine J_aload_n 0 hC dX6_addTarget_139 rfl rfl ?_
            refine fg_X6_42 hC hs1.sV.sV.sV.sV.sV.sV.sV.ky (hs1.sV.sV.sV.sV.sV.sV.sV.p 18 rfl) dX6_addTarget_140 ?_
            refine J_aload_n 0 hC dX6_addTarget_143 rfl rfl ?_
            refine fg_X6_63 hC hs1.sV.sV.sV.sV.sV.sV.sV.ky dX6_addTarget_144 ?_
            refine J_topI hv1.1.2.2.2.2.2.2.2.2 ?_
            refine J_iconst (v := 1) hC dX6_addTarget_147 (by decide) ?_
            refine J_iast hC (hs1.sV.sV.sV.sV.sV.sV.sV.k 18 rfl) rfl (inN (hs1.sV.sV.sV.sV.sV.sV.sV.n 18 rfl) (vp_in_nI hn (by decide))) dX6_addTarget_148 ?_
            rw [zn]
            refine J_aload_n 0 hC dX6_addTarget_149 rfl rfl ?_
            refine fg_X6_48 hC hs1.sV.sV.sV.sV.sV.sV.sV.sV.ky (hs1.sV.sV.sV.sV.sV.sV.sV.sV.p 20 rfl) dX6_addTarget_150 ?_
            refine J_aload_n 0 hC dX6_addTarget_153 rfl rfl ?_
            refine fg_X6_63 hC hs1.sV.sV.sV.sV.sV.sV.sV.sV.ky dX6_addTarget_154 ?_
            refine J_topI hv1.1.2.2.2.2.2.2.2.2 ?_
            refine J_iconst (v := (-1)) hC dX6_addTarget_157 (by decide) ?_
            refine J_iast hC (hs1.sV.sV.sV.sV.sV.sV.sV.sV.k 20 rfl) rfl (inN (hs1.sV.sV.sV.sV.sV.sV.sV.sV.n 20 rfl) (vp_in_nI hn (by decide))) dX6_addTarget_158 ?_
            rw [zn]
            refine J_aload_n 0 hC dX6_addTarget_159 rfl rfl ?_
            refine J_dup hC dX6_addTarget_160 rfl ?_
            refine fg_X6_63 hC hs1.sV.sV.sV.sV.sV.sV.sV.sV.sV.ky dX6_addTarget_161 ?_
            refine J_topI hv1.1.2.2.2.2.2.2.2.2 ?_
            refine J_iconst (v := 1) hC dX6_addTarget_164 (by decide) ?_
            refine J_iadd hC dX6_addTarget_165 ?_
            rw [nI_1]
            refine fp_X6_63 hC hs1.sV.sV.sV.sV.sV.sV.sV.sV.sV.ky dX6_addTarget_166 ?_
            refine J_aload_n 0 hC dX6_addTarget_169 rfl rfl ?_
            refine J_iconst (v := 0) hC dX6_addTarget_170 (by decide) ?_
            refine fp_X6_123 hC (kI hs1.sV.sV.sV.sV.sV.sV.sV.sV.sV.ky) ⟨rfl, rfl⟩ dX6_addTarget_171 ?_
            refine J_aload_n 0 hC dX6_addTarget_174 rfl rfl ?_
            refine fg_X6_63 hC (kI (kI hs1.sV.sV.sV.sV.sV.sV.sV.sV.sV.ky)) dX6_addTarget_175 ?_
            refine J_topI ((hI_nk (by decide)).trans (hI_same _ _ _ _)) ?_
            refine J_iconst (v := 1) hC dX6_addTarget_178 (by decide) ?_
            refine J_isub hC dX6_addTarget_179 ?_
            refine J_topI (nI_pred (vn σ)) ?_
            exact J_iretI hC dX6_addTarget_180 (Nat.le_of_ble_eq_true rfl) (Nat.le_of_ble_eq_true rfl) (Or.inl ⟨hcs, hn, rfl, addt_m h hn (addT_rng hr hn hcs)⟩)
          · refine J_aload_n 0 hC dX6_addTarget_59 rfl rfl ?_
            refine J_iconst (v := 2) hC dX6_addTarget_60 (by decide) ?_
            refine cl_X6_149 hC (c_X6_no _ y _ hs1.ky) hs1.ky (Nat.le_of_ble_eq_true rfl) ⟨⟨Nat.le_of_ble_eq_true rfl, Nat.le_of_ble_eq_true rfl⟩, Nat.le_of_ble_eq_true rfl, Nat.le_of_ble_eq_true rfl⟩ dX6_addTarget_61 (fun r61 S61 e61 => ?_)
            obtain ⟨rfl, e61⟩ := e61
            subst S61
            exact J_iretI hC dX6_addTarget_64 (Nat.le_of_ble_eq_true rfl) (Nat.le_of_ble_eq_true rfl) (Or.inr (Or.inr ⟨hcs, nI_inj (show vn σ < 2147483648 by omega) (show 20 < 2147483648 by decide) c56, mx_no h⟩))
        · refine J_aload_n 0 hC dX6_addTarget_44 rfl rfl ?_
          refine J_iconst (v := 1) hC dX6_addTarget_45 (by decide) ?_
          refine cl_X6_149 hC (c_X6_no _ y _ hs1.ky) hs1.ky (Nat.le_of_ble_eq_true rfl) ⟨⟨Nat.le_of_ble_eq_true rfl, Nat.le_of_ble_eq_true rfl⟩, Nat.le_of_ble_eq_true rfl, Nat.le_of_ble_eq_true rfl⟩ dX6_addTarget_46 (fun r46 S46 e46 => ?_)
          obtain ⟨rfl, e46⟩ := e46
          subst S46
          exact J_iretI hC dX6_addTarget_49 (Nat.le_of_ble_eq_true rfl) (Nat.le_of_ble_eq_true rfl) (Or.inr (Or.inl ⟨fun z => bI_eq c41 z.2.2.2, mx_no h⟩))
