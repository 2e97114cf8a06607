/-! the model's observe, addClouds, addTarget: printed by wip/whole/model8.py -/
/-- is k named by one of the first rows -/
def dnV (π : Pl) : Nat → Nat → Bool
  | 0, _ => false
  | i + 1, k => dnV π i k || (decide (pR π i 0 = nI k) && decide (k < 20))
theorem dn_iff {π : Pl} {k : Nat} : ∀ {i : Nat}, dnV π i k = true ↔ ∃ i', i' < i ∧ pR π i' 0 = nI k ∧ k < 20
  | 0 => by
    constructor
    · intro h; exact absurd h Bool.false_ne_true
    · rintro ⟨i', h, -⟩; omega
  | i + 1 => by
    rw [dnV, Bool.or_eq_true, dn_iff, Bool.and_eq_true, decide_eq_true_eq, decide_eq_true_eq]
    constructor
    · rintro (⟨i', h1, h2⟩ | h)
      · exact ⟨i', by omega, h2⟩
      · exact ⟨i, by omega, h⟩
    · rintro ⟨i', h1, h2⟩
      by_cases c : i' = i
      · subst c; exact Or.inr h2
      · exact Or.inl ⟨i', by omega, h2⟩
def obW (σ : Sg) (B : Nat → Nat) (S : HS) (i : Nat) (k j : Nat) : Int32 := if j = 19 ∧ dnV (plV σ) i k = true then hV S k (B 19) + 1 else if j = 20 ∧ dnV (plV σ) i k = true then vg σ 3 else hV S k (B j)
def obI (y : Nat) (B : Nat → Nat) (σ : Sg) (S : HS) (i : Nat) (T : HS) : Prop := mU S y B (obW σ B S i) T
theorem obI.row {y : Nat} {B : Nat → Nat} {σ : Sg} {S T : HS} {i : Nat} (h : obI y B σ S i T) (hw : MW y B σ S) {r : Nat} (hr : r < pS σ (plV σ)) : hV T (4 * r + 0) (B 25) = pR (plV σ) r 0 := by
  refine (h.2.2.2 25 rfl _).trans ?_
  unfold obW
  rw [if_neg (fun z => absurd z.1 (by decide)), if_neg (fun z => absurd z.1 (by decide))]
  exact hw.2.2 r hr 0 (by decide)
theorem obI.step {y : Nat} {B : Nat → Nat} {σ : Sg} {S T : HS} {i g : Nat} (h : obI y B σ S i T) (hr : Rng σ) (hi : i < pS σ (plV σ)) (hg : g < vn σ) (hR : pR (plV σ) i 0 = nI g) : hV T g (B 19) = hV S g (B 19) ∧ obI y B σ S (i + 1) (sV (sV T g (B 19) (hV S g (B 19) + 1)) g (B 20) (vg σ 3)) := by
  have n20 : vn σ ≤ 20 := hr.2.2.2.2.2.2.2.1
  have hpw := PW.v hr
  have hd : dnV (plV σ) i g = false := by
    cases c : dnV (plV σ) i g with
    | false => rfl
    | true =>
      obtain ⟨i', h1, h2, -⟩ := dn_iff.mp c
      have := hpw.2.1 i' i (by omega) hi (h2.trans hR.symm)
      omega
  have hd1 : dnV (plV σ) (i + 1) g = true := dn_iff.mpr ⟨i, by omega, hR, by omega⟩
  have hdk : ∀ k, k ≠ g → dnV (plV σ) (i + 1) k = dnV (plV σ) i k := fun k hk => by
    rw [dnV, hR]
    have : (decide (nI g = nI k) && decide (k < 20)) = false := by
      cases c : decide (k < 20) with
      | false => rw [Bool.and_false]
      | true =>
        rw [Bool.and_true]
        refine decide_eq_false (fun z => hk ?_)
        exact (nI_inj (by omega) (by have := of_decide_eq_true c; omega) z).symm
    rw [this, Bool.or_false]
  refine ⟨(h.2.2.2 19 rfl g).trans ?_, ?_⟩
  · unfold obW
    rw [if_neg (fun z => by rw [hd] at z; exact absurd z.2 Bool.false_ne_true), if_neg (fun z => absurd z.1 (by decide))]
  · have h2 := mU.sV (n := g) (i := 20) (v := vg σ 3) (mU.sV (n := g) (i := 19) (v := hV S g (B 19) + 1) h rfl) rfl
    refine ⟨h2.1, h2.2.1, h2.2.2.1, fun j hj k => (h2.2.2.2 j hj k).trans ?_⟩
    by_cases c : k = g
    · subst c
      unfold obW
      by_cases c19 : j = 19
      · subst c19
        exact (up2_na (by decide)).trans ((up2_same _ _ _ _).trans (if_pos ⟨rfl, hd1⟩).symm)
      · by_cases c20 : j = 20
        · subst c20
          exact (up2_same _ _ _ _).trans ((if_neg (fun z => absurd z.1 (by decide))).trans (if_pos ⟨rfl, hd1⟩)).symm
        · refine (up2_na c20).trans ((up2_na c19).trans ?_)
          exact ((if_neg (fun z => c19 z.1)).trans (if_neg (fun z => c20 z.1))).trans ((if_neg (fun z => c19 z.1)).trans (if_neg (fun z => c20 z.1))).symm
    · refine (up2_nk c).trans ((up2_nk c).trans ?_)
      unfold obW
      rw [hdk k c]
theorem obI.done {y : Nat} {B : Nat → Nat} {σ : Sg} {S T : HS} (h : obI y B σ S (pS σ (plV σ)) T) (hv : MVl y B σ S) (hr : Rng σ) : MVl y B (obsV σ (vn σ)) T := by
  have n20 : vn σ ≤ 20 := hr.2.2.2.2.2.2.2.1
  have hpw := PW.v hr
  have hd : ∀ k, k < vn σ → dnV (plV σ) (pS σ (plV σ)) k = pU (plV σ) k := fun k hk => by
    cases c : pU (plV σ) k with
    | true =>
      obtain ⟨i, h1, h2⟩ := hpw.2.2.1 k hk c
      exact dn_iff.mpr ⟨i, h1, h2, by omega⟩
    | false =>
      cases c2 : dnV (plV σ) (pS σ (plV σ)) k with
      | false => rfl
      | true =>
        obtain ⟨i, h1, h2, -⟩ := dn_iff.mp c2
        obtain ⟨g, g1, g2, g3⟩ := hpw.1 i h1
        have : g = k := nI_inj (by omega) (by omega) (g2.symm.trans h2)
        rw [this, c] at g3
        exact absurd g3 Bool.false_ne_true
  refine mU.vl h hv (fun _ _ => rfl) rfl rfl (fun t ht => ?_) (fun k hk j hj => ?_) (fun k a b => ?_)
  · unfold obW
    rw [if_neg (fun z => absurd z.1 (by decide)), if_neg (fun z => absurd z.1 (by decide))]
    exact hv.2.1 t ht
  · have ev : vt (obsV σ (vn σ)) k j = if pU (plV σ) k = true then (if j = 8 then vt σ k 8 + 1 else if j = 9 then vg σ 3 else vt σ k j) else vt σ k j := by
      by_cases c : pU (plV σ) k = true
      · rw [if_pos c]; exact if_pos ⟨hk, c⟩
      · rw [if_neg c]; exact if_neg (fun z => c z.2)
    rw [ev]
    unfold obW
    rw [hd k hk]
    by_cases c : pU (plV σ) k = true
    · rw [if_pos c]
      by_cases c8 : j = 8
      · subst c8
        rw [if_pos ⟨rfl, c⟩, if_pos rfl, hv.t hk (show 8 < 10 by decide)]
      · by_cases c9 : j = 9
        · subst c9
          rw [if_neg (fun z => absurd z.1 (by decide)), if_pos ⟨rfl, c⟩, if_neg (by decide), if_pos rfl]
        · rw [if_neg (fun z => c8 (by omega)), if_neg (fun z => c9 (by omega)), if_neg c8, if_neg c9]
          exact hv.t hk hj
    · rw [if_neg c, if_neg (fun z => c z.2), if_neg (fun z => c z.2)]
      exact hv.t hk hj
  · unfold obW
    have hdn : dnV (plV σ) (pS σ (plV σ)) k = false := by
      cases c2 : dnV (plV σ) (pS σ (plV σ)) k with
      | false => rfl
      | true =>
        obtain ⟨i, h1, h2, -⟩ := dn_iff.mp c2
        obtain ⟨g, g1, g2, g3⟩ := hpw.1 i h1
        have : g = k := nI_inj (by omega) (by omega) (g2.symm.trans h2)
        omega
    rw [if_neg (fun z => by rw [hdn] at z; exact absurd z.2 Bool.false_ne_true), if_neg (fun z => absurd z.1 (by decide))]
    exact hv.2.2.2.1 k a b
theorem n60 {σ : Sg} (hr : Rng σ) : vg σ 3 = 60 ↔ ¬ vg σ 3 < 60 := by
  obtain ⟨j, e, hj⟩ := hr.n3
  rw [e, show (60 : Int32) = nI 60 from rfl, nI_ltI (by omega) (by decide)]
  constructor
  · intro z; have := nI_inj (by omega) (by decide) z; omega
  · intro z; rw [show j = 60 by omega]

set_option maxHeartbeats 4000000 in
set_option maxRecDepth 100000 in
/-- observe -/
theorem c_X6_observe {G : JG} (S : HS) (y : Nat) (B : Nat → Nat) (σ : Sg) (h : MI y B σ S) : Ct G yX6_observe cX6_observe 3 (some .int) 10 400 300 2600 [.ref y] S (rI (fun r S' => (vg σ 3 < 60 ∧ r = nI (pS σ (plV σ)) ∧ MX y B (obN σ) S S' 0) ∨ (¬ vg σ 3 < 60 ∧ MX y B σ S S' 1))) noX := by
  refine Ct.of (by decide) (Nat.le_of_ble_eq_true rfl) (fun X hC hT hin => ?_)
  obtain ⟨hs, hv, hr, hw⟩ := id h
  have n20 : vn σ ≤ 20 := hr.2.2.2.2.2.2.2.1
  have h1 := h.thr (v := 0)
  have hs1 := h1.1
  have hv1 := h1.2.1
  have loop : ∀ (S6 : HS), MX y B σ S S6 0 → MW y B σ S6 → vg σ 3 < 60 → ∀ (m i : Nat) (T : HS), pS σ (plV σ) - i < m → i ≤ pS σ (plV σ) → obI y B σ S6 i T → J X G (QQ X G (rI (fun r S' => (vg σ 3 < 60 ∧ r = nI (pS σ (plV σ)) ∧ MX y B (obN σ) S S' 0) ∨ (¬ vg σ 3 < 60 ∧ MX y B σ S S' 1))) noX 300 2600) 3 21 100 31 [(2, .int (nI i)), (1, .int (nI (pS σ (plV σ)))), (0, .ref y)] [] T := by
    intro S6 hmx hW h60 m
    have hps : pS σ (plV σ) ≤ 20 := Nat.le_trans (ctU_le _ _) n20
    induction m with
    | zero => intro i T h; omega
    | succ m ih =>
    intro i T hm hi hI0
    have hsT := hI0.1
    refine J_iload_n 0 hC dX6_observe_31 rfl rfl ?_
    refine J_iload_n 1 hC dX6_observe_32 rfl rfl ?_
    refine J_icmp_ge 76 hC dX6_observe_33 (by decide) (fun c33 => ?_) (fun c33 => ?_)
    · have e : i = pS σ (plV σ) := Nat.le_antisymm hi (Nat.not_lt.mp (fun q => absurd c33 (nI_ge q (by omega))))
      rw [e] at hI0
      refine J_aload_n 2 hC dX6_observe_76 rfl rfl ?_
      refine cl_X6_174 hC (c_X6_nextNight T y B (obsV σ (vn σ)) hsT (hI0.done hmx.1.2.1 hr) (obN_rng hr h60)) hsT.ky (Nat.le_of_ble_eq_true rfl) ⟨⟨Nat.le_of_ble_eq_true rfl, Nat.le_of_ble_eq_true rfl⟩, Nat.le_of_ble_eq_true rfl, Nat.le_of_ble_eq_true rfl⟩ dX6_observe_77 (fun S77 e77 => ?_)
      refine J_iload_n 1 hC dX6_observe_80 rfl rfl ?_
      exact J_iretI hC dX6_observe_81 (Nat.le_of_ble_eq_true rfl) (Nat.le_of_ble_eq_true rfl) (Or.inl ⟨h60, rfl, e77.1, hmx.2.1.trans (hI0.2.1.trans e77.2.1), e77.2.2.trans ((hI0.2.2.1 0).trans hmx.2.2)⟩)
    · have hlt : i < pS σ (plV σ) := Nat.not_le.mp (fun q => c33 (nI_le q (by omega)))
      obtain ⟨g, hg, hgR, -⟩ := (PW.v hr).1 i hlt
      have hst := hI0.step hr hlt hg hgR
      have zg : (nI g).toNatClampNeg = g := nI_clamp (by omega)
      refine J_aload_n 2 hC dX6_observe_36 rfl rfl ?_
      refine fg_X6_45 hC hsT.ky (hsT.p 19 rfl) dX6_observe_37 ?_
      refine J_aload_n 2 hC dX6_observe_40 rfl rfl ?_
      refine fg_X6_57 hC hsT.ky (hsT.p 25 rfl) dX6_observe_41 ?_
      refine J_iconst (v := 4) hC dX6_observe_44 (by decide) ?_
      refine J_iload_n 0 hC dX6_observe_45 rfl rfl ?_
      refine J_imul hC dX6_observe_46 ?_
      refine J_topI (show (4 : Int32) * nI i = nI (4 * i + 0) from nI_4 i) ?_
      refine J_iald hC (hsT.k 25 rfl) rfl (inN (hsT.n 25 rfl) (vp_in_nI (show 4 * i + 0 < 80 by omega) (by decide))) dX6_observe_47 ?_
      refine J_topI (show _ = nI g by rw [nI_clamp (by omega)]; exact (hI0.row hW hlt).trans hgR) ?_
      refine J_dup2 hC dX6_observe_48 rfl rfl ?_
      refine J_iald hC (hsT.k 19 rfl) rfl (inN (hsT.n 19 rfl) (vp_in_nI (show g < 20 by omega) (by decide))) dX6_observe_49 ?_
      refine J_topI (show _ = hV S6 g (B 19) by rw [zg]; exact hst.1) ?_
      refine J_iconst (v := 1) hC dX6_observe_50 (by decide) ?_
      refine J_iadd hC dX6_observe_51 ?_
      refine J_iast hC (hsT.k 19 rfl) rfl (inN (hsT.n 19 rfl) (vp_in_nI (show g < 20 by omega) (by decide))) dX6_observe_52 ?_
      rw [zg]
      refine J_aload_n 2 hC dX6_observe_53 rfl rfl ?_
      refine fg_X6_48 hC hsT.sV.ky (hsT.sV.p 20 rfl) dX6_observe_54 ?_
      refine J_aload_n 2 hC dX6_observe_57 rfl rfl ?_
      refine fg_X6_57 hC hsT.sV.ky (hsT.sV.p 25 rfl) dX6_observe_58 ?_
      refine J_iconst (v := 4) hC dX6_observe_61 (by decide) ?_
      refine J_iload_n 0 hC dX6_observe_62 rfl rfl ?_
      refine J_imul hC dX6_observe_63 ?_
      refine J_topI (show (4 : Int32) * nI i = nI (4 * i + 0) from nI_4 i) ?_
      refine J_iald hC (hsT.sV.k 25 rfl) rfl (inN (hsT.sV.n 25 rfl) (vp_in_nI (show 4 * i + 0 < 80 by omega) (by decide))) dX6_observe_64 ?_
      refine J_topI (show _ = nI g by rw [nI_clamp (by omega)]; exact (hV_na (hsT.ne (i := 25) (j := 19) rfl rfl (by decide))).trans ((hI0.row hW hlt).trans hgR)) ?_
      refine J_aload_n 2 hC dX6_observe_65 rfl rfl ?_
      refine fg_X6_87 hC hsT.sV.ky dX6_observe_66 ?_
      refine J_topI ((hI0.2.2.1 1).trans hmx.1.2.1.1.1) ?_
      refine J_iast hC (hsT.sV.k 20 rfl) rfl (inN (hsT.sV.n 20 rfl) (vp_in_nI (show g < 20 by omega) (by decide))) dX6_observe_69 ?_
      rw [zg]
      refine J_iinc (lv' := [(2, _), (1, _), (0, _)]) 0 hC dX6_observe_70 rfl (nI_1 i) (by decide) rfl ?_
      refine J_goto 31 hC dX6_observe_73 (by decide) ?_
      exact J_re [0, 1, 2] rfl (ih (i + 1) _ (by omega) (by omega) hst.2)
  refine J_aload_n 0 hC dX6_observe_0 rfl rfl ?_
  refine J_iconst (v := 0) hC dX6_observe_1 (by decide) ?_
  refine fp_X6_60 hC hs.ky dX6_observe_2 ?_
  refine J_aload_n 0 hC dX6_observe_5 rfl rfl ?_
  refine fg_X6_87 hC hs1.ky dX6_observe_6 ?_
  refine J_topI hv1.1.1 ?_
  refine J_bipush (v := 60) hC dX6_observe_9 (by decide) ?_
  refine J_icmp_ne 20 hC dX6_observe_11 (by decide) (fun c11 => ?_) (fun c11 => ?_)
  · refine J_aload_n 0 hC dX6_observe_20 rfl rfl ?_
    refine cl_X6_168 hC (c_workOut _ y B σ h1) hs1.ky (Nat.le_of_ble_eq_true rfl) ⟨⟨Nat.le_of_ble_eq_true rfl, Nat.le_of_ble_eq_true rfl⟩, Nat.le_of_ble_eq_true rfl, Nat.le_of_ble_eq_true rfl⟩ dX6_observe_21 (fun S21 e21 => ?_)
    obtain ⟨a1, a2, a3, a4, a5⟩ := e21
    have hs2 := a1.1
    have hv2 := a1.2.1
    have fr2 : FrM S S21 := (mx_0 h).2.1.trans a2
    have z2 : hI S21 0 y = 0 := a3.trans (hI_same _ _ _ _)
    have hps : pS σ (plV σ) ≤ 20 := Nat.le_trans (ctU_le _ _) n20
    refine J_aload_n 0 hC dX6_observe_24 rfl rfl ?_
    refine fg_X6_133 hC hs2.ky dX6_observe_25 ?_
    refine J_topI a5.2.1 ?_
    refine J_istore_n (lv' := [(1, _), (0, _)]) hC dX6_observe_28 rfl (by decide) rfl ?_
    refine J_iconst (v := 0) hC dX6_observe_29 (by decide) ?_
    refine J_istore_n (lv' := [(2, _), (1, _), (0, _)]) hC dX6_observe_30 rfl (by decide) rfl ?_
    exact J_re [0, 1, 2] rfl (loop S21 ⟨a1, fr2, z2⟩ a5 (Classical.byContradiction (fun z => c11 ((n60 hr).mpr z))) (pS σ (plV σ) + 1) 0 S21 (by omega) (by omega) ⟨hs2, FrM.rfl, fun _ => rfl, fun j hj k => ((if_neg (fun z => absurd z.2 Bool.false_ne_true)).trans (if_neg (fun z => absurd z.2 Bool.false_ne_true))).symm⟩)
  · refine J_aload_n 0 hC dX6_observe_14 rfl rfl ?_
    refine J_iconst (v := 1) hC dX6_observe_15 (by decide) ?_
    refine cl_X6_149 hC (c_X6_no _ y _ hs1.ky) hs1.ky (Nat.le_of_ble_eq_true rfl) ⟨⟨Nat.le_of_ble_eq_true rfl, Nat.le_of_ble_eq_true rfl⟩, Nat.le_of_ble_eq_true rfl, Nat.le_of_ble_eq_true rfl⟩ dX6_observe_16 (fun r16 S16 e16 => ?_)
    obtain ⟨rfl, e16⟩ := e16
    subst S16
    exact J_iretI hC dX6_observe_19 (Nat.le_of_ble_eq_true rfl) (Nat.le_of_ble_eq_true rfl) (Or.inr ⟨(n60 hr).mp c11, mx_no h⟩)
