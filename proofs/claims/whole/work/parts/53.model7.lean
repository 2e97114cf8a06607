/-! the model's setters: printed by wip/whole/model7.py -/
theorem want_m {y : Nat} {B : Nat → Nat} {σ : Sg} {S : HS} {k : Nat} {u v w : Int32} (h : MI y B σ S) (hk : k < vn σ) : MX y B (upT σ k (wnF σ k u v w)) S (sI (sV (sV (sV (sI S 0 y 0) k (B 15) u) k (B 17) v) k (B 18) w) 21 y 0) 0 := by
  have h1 := h.thr (v := 0)
  obtain ⟨hs, hv, hr, -⟩ := id h1
  have n20 : vn σ ≤ 20 := hr.2.2.2.2.2.2.2.1
  have hu := (((mU.rfl hs).sV (n := k) (i := 15) (v := u) rfl).sV (n := k) (i := 17) (v := v) rfl).sV (n := k) (i := 18) (v := w) rfl
  have hvm : MVl y B (upT σ k (wnF σ k u v w)) (sV (sV (sV (sI S 0 y 0) k (B 15) u) k (B 17) v) k (B 18) w) := by
    refine hu.vl hv (fun _ _ => rfl) rfl rfl (fun t ht => ?_) (fun k' hk' j hj => ?_) (fun k' a b => ?_)
    · exact (up2_na (by decide)).trans ((up2_na (by decide)).trans ((up2_na (by decide)).trans (hv.2.1 t ht)))
    · by_cases c : k' = k
      · subst c
        have ev : ∀ i, vt (upT σ k' (wnF σ k' u v w)) k' i = wnF σ k' u v w i := fun i => if_pos rfl
        rw [ev]
        rcases (show j = 0 ∨ j = 1 ∨ j = 2 ∨ j = 3 ∨ j = 4 ∨ j = 5 ∨ j = 6 ∨ j = 7 ∨ j = 8 ∨ j = 9 by omega) with rfl | rfl | rfl | rfl | rfl | rfl | rfl | rfl | rfl | rfl
        · exact (up2_na (by decide)).trans ((up2_na (by decide)).trans ((up2_na (by decide)).trans (hv.t hk (show 0 < 10 by decide))))
        · exact (up2_na (by decide)).trans ((up2_na (by decide)).trans ((up2_na (by decide)).trans (hv.t hk (show 1 < 10 by decide))))
        · exact (up2_na (by decide)).trans ((up2_na (by decide)).trans ((up2_na (by decide)).trans (hv.t hk (show 2 < 10 by decide))))
        · exact (up2_na (by decide)).trans ((up2_na (by decide)).trans ((up2_na (by decide)).trans (hv.t hk (show 3 < 10 by decide))))
        · exact (up2_na (by decide)).trans ((up2_na (by decide)).trans (up2_same _ _ _ _))
        · exact (up2_na (by decide)).trans ((up2_na (by decide)).trans ((up2_na (by decide)).trans (hv.t hk (show 5 < 10 by decide))))
        · exact (up2_na (by decide)).trans (up2_same _ _ _ _)
        · exact up2_same _ _ _ _
        · exact (up2_na (by decide)).trans ((up2_na (by decide)).trans ((up2_na (by decide)).trans (hv.t hk (show 8 < 10 by decide))))
        · exact (up2_na (by decide)).trans ((up2_na (by decide)).trans ((up2_na (by decide)).trans (hv.t hk (show 9 < 10 by decide))))
      · have ev : ∀ i, vt (upT σ k (wnF σ k u v w)) k' i = vt σ k' i := fun i => if_neg c
        rw [ev]
        exact (up2_nk c).trans ((up2_nk c).trans ((up2_nk c).trans (hv.t hk' hj)))
    · exact (up2_na (by decide)).trans ((up2_na (by decide)).trans ((up2_na (by decide)).trans (hv.2.2.2.1 k' a b)))
  have hrm : Rng (upT σ k (wnF σ k u v w)) := by
    obtain ⟨r0, r1, r2, r3, r4, r5, r6, r7, r8⟩ := hr
    refine ⟨r0, r1, r2, r3, r4, r5, r6, r7, fun j hj => ?_⟩
    by_cases e : j = k
    · subst e
      have ev : ∀ i, vt (upT σ j (wnF σ j u v w)) j i = wnF σ j u v w i := fun i => if_pos rfl
      rw [ev, ev, ev, ev, ev, ev, ev]
      exact r8 j hj
    · have ev : ∀ i, vt (upT σ k (wnF σ k u v w)) j i = vt σ j i := fun i => if_neg e
      rw [ev, ev, ev, ev, ev, ev, ev]
      exact r8 j hj
  refine ⟨MI.of0 hu.1 hvm hrm, (mx_0 h).2.1.trans (frm_thr hu.2.1 hu.1), (hI_nk (by decide)).trans ((hu.2.2.1 0).trans (hI_same _ _ _ _))⟩

set_option maxHeartbeats 4000000 in
set_option maxRecDepth 100000 in
/-- want -/
theorem c_X6_want {G : JG} (S : HS) (y : Nat) (B : Nat → Nat) (σ : Sg) (h : MI y B σ S) (t u v w : Int32) : Ct G yX6_want cX6_want 6 (some .int) 10 400 300 2600 [.ref y, .int t, .int u, .int v, .int w] S (rI (fun r S' => (((-1000 ≤ u ∧ u ≤ 1000) ∧ (1 ≤ v ∧ v ≤ 10) ∧ (1 ≤ w ∧ w ≤ 20)) ∧ ∃ k, k < vn σ ∧ t = nI k ∧ r = vt σ k 6 ∧ MX y B (upT σ k (wnF σ k u v w)) S S' 0) ∨ (¬ isTg (vn σ) t ∧ MX y B σ S S' 1) ∨ (isTg (vn σ) t ∧ ¬ ((-1000 ≤ u ∧ u ≤ 1000) ∧ (1 ≤ v ∧ v ≤ 10) ∧ (1 ≤ w ∧ w ≤ 20)) ∧ MX y B σ S S' 2))) noX := by
  refine Ct.of (by decide) (Nat.le_of_ble_eq_true rfl) (fun X hC hT hin => ?_)
  obtain ⟨hs, hv, hr, hw⟩ := id h
  have n20 : vn σ ≤ 20 := hr.2.2.2.2.2.2.2.1
  have h1 := h.thr (v := 0)
  have hs1 := h1.1
  have hv1 := h1.2.1
  refine J_aload_n 0 hC dX6_want_0 rfl rfl ?_
  refine J_iconst (v := 0) hC dX6_want_1 (by decide) ?_
  refine fp_X6_60 hC hs.ky dX6_want_2 ?_
  refine J_aload_n 0 hC dX6_want_5 rfl rfl ?_
  refine J_iload_n 1 hC dX6_want_6 rfl rfl ?_
  refine cl_X6_162 hC (c_X6_isTarget _ y B σ hs1 hv1 hr _) hs1.ky (Nat.le_of_ble_eq_true rfl) ⟨⟨Nat.le_of_ble_eq_true rfl, Nat.le_of_ble_eq_true rfl⟩, Nat.le_of_ble_eq_true rfl, Nat.le_of_ble_eq_true rfl⟩ dX6_want_7 (fun r7 S7 e7 => ?_)
  obtain ⟨rfl, e7⟩ := e7
  subst S7
  refine J_if_ne 19 hC dX6_want_10 (by decide) (fun c10 => ?_) (fun c10 => ?_)
  · have tk := (isTg_m n20).mp (bI_ne c10)
    refine J_iload_n 2 hC dX6_want_19 rfl rfl ?_
    refine J_sipush (v := (-1000)) hC dX6_want_20 (by decide) ?_
    refine J_sipush (v := 1000) hC dX6_want_23 (by decide) ?_
    refine cl_X6_66 hC (c_X6_isIn _ _ _ _) (Nat.le_of_ble_eq_true rfl) ⟨⟨Nat.le_of_ble_eq_true rfl, Nat.le_of_ble_eq_true rfl⟩, Nat.le_of_ble_eq_true rfl, Nat.le_of_ble_eq_true rfl⟩ dX6_want_26 (fun r26 S26 e26 => ?_)
    obtain ⟨rfl, e26⟩ := e26
    subst S26
    refine J_if_eq 53 hC dX6_want_29 (by decide) (fun c29 => ?_) (fun c29 => ?_)
    · refine J_aload_n 0 hC dX6_want_53 rfl rfl ?_
      refine J_iconst (v := 2) hC dX6_want_54 (by decide) ?_
      refine cl_X6_149 hC (c_X6_no _ y _ hs1.ky) hs1.ky (Nat.le_of_ble_eq_true rfl) ⟨⟨Nat.le_of_ble_eq_true rfl, Nat.le_of_ble_eq_true rfl⟩, Nat.le_of_ble_eq_true rfl, Nat.le_of_ble_eq_true rfl⟩ dX6_want_55 (fun r55 S55 e55 => ?_)
      obtain ⟨rfl, e55⟩ := e55
      subst S55
      exact J_iretI hC dX6_want_58 (Nat.le_of_ble_eq_true rfl) (Nat.le_of_ble_eq_true rfl) (Or.inr (Or.inr ⟨tk, fun z => bI_eq c29 z.1, mx_no h⟩))
    · refine J_iload_n 3 hC dX6_want_32 rfl rfl ?_
      refine J_iconst (v := 1) hC dX6_want_33 (by decide) ?_
      refine J_bipush (v := 10) hC dX6_want_34 (by decide) ?_
      refine cl_X6_66 hC (c_X6_isIn _ _ _ _) (Nat.le_of_ble_eq_true rfl) ⟨⟨Nat.le_of_ble_eq_true rfl, Nat.le_of_ble_eq_true rfl⟩, Nat.le_of_ble_eq_true rfl, Nat.le_of_ble_eq_true rfl⟩ dX6_want_36 (fun r36 S36 e36 => ?_)
      obtain ⟨rfl, e36⟩ := e36
      subst S36
      refine J_if_eq 53 hC dX6_want_39 (by decide) (fun c39 => ?_) (fun c39 => ?_)
      · refine J_aload_n 0 hC dX6_want_53 rfl rfl ?_
        refine J_iconst (v := 2) hC dX6_want_54 (by decide) ?_
        refine cl_X6_149 hC (c_X6_no _ y _ hs1.ky) hs1.ky (Nat.le_of_ble_eq_true rfl) ⟨⟨Nat.le_of_ble_eq_true rfl, Nat.le_of_ble_eq_true rfl⟩, Nat.le_of_ble_eq_true rfl, Nat.le_of_ble_eq_true rfl⟩ dX6_want_55 (fun r55 S55 e55 => ?_)
        obtain ⟨rfl, e55⟩ := e55
        subst S55
        exact J_iretI hC dX6_want_58 (Nat.le_of_ble_eq_true rfl) (Nat.le_of_ble_eq_true rfl) (Or.inr (Or.inr ⟨tk, fun z => bI_eq c39 z.2.1, mx_no h⟩))
      · refine J_iload 4 hC dX6_want_42 rfl ?_
        refine J_iconst (v := 1) hC dX6_want_44 (by decide) ?_
        refine J_bipush (v := 20) hC dX6_want_45 (by decide) ?_
        refine cl_X6_66 hC (c_X6_isIn _ _ _ _) (Nat.le_of_ble_eq_true rfl) ⟨⟨Nat.le_of_ble_eq_true rfl, Nat.le_of_ble_eq_true rfl⟩, Nat.le_of_ble_eq_true rfl, Nat.le_of_ble_eq_true rfl⟩ dX6_want_47 (fun r47 S47 e47 => ?_)
        obtain ⟨rfl, e47⟩ := e47
        subst S47
        refine J_if_ne 59 hC dX6_want_50 (by decide) (fun c50 => ?_) (fun c50 => ?_)
        · obtain ⟨k, hk, rfl⟩ := id tk
          have zk : (nI k).toNatClampNeg = k := nI_clamp (by omega)
          refine J_aload_n 0 hC dX6_want_59 rfl rfl ?_
          refine fg_X6_39 hC hs1.ky (hs1.p 17 rfl) dX6_want_60 ?_
          refine J_iload_n 1 hC dX6_want_63 rfl rfl ?_
          refine J_iald hC (hs1.k 17 rfl) rfl (inN (hs1.n 17 rfl) (vp_in_nI (show k < 20 by have := hr.2.2.2.2.2.2.2.1; omega) (by decide))) dX6_want_64 ?_
          refine J_topI (show _ = vt σ k 6 by rw [nI_clamp (show k < 2147483648 by have := hr.2.2.2.2.2.2.2.1; omega)]; exact hv1.t hk (show 6 < 10 by decide)) ?_
          refine J_istore (lv' := [(5, _), (0, _), (1, _), (2, _), (3, _), (4, _)]) hC dX6_want_65 (by decide) rfl ?_
          refine J_aload_n 1 hC dX6_want_67 rfl rfl ?_
          refine fg_X6_33 hC hs1.ky (hs1.p 15 rfl) dX6_want_68 ?_
          refine J_iload_n 2 hC dX6_want_71 rfl rfl ?_
          refine J_iload_n 3 hC dX6_want_72 rfl rfl ?_
          refine J_iast hC (hs1.k 15 rfl) rfl (inN (hs1.n 15 rfl) (vp_in_nI (show k < 20 by omega) (by decide))) dX6_want_73 ?_
          rw [zk]
          refine J_aload_n 1 hC dX6_want_74 rfl rfl ?_
          refine fg_X6_39 hC hs1.sV.ky (hs1.sV.p 17 rfl) dX6_want_75 ?_
          refine J_iload_n 2 hC dX6_want_78 rfl rfl ?_
          refine J_iload_n 4 hC dX6_want_79 rfl rfl ?_
          refine J_iast hC (hs1.sV.k 17 rfl) rfl (inN (hs1.sV.n 17 rfl) (vp_in_nI (show k < 20 by omega) (by decide))) dX6_want_80 ?_
          rw [zk]
          refine J_aload_n 1 hC dX6_want_81 rfl rfl ?_
          refine fg_X6_42 hC hs1.sV.sV.ky (hs1.sV.sV.p 18 rfl) dX6_want_82 ?_
          refine J_iload_n 2 hC dX6_want_85 rfl rfl ?_
          refine J_iload 5 hC dX6_want_86 rfl ?_
          refine J_iast hC (hs1.sV.sV.k 18 rfl) rfl (inN (hs1.sV.sV.n 18 rfl) (vp_in_nI (show k < 20 by omega) (by decide))) dX6_want_88 ?_
          rw [zk]
          refine J_aload_n 1 hC dX6_want_89 rfl rfl ?_
          refine J_iconst (v := 0) hC dX6_want_90 (by decide) ?_
          refine fp_X6_123 hC hs1.sV.sV.sV.ky ⟨rfl, rfl⟩ dX6_want_91 ?_
          refine J_iload 0 hC dX6_want_94 rfl ?_
          exact J_iretI hC dX6_want_96 (Nat.le_of_ble_eq_true rfl) (Nat.le_of_ble_eq_true rfl) (Or.inl ⟨⟨bI_ne c29, bI_ne c39, bI_ne c50⟩, k, hk, rfl, rfl, want_m h hk⟩)
        · refine J_aload_n 0 hC dX6_want_53 rfl rfl ?_
          refine J_iconst (v := 2) hC dX6_want_54 (by decide) ?_
          refine cl_X6_149 hC (c_X6_no _ y _ hs1.ky) hs1.ky (Nat.le_of_ble_eq_true rfl) ⟨⟨Nat.le_of_ble_eq_true rfl, Nat.le_of_ble_eq_true rfl⟩, Nat.le_of_ble_eq_true rfl, Nat.le_of_ble_eq_true rfl⟩ dX6_want_55 (fun r55 S55 e55 => ?_)
          obtain ⟨rfl, e55⟩ := e55
          subst S55
          exact J_iretI hC dX6_want_58 (Nat.le_of_ble_eq_true rfl) (Nat.le_of_ble_eq_true rfl) (Or.inr (Or.inr ⟨tk, fun z => bI_eq c50 z.2.2, mx_no h⟩))
  · refine J_aload_n 0 hC dX6_want_13 rfl rfl ?_
    refine J_iconst (v := 1) hC dX6_want_14 (by decide) ?_
    refine cl_X6_149 hC (c_X6_no _ y _ hs1.ky) hs1.ky (Nat.le_of_ble_eq_true rfl) ⟨⟨Nat.le_of_ble_eq_true rfl, Nat.le_of_ble_eq_true rfl⟩, Nat.le_of_ble_eq_true rfl, Nat.le_of_ble_eq_true rfl⟩ dX6_want_15 (fun r15 S15 e15 => ?_)
    obtain ⟨rfl, e15⟩ := e15
    subst S15
    exact J_iretI hC dX6_want_18 (Nat.le_of_ble_eq_true rfl) (Nat.le_of_ble_eq_true rfl) (Or.inr (Or.inl ⟨fun z => bI_eq c10 ((isTg_m n20).mpr z), mx_no h⟩))

/-- the model's fields of a new night -/
def nmS (S : HS) (y : Nat) (v1 v5 v7 : Int32) : HS := sI (sI (sI (sI S 1 y v1) 5 y v5) 7 y v7) 8 y 0
theorem nm_vl {y : Nat} {B : Nat → Nat} {σ : Sg} {S : HS} (hv : MVl y B σ S) : hI (nmS S y (vg σ 3 + 1) (im (vg σ 4 + 49) 1440) (im (vg σ 6 + 1) 30)) 8 y = nI 0 ∧ (hI (nmS S y (vg σ 3 + 1) (im (vg σ 4 + 49) 1440) (im (vg σ 6 + 1) 30)) 1 y = vg (nxt σ) 3 ∧ hI (nmS S y (vg σ 3 + 1) (im (vg σ 4 + 49) 1440) (im (vg σ 6 + 1) 30)) 2 y = vg (nxt σ) 2 ∧ hI (nmS S y (vg σ 3 + 1) (im (vg σ 4 + 49) 1440) (im (vg σ 6 + 1) 30)) 3 y = vg (nxt σ) 0 ∧ hI (nmS S y (vg σ 3 + 1) (im (vg σ 4 + 49) 1440) (im (vg σ 6 + 1) 30)) 4 y = vg (nxt σ) 1 ∧ hI (nmS S y (vg σ 3 + 1) (im (vg σ 4 + 49) 1440) (im (vg σ 6 + 1) 30)) 5 y = vg (nxt σ) 4 ∧ hI (nmS S y (vg σ 3 + 1) (im (vg σ 4 + 49) 1440) (im (vg σ 6 + 1) 30)) 6 y = vg (nxt σ) 5 ∧ hI (nmS S y (vg σ 3 + 1) (im (vg σ 4 + 49) 1440) (im (vg σ 6 + 1) 30)) 7 y = vg (nxt σ) 6) ∧ hI (nmS S y (vg σ 3 + 1) (im (vg σ 4 + 49) 1440) (im (vg σ 6 + 1) 30)) 10 y = nI (vn σ) := by
  have h := mvl_setg (s := 7) (g := 6) (v := im (vg σ 6 + 1) 30) (mvl_setg (s := 5) (g := 4) (v := im (vg σ 4 + 49) 1440) (mvl_setg (s := 1) (g := 3) (v := vg σ 3 + 1) hv (by omega)) (by omega)) (by omega)
  obtain ⟨⟨v1, v2, v3, v4, v5, v6, v7, v8, v10⟩, -⟩ := h
  unfold nmS
  exact ⟨hI_same _ _ _ _, ⟨(hI_nk (by decide)).trans v1, (hI_nk (by decide)).trans v2, (hI_nk (by decide)).trans v3, (hI_nk (by decide)).trans v4, (hI_nk (by decide)).trans v5, (hI_nk (by decide)).trans v6, (hI_nk (by decide)).trans v7⟩, (hI_nk (by decide)).trans v10⟩
theorem nm_shp {y : Nat} {B : Nat → Nat} {S : HS} {v1 v5 v7 : Int32} (hs : MShp y B S) : MShp y B (nmS S y v1 v5 v7) := hs.sI.sI.sI.sI
theorem nm_frm {y : Nat} {B : Nat → Nat} {S : HS} {v1 v5 v7 : Int32} (hs : MShp y B S) : FrM S (nmS S y v1 v5 v7) := frm_thr (frm_thr (frm_thr (frm_thr FrM.rfl hs) hs.sI) hs.sI.sI) hs.sI.sI.sI
theorem nm_0 {y : Nat} {S : HS} {v1 v5 v7 : Int32} : hI (nmS S y v1 v5 v7) 0 y = hI S 0 y := (hI_nk (by decide)).trans ((hI_nk (by decide)).trans ((hI_nk (by decide)).trans (hI_nk (by decide))))
/-- clearing the clouds -/
def ncI (B : Nat → Nat) (y : Nat) (S0 : HS) (i : Nat) (T : HS) : Prop := mU S0 y B (fun k j => if j = 9 ∧ k < i then 0 else hV S0 k (B j)) T
theorem ncI.step {B : Nat → Nat} {y : Nat} {S0 T : HS} {i : Nat} (h : ncI B y S0 i T) : ncI B y S0 (i + 1) (sV T i (B 9) 0) := by
  have h2 := mU.sV (n := i) (v := 0) h (show mIn 9 = true from rfl)
  refine ⟨h2.1, h2.2.1, h2.2.2.1, fun j hj k => (h2.2.2.2 j hj k).trans ?_⟩
  by_cases c : j = 9
  · subst c
    by_cases c2 : k = i
    · subst c2
      exact (up2_same _ _ _ _).trans (if_pos ⟨rfl, by omega⟩).symm
    · rw [up2_nk c2]
      have : k < i + 1 ↔ k < i := by omega
      simp only [this]
  · exact (up2_na c).trans ((if_neg (fun z => c z.1)).trans (if_neg (fun z => c z.1)).symm)
theorem nc_end {B : Nat → Nat} {y : Nat} {σ : Sg} {S T : HS} (hs : MShp y B S) (hv : MVl y B σ S) (hr : Rng (nxt σ)) (h : ncI B y (nmS S y (vg σ 3 + 1) (im (vg σ 4 + 49) 1440) (im (vg σ 6 + 1) 30)) 900 T) : MI y B (nxt σ) (sI T 21 y 0) ∧ FrM S (sI T 21 y 0) ∧ hI (sI T 21 y 0) 0 y = hI S 0 y := by
  obtain ⟨h1, h2, h3, h4⟩ := h
  obtain ⟨e8, ⟨e1, e2, e3, e4, e5, e6, e7⟩, e10⟩ := nm_vl hv
  refine ⟨MI.of0 h1 ⟨⟨(h3 _).trans e1, (h3 _).trans e2, (h3 _).trans e3, (h3 _).trans e4, (h3 _).trans e5, (h3 _).trans e6, (h3 _).trans e7, (h3 _).trans e8, (h3 _).trans e10⟩, fun t ht => ?_, fun k hk j hj => ?_, fun k a b => ?_, Nat.zero_le _⟩ hr, frm_thr ((nm_frm hs).trans h2) h1, (hI_nk (by decide)).trans ((h3 0).trans nm_0)⟩
  · refine (h4 9 rfl t).trans (if_pos ⟨rfl, ht⟩)
  · exact (h4 (j + 11) (mIn_f hj) k).trans ((if_neg (fun z => by omega)).trans (hv.2.2.1 k hk j hj))
  · exact (h4 19 rfl k).trans ((if_neg (fun z => by omega)).trans (hv.2.2.2.1 k a b))

set_option maxHeartbeats 4000000 in
set_option maxRecDepth 100000 in
/-- nextNight -/
theorem c_X6_nextNight {G : JG} (S : HS) (y : Nat) (B : Nat → Nat) (σ : Sg) (hs : MShp y B S) (hv : MVl y B σ S) (hr : Rng (nxt σ)) : Ct G yX6_nextNight cX6_nextNight 2 none 0 0 0 0 [.ref y] S (rV (fun S' => MI y B (nxt σ) S' ∧ FrM S S' ∧ hI S' 0 y = hI S 0 y)) noX := by
  refine Ct.of (by decide) (Nat.le_of_ble_eq_true rfl) (fun X hC hT hin => ?_)
  have loop : ∀ (m i : Nat) (T : HS), 900 - i < m → i ≤ 900 → ncI B y (nmS S y (vg σ 3 + 1) (im (vg σ 4 + 49) 1440) (im (vg σ 6 + 1) 30)) i T → J X G (QQ X G (rV (fun S' => MI y B (nxt σ) S' ∧ FrM S S' ∧ hI S' 0 y = hI S 0 y)) noX 0 0) 2 0 0 45 [(1, .int (nI i)), (0, .ref y)] [] T := by
    intro m
    induction m with
    | zero => intro i T h; omega
    | succ m ih =>
    intro i T hm hi hI0
    have hsT := hI0.1
    refine J_iload_n 0 hC dX6_nextNight_45 rfl rfl ?_
    refine J_sipush (v := 900) hC dX6_nextNight_46 (by decide) ?_
    refine J_icmp_ge 65 hC dX6_nextNight_49 (by decide) (fun c49 => ?_) (fun c49 => ?_)
    · have e : i = 900 := Nat.le_antisymm hi (Nat.not_lt.mp (fun q => absurd c49 (nI_ge q (by decide))))
      subst e
      refine J_aload_n 1 hC dX6_nextNight_65 rfl rfl ?_
      refine J_iconst (v := 0) hC dX6_nextNight_66 (by decide) ?_
      refine fp_X6_123 hC hsT.ky ⟨rfl, rfl⟩ dX6_nextNight_67 ?_
      exact J_vretI hC dX6_nextNight_70 (Nat.le_of_ble_eq_true rfl) (Nat.le_of_ble_eq_true rfl) (nc_end hs hv hr hI0)
    · have hlt : i < 900 := Nat.not_le.mp (fun q => c49 (nI_le q (by omega)))
      refine J_aload_n 1 hC dX6_nextNight_52 rfl rfl ?_
      refine fg_X6_16 hC hsT.ky (hsT.p 9 rfl) dX6_nextNight_53 ?_
      refine J_iload_n 0 hC dX6_nextNight_56 rfl rfl ?_
      refine J_iconst (v := 0) hC dX6_nextNight_57 (by decide) ?_
      refine J_zast hC (hsT.k 9 rfl) rfl (inN (hsT.n 9 rfl) (vp_in_nI hlt (by decide))) dX6_nextNight_58 ?_
      rw [nI_clamp (show i < 2147483648 by omega), show vp_nar .boolean 0 = 0 from rfl]
      refine J_iinc (lv' := [(1, _), (0, _)]) 0 hC dX6_nextNight_59 rfl (nI_1 i) (by decide) rfl ?_
      refine J_goto 45 hC dX6_nextNight_62 (by decide) ?_
      exact J_re [0, 1] rfl (ih (i + 1) _ (by omega) (by omega) hI0.step)
  refine J_aload_n 0 hC dX6_nextNight_0 rfl rfl ?_
  refine J_dup hC dX6_nextNight_1 rfl ?_
  refine fg_X6_87 hC hs.ky dX6_nextNight_2 ?_
  refine J_topI hv.1.1 ?_
  refine J_iconst (v := 1) hC dX6_nextNight_5 (by decide) ?_
  refine J_iadd hC dX6_nextNight_6 ?_
  refine fp_X6_87 hC hs.ky dX6_nextNight_7 ?_
  refine J_aload_n 0 hC dX6_nextNight_10 rfl rfl ?_
  refine J_aload_n 0 hC dX6_nextNight_11 rfl rfl ?_
  refine fg_X6_100 hC (kI hs.ky) dX6_nextNight_12 ?_
  refine J_topI ((hI_nk (by decide)).trans hv.1.2.2.2.2.1) ?_
  refine J_bipush (v := 49) hC dX6_nextNight_15 (by decide) ?_
  refine J_iadd hC dX6_nextNight_17 ?_
  refine J_sipush (v := 1440) hC dX6_nextNight_18 (by decide) ?_
  refine J_irem hC dX6_nextNight_21 (by decide) ?_
  refine fp_X6_100 hC (kI hs.ky) dX6_nextNight_22 ?_
  refine J_aload_n 0 hC dX6_nextNight_25 rfl rfl ?_
  refine J_aload_n 0 hC dX6_nextNight_26 rfl rfl ?_
  refine fg_X6_97 hC (kI (kI hs.ky)) dX6_nextNight_27 ?_
  refine J_topI ((hI_nk (by decide)).trans ((hI_nk (by decide)).trans hv.1.2.2.2.2.2.2.1)) ?_
  refine J_iconst (v := 1) hC dX6_nextNight_30 (by decide) ?_
  refine J_iadd hC dX6_nextNight_31 ?_
  refine J_bipush (v := 30) hC dX6_nextNight_32 (by decide) ?_
  refine J_irem hC dX6_nextNight_34 (by decide) ?_
  refine fp_X6_97 hC (kI (kI hs.ky)) dX6_nextNight_35 ?_
  refine J_aload_n 0 hC dX6_nextNight_38 rfl rfl ?_
  refine J_iconst (v := 0) hC dX6_nextNight_39 (by decide) ?_
  refine fp_X6_159 hC (kI (kI (kI hs.ky))) dX6_nextNight_40 ?_
  refine J_iconst (v := 0) hC dX6_nextNight_43 (by decide) ?_
  refine J_istore_n (lv' := [(1, _), (0, _)]) hC dX6_nextNight_44 rfl (by decide) rfl ?_
  refine J_re [0, 1] rfl (loop 901 0 _ (by omega) (by omega) ?_)
  refine ⟨nm_shp hs, FrM.rfl, fun _ => rfl, fun j hj k => (if_neg (fun z => Nat.not_lt_zero k z.2)).symm⟩

theorem pass_c {σ : Sg} (hr : Rng σ) {w : Int32} (h1 : 1 ≤ w ∧ w ≤ 60) : (60 < vg σ 3 + w) ↔ ¬ (w ≤ 60 - vg σ 3) := by
  obtain ⟨j, e, hj⟩ := hr.n3
  obtain ⟨m, hm, e2⟩ := nI_of (x := w) (fun z => absurd (Int32.le_trans h1.1 (Int32.le_of_lt z)) (by decide))
  rw [e2] at h1
  have h60 := (nI_leI (b := 60) hm (by decide)).mp h1.2
  rw [e, e2, nI_add, show (60 : Int32) = nI 60 from rfl, nI_sub hj (by decide), nI_ltI (by decide) (by omega), nI_leI hm (by omega)]
  omega

theorem pass_le {σ : Sg} (hr : Rng σ) {w : Int32} (h : w ≤ 60 - vg σ 3) : w ≤ 60 := by
  obtain ⟨j, e, hj⟩ := hr.n3
  rw [e, show (60 : Int32) = nI 60 from rfl, nI_sub hj (by decide)] at h
  exact Int32.le_trans h (nI_le (show 60 - j ≤ 60 by omega) (by decide))

set_option maxHeartbeats 4000000 in
set_option maxRecDepth 100000 in
/-- pass -/
theorem c_X6_pass {G : JG} (S : HS) (y : Nat) (B : Nat → Nat) (σ : Sg) (h : MI y B σ S) (w : Int32) : Ct G yX6_pass cX6_pass 3 (some .int) 10 400 300 2600 [.ref y, .int w] S (rI (fun r S' => ((1 ≤ w ∧ w ≤ 60 - vg σ 3) ∧ ∃ m, w = nI m ∧ m ≤ 60 ∧ r = vg σ 3 + nI m ∧ MX y B (nxN σ m) S S' 0) ∨ (¬ (1 ≤ w ∧ w ≤ 60 - vg σ 3) ∧ MX y B σ S S' 1))) noX := by
  refine Ct.of (by decide) (Nat.le_of_ble_eq_true rfl) (fun X hC hT hin => ?_)
  obtain ⟨hs, hv, hr, hw⟩ := id h
  have n20 : vn σ ≤ 20 := hr.2.2.2.2.2.2.2.1
  have h1 := h.thr (v := 0)
  have hs1 := h1.1
  have hv1 := h1.2.1
  have loop : ∀ (m j : Nat), w = nI m → vg σ 3 = nI j → m + j ≤ 60 → (1 ≤ w ∧ w ≤ 60 - vg σ 3) → ∀ (n i : Nat) (T : HS), m - i < n → i ≤ m → MX y B (nxN σ i) S T 0 → J X G (QQ X G (rI (fun r S' => ((1 ≤ w ∧ w ≤ 60 - vg σ 3) ∧ ∃ m, w = nI m ∧ m ≤ 60 ∧ r = vg σ 3 + nI m ∧ MX y B (nxN σ m) S S' 0) ∨ (¬ (1 ≤ w ∧ w ≤ 60 - vg σ 3) ∧ MX y B σ S S' 1))) noX 300 2600) 3 0 0 34 [(2, .int (nI i)), (0, .ref y), (1, .int (nI m))] [] T := by
    intro m j hw h3 h60 hcp n
    induction n with
    | zero => intro i T h; omega
    | succ n ih =>
    intro i T hm hi hc
    obtain ⟨⟨hsT, hvT, hrT, hwT⟩, fT, zT⟩ := hc
    refine J_iload_n 0 hC dX6_pass_34 rfl rfl ?_
    refine J_iload_n 2 hC dX6_pass_35 rfl rfl ?_
    refine J_icmp_ge 49 hC dX6_pass_36 (by decide) (fun c36 => ?_) (fun c36 => ?_)
    · have e : i = m := Nat.le_antisymm hi (Nat.not_lt.mp (fun q => absurd c36 (nI_ge q (by omega))))
      subst e
      refine J_aload_n 1 hC dX6_pass_49 rfl rfl ?_
      refine fg_X6_87 hC hsT.ky dX6_pass_50 ?_
      refine J_topI (hvT.1.1.trans (nxN_3 σ i)) ?_
      exact J_iretI hC dX6_pass_53 (Nat.le_of_ble_eq_true rfl) (Nat.le_of_ble_eq_true rfl) (Or.inl ⟨hcp, i, hw, by omega, rfl, ⟨hsT, hvT, hrT, hwT⟩, fT, zT⟩)
    · have hlt : i < m := Nat.not_le.mp (fun q => c36 (nI_le q (by omega)))
      refine J_aload_n 1 hC dX6_pass_39 rfl rfl ?_
      refine cl_X6_174 hC (c_X6_nextNight T y B (nxN σ i) hsT hvT (nxt_rng hrT (nxN_lt h3 h60 hlt))) hsT.ky (Nat.le_of_ble_eq_true rfl) ⟨⟨Nat.le_of_ble_eq_true rfl, Nat.le_of_ble_eq_true rfl⟩, Nat.le_of_ble_eq_true rfl, Nat.le_of_ble_eq_true rfl⟩ dX6_pass_40 (fun S40 e40 => ?_)
      refine J_iinc (lv' := [(2, _), (0, _), (1, _)]) 0 hC dX6_pass_43 rfl (nI_1 i) (by decide) rfl ?_
      refine J_goto 34 hC dX6_pass_46 (by decide) ?_
      exact J_re [0, 1, 2] rfl (ih (i + 1) S40 (by omega) (by omega) ⟨e40.1, fT.trans e40.2.1, e40.2.2.trans zT⟩)
  refine J_aload_n 0 hC dX6_pass_0 rfl rfl ?_
  refine J_iconst (v := 0) hC dX6_pass_1 (by decide) ?_
  refine fp_X6_60 hC hs.ky dX6_pass_2 ?_
  refine J_iload_n 1 hC dX6_pass_5 rfl rfl ?_
  refine J_iconst (v := 1) hC dX6_pass_6 (by decide) ?_
  refine J_bipush (v := 60) hC dX6_pass_7 (by decide) ?_
  refine cl_X6_66 hC (c_X6_isIn _ _ _ _) (Nat.le_of_ble_eq_true rfl) ⟨⟨Nat.le_of_ble_eq_true rfl, Nat.le_of_ble_eq_true rfl⟩, Nat.le_of_ble_eq_true rfl, Nat.le_of_ble_eq_true rfl⟩ dX6_pass_9 (fun r9 S9 e9 => ?_)
  obtain ⟨rfl, e9⟩ := e9
  subst S9
  refine J_if_eq 26 hC dX6_pass_12 (by decide) (fun c12 => ?_) (fun c12 => ?_)
  · refine J_aload_n 0 hC dX6_pass_26 rfl rfl ?_
    refine J_iconst (v := 1) hC dX6_pass_27 (by decide) ?_
    refine cl_X6_149 hC (c_X6_no _ y _ hs1.ky) hs1.ky (Nat.le_of_ble_eq_true rfl) ⟨⟨Nat.le_of_ble_eq_true rfl, Nat.le_of_ble_eq_true rfl⟩, Nat.le_of_ble_eq_true rfl, Nat.le_of_ble_eq_true rfl⟩ dX6_pass_28 (fun r28 S28 e28 => ?_)
    obtain ⟨rfl, e28⟩ := e28
    subst S28
    exact J_iretI hC dX6_pass_31 (Nat.le_of_ble_eq_true rfl) (Nat.le_of_ble_eq_true rfl) (Or.inr ⟨fun z => bI_eq c12 ⟨z.1, pass_le hr z.2⟩, mx_no h⟩)
  · refine J_aload_n 0 hC dX6_pass_15 rfl rfl ?_
    refine fg_X6_87 hC hs1.ky dX6_pass_16 ?_
    refine J_topI hv1.1.1 ?_
    refine J_iload_n 1 hC dX6_pass_19 rfl rfl ?_
    refine J_iadd hC dX6_pass_20 ?_
    refine J_bipush (v := 60) hC dX6_pass_21 (by decide) ?_
    refine J_icmp_le 32 hC dX6_pass_23 (by decide) (fun c23 => ?_) (fun c23 => ?_)
    · refine J_iconst (v := 0) hC dX6_pass_32 (by decide) ?_
      refine J_istore_n (lv' := [(2, _), (0, _), (1, _)]) hC dX6_pass_33 rfl (by decide) rfl ?_
      have hcp2 : w ≤ 60 - vg σ 3 := Classical.byContradiction (fun z => absurd ((pass_c hr (bI_ne c12)).mpr z) (Int32.not_lt.mpr c23))
      obtain ⟨m, j, hw, h3, h60⟩ := pass_m hr (bI_ne c12).1 hcp2
      have hc1 := (bI_ne c12).1
      subst hw
      exact J_re [0, 1, 2] rfl (loop m j rfl h3 h60 ⟨hc1, hcp2⟩ (m + 1) 0 _ (by omega) (by omega) (mx_0 h))
    · refine J_aload_n 0 hC dX6_pass_26 rfl rfl ?_
      refine J_iconst (v := 1) hC dX6_pass_27 (by decide) ?_
      refine cl_X6_149 hC (c_X6_no _ y _ hs1.ky) hs1.ky (Nat.le_of_ble_eq_true rfl) ⟨⟨Nat.le_of_ble_eq_true rfl, Nat.le_of_ble_eq_true rfl⟩, Nat.le_of_ble_eq_true rfl, Nat.le_of_ble_eq_true rfl⟩ dX6_pass_28 (fun r28 S28 e28 => ?_)
      obtain ⟨rfl, e28⟩ := e28
      subst S28
      exact J_iretI hC dX6_pass_31 (Nat.le_of_ble_eq_true rfl) (Nat.le_of_ble_eq_true rfl) (Or.inr ⟨fun z => (pass_c hr (bI_ne c12)).mp (Int32.not_le.mp c23) z.2, mx_no h⟩)
