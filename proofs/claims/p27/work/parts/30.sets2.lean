/-! what the setters leave -/
theorem lt14 {S : HS} {a n : Nat} (h : hK S a = n) (h2 : n < 14) : hK S a < 14 := h ▸ h2
theorem FrC.sI {S T : HS} {k a : Nat} {v : Int32} (h : FrC S T) (hk : hK T a < 14) : FrC S (sI T k a v) := h.trans (frc_sI hk)
theorem FrC.sV {S T : HS} {k a : Nat} {v : Int32} (h : FrC S T) (hk : hK T a < 14) : FrC S (sV T k a v) := h.trans (frc_sV hk)
theorem FrC.sP {S T : HS} {k a : Nat} {v : Option Nat} (h : FrC S T) (hk : hK T a < 14) : FrC S (sP T k a v) := h.trans (frc_sP hk)
def CS (G : JG) (x : Nat) (σ : Sg) (S T : HS) : Prop := (∃ A', CI G x A' σ T) ∧ FrC S T
def ptS (S : HS) (q : Nat) (v w : Int32) : HS := sI (sI (sI (sI (sNew S q 5 0) 0 q v) 1 q w) 2 q (sn w)) 3 q (sn (w + 90))
theorem pt_new {S : HS} {q : Nat} {v w : Int32} (hq : hK S q = 0) : newAt S (ptS S q v w) q := (((newAt.of hq).sI.sI).sI).sI
theorem pt_k {S : HS} {q : Nat} {v w : Int32} : hK (ptS S q v w) q = 5 := if_pos (Eq.refl q)
theorem pt_shp {G : JG} {x n q : Nat} {A : Nat → Nat → Nat} {S : HS} {v w : Int32} (hs : Shp G x A n S) (hq : hK S q = 0) : Shp G x A n (ptS S q v w) :=
  hs.off (fun a ha => ⟨((pt_new hq).old ha.1).1, ((pt_new hq).old ha.1).2.1, ((pt_new hq).old ha.1).2.2.2.1⟩)
theorem pt_vl {G : JG} {x q : Nat} {A : Nat → Nat → Nat} {σ : Sg} {S : HS} {v w : Int32} (hs : Shp G x A (vn σ) S) (hv : Vl x A σ S) (hq : hK S q = 0) : Vl x A σ (ptS S q v w) :=
  hv.off hs (fun a ha => ⟨((pt_new hq).old ha.1).2.2.1, ((pt_new hq).old ha.1).2.2.2.2.1⟩)
theorem pt_3 {S : HS} {q : Nat} {v w : Int32} : hI (ptS S q v w) 3 q = sn (w + 90) := hI_same _ _ _ _
theorem pt_2 {S : HS} {q : Nat} {v w : Int32} : hI (ptS S q v w) 2 q = sn w := (hI_nk (by decide)).trans (hI_same _ _ _ _)
theorem pt_1 {S : HS} {q : Nat} {v w : Int32} : hI (ptS S q v w) 1 q = w := (hI_nk (by decide)).trans ((hI_nk (by decide)).trans (hI_same _ _ _ _))
theorem pt_0 {S : HS} {q : Nat} {v w : Int32} : hI (ptS S q v w) 0 q = v := (hI_nk (by decide)).trans ((hI_nk (by decide)).trans ((hI_nk (by decide)).trans (hI_same _ _ _ _)))
theorem zen_step {G : JG} {x q : Nat} {A : Nat → Nat → Nat} {σ : Sg} {S : HS} {la st : Int32} (hs : Shp G x A (vn σ) S) (hv : Vl x A σ S) (hq : hK S q = 0) :
    Shp G x (upA A 0 0 q) (vn σ) (sP (ptS S q st la) 0 x (some q)) ∧ Vl x (upA A 0 0 q) (setG (setG σ 0 la) 1 st) (sP (ptS S q st la) 0 x (some q)) ∧ FrC S (sP (ptS S q st la) 0 x (some q)) :=
  ⟨(pt_shp hs hq).newpt pt_k (Or.inl (Eq.refl _)), (pt_vl hs hv hq).zen pt_0 pt_1 pt_2 pt_3, (pt_new hq).frc.trans (frc_sP (by rw [(pt_shp (v := st) (w := la) hs hq).kx]; decide))⟩
theorem moon_step {G : JG} {x q : Nat} {A : Nat → Nat → Nat} {σ : Sg} {S : HS} {ri de : Int32} (hs : Shp G x A (vn σ) S) (hv : Vl x A σ S) (hq : hK S q = 0) :
    Shp G x (upA A 0 1 q) (vn σ) (sP (ptS S q ri de) 1 x (some q)) ∧ Vl x (upA A 0 1 q) (setG (setG σ 4 ri) 5 de) (sP (ptS S q ri de) 1 x (some q)) ∧ FrC S (sP (ptS S q ri de) 1 x (some q)) :=
  ⟨(pt_shp hs hq).newpt pt_k (Or.inr (Eq.refl _)), (pt_vl hs hv hq).moon pt_0 pt_1 pt_2 pt_3, (pt_new hq).frc.trans (frc_sP (by rw [(pt_shp (v := ri) (w := de) hs hq).kx]; decide))⟩
/-- a field of x -/
theorem age_step {G : JG} {x : Nat} {A : Nat → Nat → Nat} {σ : Sg} {S : HS} {v : Int32} (hs : Shp G x A (vn σ) S) (hv : Vl x A σ S) : Vl x A (setG σ 6 v) (sI S 2 x v) :=
  (hv.atx hs (T := sI S 2 x v) (fun _ _ h => hI_na h) (fun _ _ => Eq.refl _) (hI_same _ _ _ _) ((hI_nk (by decide)).trans hv.2.2.1.2.1) ((hI_nk (by decide)).trans hv.2.2.1.2.2)).cong (fun i hi => by
    rcases (show i = 0 ∨ i = 1 ∨ i = 2 ∨ i = 3 ∨ i = 4 ∨ i = 5 ∨ i = 6 by omega) with rfl | rfl | rfl | rfl | rfl | rfl | rfl <;> exact Eq.refl _) (Eq.refl _)
theorem len_step {G : JG} {x : Nat} {A : Nat → Nat → Nat} {σ : Sg} {S : HS} {v : Int32} (hs : Shp G x A (vn σ) S) (hv : Vl x A σ S) : Vl x A (setG σ 2 v) (sI S 3 x v) :=
  (hv.atx hs (T := sI S 3 x v) (fun _ _ h => hI_na h) (fun _ _ => Eq.refl _) ((hI_nk (by decide)).trans hv.2.2.1.1) (hI_same _ _ _ _) ((hI_nk (by decide)).trans hv.2.2.1.2.2)).cong (fun i hi => by
    rcases (show i = 0 ∨ i = 1 ∨ i = 2 ∨ i = 3 ∨ i = 4 ∨ i = 5 ∨ i = 6 by omega) with rfl | rfl | rfl | rfl | rfl | rfl | rfl <;> exact Eq.refl _) (Eq.refl _)
theorem nit_step {G : JG} {x : Nat} {A : Nat → Nat → Nat} {σ : Sg} {S : HS} {v : Int32} (hs : Shp G x A (vn σ) S) (hv : Vl x A σ S) : Vl x A (setG σ 3 v) (sI S 4 x v) :=
  (hv.atx hs (T := sI S 4 x v) (fun _ _ h => hI_na h) (fun _ _ => Eq.refl _) ((hI_nk (by decide)).trans hv.2.2.1.1) ((hI_nk (by decide)).trans hv.2.2.1.2.1) (hI_same _ _ _ _)).cong (fun i hi => by
    rcases (show i = 0 ∨ i = 1 ∨ i = 2 ∨ i = 3 ∨ i = 4 ∨ i = 5 ∨ i = 6 by omega) with rfl | rfl | rfl | rfl | rfl | rfl | rfl <;> exact Eq.refl _) (Eq.refl _)
theorem fn_CS {G : JG} {x : Nat} {A : Nat → Nat → Nat} {σ : Sg} {S T : HS} {I : Nat → Nat → Int32} (hf : FrC S T) (hs : Shp G x A (vn σ) T) (hv : Vl x A σ T) (hr : Rng σ) (h : (∀ j a, j ≠ 1 → I j a = hI T j a) ∧ (∀ a, a ≠ A 0 7 → (∀ j, j < vn σ → a ≠ A 3 j) → I 1 a = hI T 1 a) ∧ I 1 (A 0 7) = 0 ∧ ∀ j, j < vn σ → I 1 (A 3 j) = 0) : CI G x A σ (wIV T I (hV T)) ∧ CS G x σ S (wIV T I (hV T)) :=
  ⟨(fn_CI hs hv hr h).1, ⟨_, (fn_CI hs hv hr h).1⟩, hf.trans (fn_CI hs hv hr h).2⟩
theorem tell_step {G : JG} {x : Nat} {A : Nat → Nat → Nat} {σ : Sg} {S : HS} {v w : Int32} (hs : Shp G x A (vn σ) S) (hv : Vl x A σ S) (h8 : vc σ < 8) :
    Shp G x A (vn σ) (sI (sV (sV S (hI S 2 (A 0 2)).toNatClampNeg (A 0 3) v) (hI S 2 (A 0 2)).toNatClampNeg (A 0 4) w) 2 (A 0 2) (hI S 2 (A 0 2) + 1)) ∧
    Vl x A (addC σ v w) (sI (sV (sV S (hI S 2 (A 0 2)).toNatClampNeg (A 0 3) v) (hI S 2 (A 0 2)).toNatClampNeg (A 0 4) w) 2 (A 0 2) (hI S 2 (A 0 2) + 1)) ∧
    FrC S (sI (sV (sV S (hI S 2 (A 0 2)).toNatClampNeg (A 0 3) v) (hI S 2 (A 0 2)).toNatClampNeg (A 0 4) w) 2 (A 0 2) (hI S 2 (A 0 2) + 1)) := by
  have hc := hv.2.2.2.1
  have e : (hI S 2 (A 0 2)).toNatClampNeg = vc σ := by rw [hc.1, nI_clamp (by omega)]
  rw [e]
  have ne : A 0 3 ≠ A 0 4 := hK_ne hs.kf hs.kt (by decide)
  refine ⟨hs, Vl.atc (T := sI (sV (sV S (vc σ) (A 0 3) v) (vc σ) (A 0 4) w) 2 (A 0 2) (hI S 2 (A 0 2) + 1)) (c := vc σ + 1) hs hv (fun _ _ h => hI_na h) ((hI_same _ _ _ _).trans (by rw [hc.1, nI_1])) (by omega) (fun i hi => ?_), ?_⟩
  · by_cases ei : i = vc σ
    · subst ei
      rw [if_pos (Eq.refl _), if_pos (Eq.refl _)]
      exact ⟨(hV_na ne).trans (hV_same _ _ _ _), hV_same _ _ _ _⟩
    · rw [if_neg ei, if_neg ei]
      obtain ⟨c1, c2⟩ := hc.2.2 i (by omega)
      exact ⟨(hV_na ne).trans ((hV_nk ei).trans c1), (hV_nk ei).trans ((hV_nk ei).trans c2)⟩
  · exact ((FrC.rfl.sV (lt14 hs.kf (by decide))).sV (lt14 hs.kt (by decide))).sI (lt14 hs.kc (by decide))
/-- one target's facts anew -/
def upT (σ : Sg) (k : Nat) (f : Nat → Int32) : Sg := (σ.1, fun k' j => if k' = k then f j else vt σ k' j, σ.2.2)
theorem Vl.tgt {G : JG} {x : Nat} {A : Nat → Nat → Nat} {σ : Sg} {S T : HS} (hs : Shp G x A (vn σ) S) (hv : Vl x A σ S) {k : Nat} (hk : k < vn σ) {f : Nat → Int32} (h1 : ∀ j a, a ≠ A 1 k → hI T j a = hI S j a) (h2 : ∀ j a, hV T j a = hV S j a)
    (i0 : hI T 0 (A 1 k) = hI S 0 (A 1 k)) (i2 : hI T 2 (A 1 k) = hI S 2 (A 1 k)) (i3 : hI T 3 (A 1 k) = hI S 3 (A 1 k)) (i4 : hI T 4 (A 1 k) = hI S 4 (A 1 k)) (i6 : hI T 6 (A 1 k) = f 4) (i7 : hI T 7 (A 1 k) = f 6) (i8 : hI T 8 (A 1 k) = f 7) (i9 : hI T 9 (A 1 k) = f 8) (i10 : hI T 10 (A 1 k) = f 9)
    (f0 : f 0 = vt σ k 0) (f1 : f 1 = vt σ k 1) (f2 : f 2 = vt σ k 2) (f3 : f 3 = vt σ k 3) (f5 : f 5 = vt σ k 5) : Vl x A (upT σ k f) T := by
  have ax : ∀ {a m}, hK S a = m → m ≠ 6 → a ≠ A 1 k := fun h1 h2 z => h2 (by rw [← h1, z]; exact hs.kg hk)
  have ii : ∀ {k a m v}, hK S a = m → m ≠ 6 → hI S k a = v → hI T k a = v := fun q1 q2 q3 => (h1 _ _ (ax q1 q2)).trans q3
  obtain ⟨⟨z0, z1, z2, z3⟩, ⟨m0, m1, m2, m3⟩, ⟨x2, x3, x4⟩, ⟨c2, c8, cc⟩, l2, ht⟩ := hv
  refine ⟨⟨ii hs.kz (by decide) z0, ii hs.kz (by decide) z1, ii hs.kz (by decide) z2, ii hs.kz (by decide) z3⟩, ⟨ii hs.km (by decide) m0, ii hs.km (by decide) m1, ii hs.km (by decide) m2, ii hs.km (by decide) m3⟩, ⟨ii hs.kx (by decide) x2, ii hs.kx (by decide) x3, ii hs.kx (by decide) x4⟩, ⟨ii hs.kc (by decide) c2, c8, fun i hi => ⟨(h2 _ _).trans (cc i hi).1, (h2 _ _).trans (cc i hi).2⟩⟩, ii hs.kl (by decide) l2, fun j hj => ?_⟩
  have hj' : j < vn σ := hj
  obtain ⟨t0, t1, t2, t3, t4, t5, t6, t7, t8, p0, p1, p2, p3⟩ := ht j hj'
  have hp := hs.kpt hj'
  by_cases e : j = k
  · subst e
    have ev : ∀ i, vt (upT σ j f) j i = f i := fun i => if_pos (Eq.refl _)
    rw [ev, ev, ev, ev, ev, ev, ev, ev, ev, ev, f0, f1, f2, f3, f5]
    exact ⟨i0.trans t0, i2.trans t1, i3.trans t2, i4.trans t3, i6, i7, i8, i9, i10, ii hp (by decide) p0, ii hp (by decide) p1, ii hp (by decide) p2, ii hp (by decide) p3⟩
  · have ev : ∀ i, vt (upT σ k f) j i = vt σ j i := fun i => if_neg e
    have hg : A 1 j ≠ A 1 k := fun z => e (hs.inj hj' hk (Or.inl z))
    rw [ev, ev, ev, ev, ev, ev, ev, ev, ev, ev]
    exact ⟨(h1 _ _ hg).trans t0, (h1 _ _ hg).trans t1, (h1 _ _ hg).trans t2, (h1 _ _ hg).trans t3, (h1 _ _ hg).trans t4, (h1 _ _ hg).trans t5, (h1 _ _ hg).trans t6, (h1 _ _ hg).trans t7, (h1 _ _ hg).trans t8, ii hp (by decide) p0, ii hp (by decide) p1, ii hp (by decide) p2, ii hp (by decide) p3⟩
/-- a target's outlook depends on the sky and on the target alone -/
theorem rsn_agr {σ σ' : Sg} {k : Nat} (h1 : σ'.1 = σ.1) (h2 : σ'.2.2.2 = σ.2.2.2) (h3 : ∀ j, vt σ' k j = vt σ k j) (t : Int32) : rsnV σ' k t = rsnV σ k t ∧ thV σ' k t = thV σ k t := by
  have e1 : ∀ i, vg σ' i = vg σ i := fun i => congrFun h1 i
  have e2 : cldV σ' t = cldV σ t := by unfold cldV vf vo vc; rw [h2]
  have e3 : thV σ' k t = thV σ k t := by unfold thV hgtV; rw [e1, e1, e1, h3, h3]
  refine ⟨?_, e3⟩
  unfold rsnV mnV liV mhV hgtV
  rw [e2, e3]
  simp only [e1, h3]
theorem rnD_agr {σ σ' : Sg} {k : Nat} (h1 : σ'.1 = σ.1) (h2 : σ'.2.2.2 = σ.2.2.2) (h3 : ∀ j, vt σ' k j = vt σ k j) (L : Nat) : ∀ d, rnD σ' k L d = rnD σ k L d
  | 0 => Eq.refl _
  | d + 1 => by rw [rnD, rnD, (rsn_agr h1 h2 h3 _).1, rnD_agr h1 h2 h3 L d]
theorem oF_agr {σ σ' : Sg} {k : Nat} (h1 : σ'.1 = σ.1) (h2 : σ'.2.2.2 = σ.2.2.2) (h3 : ∀ j, vt σ' k j = vt σ k j) (L : Nat) : ∀ d j, oF σ' k L d j = oF σ k L d j
  | 0, j => Eq.refl _
  | d + 1, j => by
    rw [oF, oF]
    simp only [oF_agr h1 h2 h3 L d, rnD_agr h1 h2 h3 L, (rsn_agr h1 h2 h3 _).2, h3]
theorem OutOK.agr {A : Nat → Nat → Nat} {σ σ' : Sg} {k : Nat} {S T : HS} (h : OutOK A σ k S) (h1 : σ'.1 = σ.1) (h2 : σ'.2.2.2 = σ.2.2.2) (h3 : ∀ j, vt σ' k j = vt σ k j) (i1 : ∀ j, hI T j (A 3 k) = hI S j (A 3 k)) (i2 : ∀ j, hV T j (A 4 k) = hV S j (A 4 k)) : OutOK A σ' k T := by
  have e : lnV σ' = lnV σ := by unfold lnV vg; rw [h1]
  refine ⟨fun j a b => ?_, fun i hi => ?_⟩
  · rw [i1, e, oF_agr h1 h2 h3]; exact h.1 j a b
  · rw [i2, h.2 i hi]
    unfold rnA
    rw [e, rnD_agr h1 h2 h3]
/-- want -/
def wnF (σ : Sg) (k : Nat) (h v n : Int32) : Nat → Int32 := fun j => if j = 4 then h else if j = 6 then v else if j = 7 then n else vt σ k j
theorem want_step {G : JG} {x : Nat} {A : Nat → Nat → Nat} {σ : Sg} {S : HS} {k : Nat} {h v n : Int32} (hc : CI G x A σ S) (hk : k < vn σ) :
    CS G x (upT σ k (wnF σ k h v n)) S (sI (sI (sI (sI (sI S 6 (A 1 k) h) 7 (A 1 k) v) 8 (A 1 k) n) 1 (A 3 k) 0) 1 (A 0 7) 0) := by
  obtain ⟨hs, hv, hr, ho, hp⟩ := hc
  have kg := hs.kg hk
  have ko := hs.ko hk
  have kp := hs.kp
  have n1 : A 1 k ≠ A 3 k := hK_ne kg ko (by decide)
  have n2 : A 1 k ≠ A 0 7 := hK_ne kg kp (by decide)
  have hvT : Vl x A (upT σ k (wnF σ k h v n)) (sI (sI (sI S 6 (A 1 k) h) 7 (A 1 k) v) 8 (A 1 k) n) := by
    refine hv.tgt hs hk (fun _ _ q => (hI_na q).trans ((hI_na q).trans (hI_na q))) (fun _ _ => Eq.refl _) ?_ ?_ ?_ ?_ ?_ ?_ ?_ ?_ ?_ (Eq.refl _) (Eq.refl _) (Eq.refl _) (Eq.refl _) (Eq.refl _)
    · exact (hI_nk (by decide)).trans ((hI_nk (by decide)).trans (hI_nk (by decide)))
    · exact (hI_nk (by decide)).trans ((hI_nk (by decide)).trans (hI_nk (by decide)))
    · exact (hI_nk (by decide)).trans ((hI_nk (by decide)).trans (hI_nk (by decide)))
    · exact (hI_nk (by decide)).trans ((hI_nk (by decide)).trans (hI_nk (by decide)))
    · exact (hI_nk (by decide)).trans ((hI_nk (by decide)).trans (hI_same _ _ _ _))
    · exact (hI_nk (by decide)).trans (hI_same _ _ _ _)
    · exact hI_same _ _ _ _
    · exact ((hI_nk (by decide)).trans ((hI_nk (by decide)).trans (hI_nk (by decide)))).trans (hv.tg hk).2.2.2.2.2.2.2.1
    · exact ((hI_nk (by decide)).trans ((hI_nk (by decide)).trans (hI_nk (by decide)))).trans (hv.tg hk).2.2.2.2.2.2.2.2.1
  have f3 : FrC S (sI (sI (sI S 6 (A 1 k) h) 7 (A 1 k) v) 8 (A 1 k) n) := ((FrC.rfl.sI (lt14 kg (by decide))).sI (lt14 kg (by decide))).sI (lt14 kg (by decide))
  have e0 : ∀ j a, a ≠ A 1 k → a ≠ A 3 k → a ≠ A 0 7 → hI (sI (sI (sI (sI (sI S 6 (A 1 k) h) 7 (A 1 k) v) 8 (A 1 k) n) 1 (A 3 k) 0) 1 (A 0 7) 0) j a = hI S j a := fun j a q1 q2 q3 => (hI_na q3).trans ((hI_na q2).trans ((hI_na q1).trans ((hI_na q1).trans (hI_na q1))))
  refine ⟨⟨A, hs, ?_, ?_, fun j hj => ?_, Or.inl (hI_same _ _ _ _)⟩, (f3.sI (lt14 ko (by decide))).sI (lt14 kp (by decide))⟩
  · exact Vl.w (σ := upT σ k (wnF σ k h v n)) (I := hI (sI (sI (sI (sI (sI S 6 (A 1 k) h) 7 (A 1 k) v) 8 (A 1 k) n) 1 (A 3 k) 0) 1 (A 0 7) 0)) (V := hV S) (S := sI (sI (sI S 6 (A 1 k) h) 7 (A 1 k) v) 8 (A 1 k) n) hs hvT (fun j a q1 q2 _ => (hI_na (fun z => q2 (by rw [z]; exact kp))).trans (hI_na (fun z => q1 (by rw [z]; exact ko)))) (fun _ _ _ _ => Eq.refl _)
  · obtain ⟨r0, r1, r2, r3, r4, r5, r6, r7, r8⟩ := hr
    refine ⟨r0, r1, r2, r3, r4, r5, r6, r7, fun j hj => ?_⟩
    by_cases e : j = k
    · subst e
      have ev : ∀ i, vt (upT σ j (wnF σ j h v n)) j i = wnF σ j h v n i := fun i => if_pos (Eq.refl _)
      rw [ev, ev, ev, ev, ev, ev, ev]
      exact r8 j hj
    · have ev : ∀ i, vt (upT σ k (wnF σ k h v n)) j i = vt σ j i := fun i => if_neg e
      rw [ev, ev, ev, ev, ev, ev, ev]
      exact r8 j hj
  · have hj' : j < vn σ := hj
    have na : A 3 j ≠ A 0 7 := hK_ne (hs.ko hj') kp (by decide)
    by_cases e : j = k
    · subst e
      exact Or.inl ((hI_na na).trans (hI_same _ _ _ _))
    · have n3 : A 3 j ≠ A 3 k := fun z => e (hs.inj hj' hk (Or.inr (Or.inl z)))
      have n4 : A 3 j ≠ A 1 k := hK_ne (hs.ko hj') kg (by decide)
      have eI := fun i => e0 i (A 3 j) n4 n3 na
      rcases ho j hj' with q | ⟨q1, q2⟩
      · exact Or.inl ((eI 1).trans q)
      · exact Or.inr ⟨(eI 1).trans q1, q2.agr (Eq.refl _) (Eq.refl _) (fun i => if_neg e) eI (fun _ => Eq.refl _)⟩
theorem setG_same (σ : Sg) (i : Nat) (v : Int32) : vg (setG σ i v) i = v := if_pos (Eq.refl i)
theorem setG_ne {σ : Sg} {i j : Nat} {v : Int32} (h : j ≠ i) : vg (setG σ i v) j = vg σ j := if_neg h
theorem clrC_g (σ : Sg) (j : Nat) : vg (clrC σ) j = vg σ j := Eq.refl _
/-- the next night -/
def nxt (σ : Sg) : Sg := clrC (setG (setG (setG σ 3 (vg σ 3 + 1)) 4 (im (vg σ 4 + 49) 1440)) 6 (im (vg σ 6 + 1) 30))
theorem nxt_rng {σ : Sg} (hr : Rng σ) (h : vg σ 3 < 60) : Rng (nxt σ) := by
  have hr0 := hr
  obtain ⟨r0, r1, r2, ⟨r3, -⟩, ⟨r4, r4'⟩, r5, ⟨r6, r6'⟩, -⟩ := hr
  have t3 : (vg σ 3 + 1).toInt = (vg σ 3).toInt + 1 := by
    have h1 := Int32.le_iff_toInt_le.mp r3
    have h2 := Int32.lt_iff_toInt_lt.mp h
    rw [show (0 : Int32).toInt = 0 by decide] at h1
    rw [show (60 : Int32).toInt = 60 by decide] at h2
    rw [fb_addI (by rw [show (1 : Int32).toInt = 1 by decide]; omega) (by rw [show (1 : Int32).toInt = 1 by decide]; omega), show (1 : Int32).toInt = 1 by decide]
  have nn : ∀ {a b : Int32} {m : Nat}, 0 ≤ a → a ≤ b → 0 < m → m < 2147483648 → ∀ c : Int32, 0 ≤ c.toInt → b.toInt + c.toInt < 2147483648 → ∃ j, j < m ∧ im (a + c) (nI m) = nI j := fun {a b m} h1 h2 h3 h4 c h5 h6 => by
    have q1 := Int32.le_iff_toInt_le.mp h1
    have q2 := Int32.le_iff_toInt_le.mp h2
    rw [show (0 : Int32).toInt = 0 by decide] at q1
    refine im_nn ?_ h3 h4
    rw [fb_addI (by omega) (by omega)]
    omega
  obtain ⟨j4, j4', e4⟩ := nn r4 r4' (show 0 < 1440 by decide) (by decide) 49 (by decide) (by decide)
  obtain ⟨j6, j6', e6⟩ := nn r6 r6' (show 0 < 30 by decide) (by decide) 1 (by decide) (by decide)
  have b3 : vg (nxt σ) 3 = vg σ 3 + 1 := Eq.refl _
  have b4 : vg (nxt σ) 4 = nI j4 := (show im (vg σ 4 + 49) 1440 = nI j4 from e4)
  have b6 : vg (nxt σ) 6 = nI j6 := (show im (vg σ 6 + 1) 30 = nI j6 from e6)
  refine hr0.cong r0 r1 r2 ⟨?_, ?_⟩ ?_ ⟨?_, ?_⟩ r5 ⟨?_, ?_⟩ (Eq.refl _) (Eq.refl _)
  · rw [b3]; refine Int32.le_iff_toInt_le.mpr ?_
    have h1 := Int32.le_iff_toInt_le.mp r3
    rw [show (0 : Int32).toInt = 0 by decide] at h1 ⊢
    omega
  · rw [b3]; refine Int32.le_iff_toInt_le.mpr ?_
    have h2 := Int32.lt_iff_toInt_lt.mp h
    rw [show (60 : Int32).toInt = 60 by decide] at h2 ⊢
    omega
  · rw [b3]; refine Int32.le_iff_toInt_le.mpr ?_; omega
  · rw [b4]; exact nI_pos' (by omega)
  · rw [b4]; exact (nI_leI (b := 1439) (by omega) (by decide)).mpr (by omega)
  · rw [b6]; exact nI_pos' (by omega)
  · rw [b6]; exact (nI_leI (b := 29) (by omega) (by decide)).mpr (by omega)
theorem clr_step {G : JG} {x : Nat} {A : Nat → Nat → Nat} {σ : Sg} {S : HS} (hs : Shp G x A (vn σ) S) (hv : Vl x A σ S) : Vl x A (clrC σ) (sI S 2 (A 0 2) 0) :=
  hv.atc hs (fun _ _ h => hI_na h) (hI_same _ _ _ _) (by omega) (fun i hi => absurd hi (Nat.not_lt_zero i))
/-- the heap behind the new night's fields -/
def nxS (S : HS) (x q cl : Nat) (v3 v4 d v6 : Int32) : HS := sI (sI (sP (ptS (sI S 4 x v3) q v4 d) 1 x (some q)) 2 x v6) 2 cl 0
theorem Shp.sI {G : JG} {x n k a : Nat} {A : Nat → Nat → Nat} {S : HS} {v : Int32} (hs : Shp G x A n S) : Shp G x A n (sI S k a v) := hs
theorem nx_step {G : JG} {x q : Nat} {A : Nat → Nat → Nat} {σ : Sg} {S : HS} {v3 v4 d v6 : Int32} (hs : Shp G x A (vn σ) S) (hv : Vl x A σ S) (hq : hK S q = 0) :
    Shp G x (upA A 0 1 q) (vn σ) (nxS S x q (A 0 2) v3 v4 d v6) ∧ Vl x (upA A 0 1 q) (clrC (setG (setG (setG (setG σ 3 v3) 4 v4) 5 d) 6 v6)) (nxS S x q (A 0 2) v3 v4 d v6) ∧ FrC S (nxS S x q (A 0 2) v3 v4 d v6) := by
  have hs1 : Shp G x A (vn σ) (sI S 4 x v3) := hs.sI
  obtain ⟨h2, h3, h4⟩ := moon_step (G := G) (A := A) (σ := setG σ 3 v3) (S := sI S 4 x v3) (ri := v4) (de := d) hs1 (nit_step (v := v3) hs hv) (by rw [hK_sI]; exact hq)
  have h5 : Shp G x (upA A 0 1 q) (vn σ) (sI (sP (ptS (sI S 4 x v3) q v4 d) 1 x (some q)) 2 x v6) := h2.sI
  have h6 := age_step (σ := setG (setG (setG σ 3 v3) 4 v4) 5 d) (v := v6) h2 h3
  have e2 : upA A 0 1 q 0 2 = A 0 2 := if_neg (by decide)
  have h7 := clr_step (A := upA A 0 1 q) (G := G) (σ := setG (setG (setG (setG σ 3 v3) 4 v4) 5 d) 6 v6) h5 h6
  have k2 := h5.kc
  rw [e2] at h7 k2
  have f1 : FrC S (sI S 4 x v3) := FrC.rfl.sI (lt14 hs.kx (by decide))
  have f2 := (f1.trans h4).sI (k := 2) (v := v6) (lt14 h2.kx (by decide))
  exact ⟨h5.sI, h7, f2.sI (lt14 k2 (by decide))⟩
theorem nxt_cong {x : Nat} {A : Nat → Nat → Nat} {σ : Sg} {T : HS} (h : Vl x A (clrC (setG (setG (setG (setG σ 3 (vg σ 3 + 1)) 4 (im (vg σ 4 + 49) 1440)) 5 (vg σ 5)) 6 (im (vg σ 6 + 1) 30))) T) : Vl x A (nxt σ) T := by
  refine h.cong (fun i hi => ?_) (Eq.refl _)
  unfold nxt
  rw [clrC_g, clrC_g]
  by_cases c6 : i = 6
  · subst c6; rw [setG_same, setG_same]
  · rw [setG_ne c6, setG_ne c6]
    by_cases c5 : i = 5
    · subst c5; rw [setG_same, setG_ne (by decide), setG_ne (by decide)]
    · rw [setG_ne c5]
