/-! the state's parts set anew -/
theorem tfS_eq {x : Nat} {A : Nat → Nat → Nat} {σ : Sg} {S : HS} (hv : Vl x A σ S) {k j : Nat} (hk : k < vn σ) (hj : j < 10) : tfS S (A 1 k) (A 2 k) j = vt σ k j := by
  obtain ⟨t0, t1, t2, t3, t4, t5, t6, t7, t8, p0, p1, p2, p3⟩ := hv.tg hk
  unfold tfS
  rcases (show j = 0 ∨ j = 1 ∨ j = 2 ∨ j = 3 ∨ j = 4 ∨ j = 5 ∨ j = 6 ∨ j = 7 ∨ j = 8 ∨ j = 9 by omega) with rfl | rfl | rfl | rfl | rfl | rfl | rfl | rfl | rfl | rfl
  · exact p0
  · exact p1
  · exact t1
  · exact t2
  · exact t4
  · exact t3
  · exact t5
  · exact t6
  · exact t7
  · exact t8
theorem Vl.zen {x : Nat} {A : Nat → Nat → Nat} {σ : Sg} {T : HS} {q : Nat} {la st : Int32} (hv : Vl x A σ T) (h0 : hI T 0 q = st) (h1 : hI T 1 q = la) (h2 : hI T 2 q = sn la) (h3 : hI T 3 q = sn (la + 90)) : Vl x (upA A 0 0 q) (setG (setG σ 0 la) 1 st) (sP T 0 x (some q)) :=
  ⟨⟨h0, h1, h2, h3⟩, hv.2.1, hv.2.2.1, hv.2.2.2.1, hv.2.2.2.2.1, hv.2.2.2.2.2⟩
/-- only the fields of x itself differ -/
theorem Vl.atx {G : JG} {x : Nat} {A : Nat → Nat → Nat} {σ : Sg} {S T : HS} (hs : Shp G x A (vn σ) S) (hv : Vl x A σ S) (h1 : ∀ j a, a ≠ x → hI T j a = hI S j a) (h2 : ∀ j a, hV T j a = hV S j a) {g2 g3 g6 : Int32} (e6 : hI T 2 x = g6) (e2 : hI T 3 x = g2) (e3 : hI T 4 x = g3) : Vl x A (setG (setG (setG σ 2 g2) 3 g3) 6 g6) T := by
  have ax : ∀ {a m}, hK S a = m → m ≠ 7 → a ≠ x := fun h1 h2 z => h2 (by rw [← h1, z]; exact hs.kx)
  have ii : ∀ {k a m v}, hK S a = m → m ≠ 7 → hI S k a = v → hI T k a = v := fun q1 q2 q3 => (h1 _ _ (ax q1 q2)).trans q3
  obtain ⟨⟨z0, z1, z2, z3⟩, ⟨m0, m1, m2, m3⟩, -, ⟨c2, c8, cc⟩, l2, ht⟩ := hv
  refine ⟨⟨ii hs.kz (by decide) z0, ii hs.kz (by decide) z1, ii hs.kz (by decide) z2, ii hs.kz (by decide) z3⟩, ⟨ii hs.km (by decide) m0, ii hs.km (by decide) m1, ii hs.km (by decide) m2, ii hs.km (by decide) m3⟩, ⟨e6, e2, e3⟩, ⟨ii hs.kc (by decide) c2, c8, fun i hi => ⟨(h2 _ _).trans (cc i hi).1, (h2 _ _).trans (cc i hi).2⟩⟩, ii hs.kl (by decide) l2, fun k hk => ?_⟩
  obtain ⟨t0, t1, t2, t3, t4, t5, t6, t7, t8, p0, p1, p2, p3⟩ := ht k hk
  have hg := hs.kg hk
  have hp := hs.kpt hk
  exact ⟨ii hg (by decide) t0, ii hg (by decide) t1, ii hg (by decide) t2, ii hg (by decide) t3, ii hg (by decide) t4, ii hg (by decide) t5, ii hg (by decide) t6, ii hg (by decide) t7, ii hg (by decide) t8, ii hp (by decide) p0, ii hp (by decide) p1, ii hp (by decide) p2, ii hp (by decide) p3⟩
theorem Vl.moon {x : Nat} {A : Nat → Nat → Nat} {σ : Sg} {T : HS} {q : Nat} {ri de : Int32} (hv : Vl x A σ T) (h0 : hI T 0 q = ri) (h1 : hI T 1 q = de) (h2 : hI T 2 q = sn de) (h3 : hI T 3 q = sn (de + 90)) : Vl x (upA A 0 1 q) (setG (setG σ 4 ri) 5 de) (sP T 1 x (some q)) :=
  ⟨hv.1, ⟨h0, h1, h2, h3⟩, hv.2.2.1, hv.2.2.2.1, hv.2.2.2.2.1, hv.2.2.2.2.2⟩
def addC (σ : Sg) (v w : Int32) : Sg := (σ.1, σ.2.1, vn σ, vc σ + 1, (fun i => if i = vc σ then v else vf σ i), fun i => if i = vc σ then w else vo σ i)
def clrC (σ : Sg) : Sg := (σ.1, σ.2.1, vn σ, 0, σ.2.2.2.2)
/-- only clouds, from, to differ -/
theorem Vl.atc {G : JG} {x : Nat} {A : Nat → Nat → Nat} {σ : Sg} {S T : HS} (hs : Shp G x A (vn σ) S) (hv : Vl x A σ S) (h1 : ∀ j a, a ≠ A 0 2 → hI T j a = hI S j a) {c : Nat} {ff tt : Nat → Int32} (hc : hI T 2 (A 0 2) = nI c) (h8 : c ≤ 8) (hcc : ∀ i, i < c → hV T i (A 0 3) = ff i ∧ hV T i (A 0 4) = tt i) : Vl x A (σ.1, σ.2.1, vn σ, c, ff, tt) T := by
  have ax : ∀ {a m}, hK S a = m → m ≠ 2 → a ≠ A 0 2 := fun h1 h2 z => h2 (by rw [← h1, z]; exact hs.kc)
  have ii : ∀ {k a m v}, hK S a = m → m ≠ 2 → hI S k a = v → hI T k a = v := fun q1 q2 q3 => (h1 _ _ (ax q1 q2)).trans q3
  obtain ⟨⟨z0, z1, z2, z3⟩, ⟨m0, m1, m2, m3⟩, ⟨x2, x3, x4⟩, -, l2, ht⟩ := hv
  refine ⟨⟨ii hs.kz (by decide) z0, ii hs.kz (by decide) z1, ii hs.kz (by decide) z2, ii hs.kz (by decide) z3⟩, ⟨ii hs.km (by decide) m0, ii hs.km (by decide) m1, ii hs.km (by decide) m2, ii hs.km (by decide) m3⟩, ⟨ii hs.kx (by decide) x2, ii hs.kx (by decide) x3, ii hs.kx (by decide) x4⟩, ⟨hc, h8, hcc⟩, ii hs.kl (by decide) l2, fun k hk => ?_⟩
  obtain ⟨t0, t1, t2, t3, t4, t5, t6, t7, t8, p0, p1, p2, p3⟩ := ht k hk
  have hg := hs.kg hk
  have hp := hs.kpt hk
  exact ⟨ii hg (by decide) t0, ii hg (by decide) t1, ii hg (by decide) t2, ii hg (by decide) t3, ii hg (by decide) t4, ii hg (by decide) t5, ii hg (by decide) t6, ii hg (by decide) t7, ii hg (by decide) t8, ii hp (by decide) p0, ii hp (by decide) p1, ii hp (by decide) p2, ii hp (by decide) p3⟩
theorem Vl.cong {x : Nat} {A : Nat → Nat → Nat} {σ σ' : Sg} {T : HS} (hv : Vl x A σ T) (h1 : ∀ i, i < 7 → vg σ' i = vg σ i) (h2 : σ'.2 = σ.2) : Vl x A σ' T := by
  obtain ⟨⟨z0, z1, z2, z3⟩, ⟨m0, m1, m2, m3⟩, ⟨x2, x3, x4⟩, r⟩ := hv
  have e : ∀ i, i < 7 → vg σ i = vg σ' i := fun i hi => (h1 i hi).symm
  rw [e 1 (by decide)] at z0
  rw [e 0 (by decide)] at z1 z2 z3
  rw [e 4 (by decide)] at m0
  rw [e 5 (by decide)] at m1 m2 m3
  rw [e 6 (by decide)] at x2
  rw [e 2 (by decide)] at x3
  rw [e 3 (by decide)] at x4
  obtain ⟨g, r2⟩ := σ
  obtain ⟨g', r2'⟩ := σ'
  replace h2 : r2' = r2 := h2
  subst h2
  exact ⟨⟨z0, z1, z2, z3⟩, ⟨m0, m1, m2, m3⟩, ⟨x2, x3, x4⟩, r⟩
theorem Rng.cong {σ σ' : Sg} (h : Rng σ) (h0 : -90 ≤ vg σ' 0 ∧ vg σ' 0 ≤ 90) (h1 : 0 ≤ vg σ' 1 ∧ vg σ' 1 ≤ 1439) (h2 : 60 ≤ vg σ' 2 ∧ vg σ' 2 ≤ 900) (h3 : 0 ≤ vg σ' 3 ∧ vg σ' 3 ≤ 60) (h33 : vg σ 3 ≤ vg σ' 3) (h4 : 0 ≤ vg σ' 4 ∧ vg σ' 4 ≤ 1439) (h5 : -90 ≤ vg σ' 5 ∧ vg σ' 5 ≤ 90) (h6 : 0 ≤ vg σ' 6 ∧ vg σ' 6 ≤ 29) (hn : vn σ' = vn σ) (ht : σ'.2.1 = σ.2.1) : Rng σ' := by
  obtain ⟨-, -, -, -, -, -, -, r8, r9⟩ := h
  refine ⟨h0, h1, h2, h3, h4, h5, h6, by rw [hn]; exact r8, fun k hk => ?_⟩
  obtain ⟨a0, a1, a2, a3, a5, a8, a9⟩ := r9 k (by rw [hn] at hk; exact hk)
  unfold vt
  rw [ht]
  exact ⟨a0, a1, a2, a3, a5, ⟨a8.1, Int32.le_trans a8.2 h33⟩, a9⟩
theorem opI_nar (σ : Sg) (k : Nat) : narrow .boolean (.int (opI σ k)) = .int (opI σ k) := by
  unfold opI bI
  split <;> rfl
/-- a window's fact: 0 first 1 last 2 how many 3 highest 4 begin -/
def wnV (σ : Sg) (k j : Nat) : Int32 := oF σ k (lnV σ) (lnV σ) (if j = 0 then 2 else if j = 1 then 3 else if j = 2 then 4 else if j = 3 then 5 else 7)
theorem wn_eq {A : Nat → Nat → Nat} {σ : Sg} {k j : Nat} {T : HS} (h : OutOK A σ k T) (hj : j < 5) : hI T (if j = 0 then 2 else if j = 1 then 3 else if j = 2 then 4 else if j = 3 then 5 else 7) (A 3 k) = wnV σ k j := by
  unfold wnV
  refine h.1 _ ?_ ?_ <;> (repeat' split) <;> omega
