/-! the class's invariant, and what a change of the sky leaves -/
theorem Ct.mono {G : JG} {y : MethodName} {cc : ByteArray} {nL : Nat} {ret : Option FieldType} {fr lo mc ms : Nat} {as : List Value} {S : HS} {R R' : Option Value → HS → Prop} {RX RX' : String → HS → Prop} (h : Ct G y cc nL ret fr lo mc ms as S R RX) (h1 : ∀ v T, R v T → R' v T) (h2 : ∀ E T, RX E T → RX' E T) : Ct G y cc nL ret fr lo mc ms as S R' RX' := by
  intro l hl
  refine MetFree.mono (h l hl) (fun _ _ q => q) (fun _ _ _ _ _ q => q) ?_
  intro a st o t _ hq
  rcases hq with ⟨⟨⟨v, S', g1, g2, g3⟩, g4⟩, g5⟩ | ⟨q, e, E, ce, L, ⟨⟨S', x1, x2⟩, x3⟩, hx⟩
  · exact Or.inl ⟨⟨⟨v, S', g1, h1 _ _ g2, g3⟩, g4⟩, g5⟩
  · exact Or.inr ⟨q, e, E, ce, L, ⟨⟨S', h2 _ _ x1, x2⟩, x3⟩, hx⟩
def PcI (A : Nat → Nat → Nat) (σ : Sg) (T : HS) : Prop := hI T 1 (A 0 7) = 0 ∨ (hI T 1 (A 0 7) = 1 ∧ PlOK A σ (plV σ) T ∧ ∀ k, k < vn σ → hI T 1 (A 3 k) = 1)
def CI (G : JG) (x : Nat) (A : Nat → Nat → Nat) (σ : Sg) (S : HS) : Prop := Shp G x A (vn σ) S ∧ Vl x A σ S ∧ Rng σ ∧ OcI A σ S ∧ PcI A σ S
/-- all of a cell is as it was -/
def same1 (S T : HS) (a : Nat) : Prop := hK T a = hK S a ∧ hN T a = hN S a ∧ (∀ k, hI T k a = hI S k a) ∧ (∀ k, hP T k a = hP S k a) ∧ (∀ k, hV T k a = hV S k a) ∧ (∀ k, hL T k a = hL S k a)
/-- what the class's methods leave alone: the law's and the model's cells; and no label is lost -/
def FrC (S T : HS) : Prop := (∀ a, 14 ≤ hK S a → same1 S T a) ∧ ∀ a, hK S a ≠ 0 → hK T a = hK S a
theorem same1.rfl {S : HS} {a : Nat} : same1 S S a := ⟨Eq.refl _, Eq.refl _, fun _ => Eq.refl _, fun _ => Eq.refl _, fun _ => Eq.refl _, fun _ => Eq.refl _⟩
theorem same1.trans {S T U : HS} {a : Nat} (h : same1 S T a) (g : same1 T U a) : same1 S U a := by
  obtain ⟨h1, h2, h3, h4, h5, h6⟩ := h
  obtain ⟨g1, g2, g3, g4, g5, g6⟩ := g
  exact ⟨g1.trans h1, g2.trans h2, fun k => (g3 k).trans (h3 k), fun k => (g4 k).trans (h4 k), fun k => (g5 k).trans (h5 k), fun k => (g6 k).trans (h6 k)⟩
theorem FrC.rfl {S : HS} : FrC S S := ⟨fun _ _ => same1.rfl, fun _ _ => Eq.refl _⟩
theorem FrC.trans {S T U : HS} (h : FrC S T) (g : FrC T U) : FrC S U := by
  refine ⟨fun a ha => (h.1 a ha).trans (g.1 a (by rw [(h.1 a ha).1]; exact ha)), fun a ha => (g.2 a (by rw [h.2 a ha]; exact ha)).trans (h.2 a ha)⟩
theorem FrP.frc {S T : HS} (h : FrP S T) : FrC S T := by
  obtain ⟨h1, h2, h3, h4, h5, h6⟩ := h
  exact ⟨fun a ha => ⟨h1 a, h2 a, fun k => h5 k a (by omega) (by omega) (by omega), fun k => h4 k a (by omega), fun k => h6 k a (by omega) (by omega), fun k => h3 k a⟩, fun a _ => h1 a⟩
theorem frc_sI {S : HS} {k a : Nat} {v : Int32} (h : hK S a < 14) : FrC S (sI S k a v) := ⟨fun b hb => ⟨Eq.refl _, Eq.refl _, fun j => hI_na (fun z => by rw [z] at hb; omega), fun _ => Eq.refl _, fun _ => Eq.refl _, fun _ => Eq.refl _⟩, fun _ _ => Eq.refl _⟩
theorem frc_sV {S : HS} {k a : Nat} {v : Int32} (h : hK S a < 14) : FrC S (sV S k a v) := ⟨fun b hb => ⟨Eq.refl _, Eq.refl _, fun _ => Eq.refl _, fun _ => Eq.refl _, fun j => hV_na (fun z => by rw [z] at hb; omega), fun _ => Eq.refl _⟩, fun _ _ => Eq.refl _⟩
theorem frc_sP {S : HS} {k a : Nat} {v : Option Nat} (h : hK S a < 14) : FrC S (sP S k a v) := ⟨fun b hb => ⟨Eq.refl _, Eq.refl _, fun _ => Eq.refl _, fun j => hP_na (fun z => by rw [z] at hb; omega), fun _ => Eq.refl _, fun _ => Eq.refl _⟩, fun _ _ => Eq.refl _⟩
/-- T is S but at the new cell q -/
def newAt (S T : HS) (q : Nat) : Prop := hK S q = 0 ∧ ∀ a, a ≠ q → same1 S T a
theorem newAt.of {S : HS} {q lab n : Nat} (h : hK S q = 0) : newAt S (sNew S q lab n) q := ⟨h, fun a ha => ⟨if_neg ha, if_neg ha, fun _ => if_neg ha, fun _ => if_neg ha, fun _ => if_neg ha, fun _ => if_neg ha⟩⟩
theorem newAt.sI {S T : HS} {q k : Nat} {v : Int32} (h : newAt S T q) : newAt S (sI T k q v) q := ⟨h.1, fun a ha => (h.2 a ha).trans ⟨Eq.refl _, Eq.refl _, fun _ => hI_na ha, fun _ => Eq.refl _, fun _ => Eq.refl _, fun _ => Eq.refl _⟩⟩
theorem newAt.sP {S T : HS} {q k : Nat} {v : Option Nat} (h : newAt S T q) : newAt S (sP T k q v) q := ⟨h.1, fun a ha => (h.2 a ha).trans ⟨Eq.refl _, Eq.refl _, fun _ => Eq.refl _, fun _ => hP_na ha, fun _ => Eq.refl _, fun _ => Eq.refl _⟩⟩
theorem newAt.old {S T : HS} {q a : Nat} (h : newAt S T q) (ha : hK S a ≠ 0) : same1 S T a := h.2 a (fun z => ha (by rw [z]; exact h.1))
theorem newAt.frc {S T : HS} {q : Nat} (h : newAt S T q) : FrC S T := ⟨fun a ha => h.old (by omega), fun a ha => (h.old ha).1⟩
/-- what is labelled stays: so does the shape -/
theorem Shp.off {G : JG} {x n : Nat} {A : Nat → Nat → Nat} {S T : HS} (hs : Shp G x A n S) (h : ∀ a, (hK S a ≠ 0 ∧ hK S a ≤ 13) → hK T a = hK S a ∧ hN T a = hN S a ∧ ∀ k, hP T k a = hP S k a) : Shp G x A n T := by
  have kk : ∀ {a m}, hK S a = m → (m ≠ 0 ∧ m ≤ 13) → hK T a = m := fun q1 q2 => (h _ (by rw [q1]; exact q2)).1.trans q1
  have nn : ∀ {a m l}, hK S a = m → (m ≠ 0 ∧ m ≤ 13) → hN S a = l → hN T a = l := fun q1 q2 q3 => (h _ (by rw [q1]; exact q2)).2.1.trans q3
  have pp : ∀ {k a m v}, hK S a = m → (m ≠ 0 ∧ m ≤ 13) → hP S k a = v → hP T k a = v := fun q1 q2 q3 => ((h _ (by rw [q1]; exact q2)).2.2 _).trans q3
  refine ⟨⟨kk hs.kx (by decide), pp hs.kx (by decide) hs.pz, kk hs.kz (by decide), pp hs.kx (by decide) hs.pm, kk hs.km (by decide)⟩, ⟨pp hs.kx (by decide) hs.pc, kk hs.kc (by decide), pp hs.kc (by decide) hs.pf, kk hs.kf (by decide), nn hs.kf (by decide) hs.nf, pp hs.kc (by decide) hs.pt, kk hs.kt (by decide), nn hs.kt (by decide) hs.nt⟩,
    ⟨pp hs.kx (by decide) hs.pl, kk hs.kl (by decide), pp hs.kl (by decide) hs.pe, hs.n20, ?_⟩, ⟨pp hs.kx (by decide) hs.pp, kk hs.kp (by decide), pp hs.kp (by decide) hs.pr, kk hs.kr (by decide), nn hs.kr (by decide) hs.nr⟩, fun i hi => ⟨pp hs.kr (by decide) (hs.row hi), kk (hs.krow hi) (by decide), nn (hs.krow hi) (by decide) (hs.nrow hi)⟩, fun i j hi hj e => hs.irow hi hj e,
    fun k hk => ⟨pp (hs.ked hk) (by decide) (hs.pg hk), kk (hs.kg hk) (by decide), pp (hs.kg hk) (by decide) (hs.ppt hk), kk (hs.kpt hk) (by decide), pp (hs.kg hk) (by decide) (hs.po hk), kk (hs.ko hk) (by decide), pp (hs.ko hk) (by decide) (hs.pru hk), kk (hs.kru hk) (by decide), nn (hs.kru hk) (by decide) (hs.nru hk)⟩, fun i j hi hj e => hs.inj hi hj e, fun q e => hs.pnt ((pp hs.kp (by decide) (Eq.refl (hP S 4 (A 0 7)))).symm.trans e)⟩
  rcases hs.ed with q | ⟨q1, q2, q3⟩
  · exact Or.inl q
  · have e := nn q1 (by decide) (Eq.refl (hN S (A 0 6)))
    exact Or.inr ⟨kk q1 (by decide), by rw [e]; exact q2, by rw [e]; exact q3⟩
theorem Vl.off {G : JG} {x : Nat} {A : Nat → Nat → Nat} {σ : Sg} {S T : HS} (hs : Shp G x A (vn σ) S) (hv : Vl x A σ S) (h : ∀ a, (hK S a ≠ 0 ∧ hK S a ≤ 13) → (∀ k, hI T k a = hI S k a) ∧ ∀ k, hV T k a = hV S k a) : Vl x A σ T := by
  have ii : ∀ {k a m v}, hK S a = m → (m ≠ 0 ∧ m ≤ 13) → hI S k a = v → hI T k a = v := fun q1 q2 q3 => ((h _ (by rw [q1]; exact q2)).1 _).trans q3
  have vv : ∀ {k a m v}, hK S a = m → (m ≠ 0 ∧ m ≤ 13) → hV S k a = v → hV T k a = v := fun q1 q2 q3 => ((h _ (by rw [q1]; exact q2)).2 _).trans q3
  obtain ⟨⟨z0, z1, z2, z3⟩, ⟨m0, m1, m2, m3⟩, ⟨x2, x3, x4⟩, ⟨c2, c8, cc⟩, l2, ht⟩ := hv
  refine ⟨⟨ii hs.kz (by decide) z0, ii hs.kz (by decide) z1, ii hs.kz (by decide) z2, ii hs.kz (by decide) z3⟩, ⟨ii hs.km (by decide) m0, ii hs.km (by decide) m1, ii hs.km (by decide) m2, ii hs.km (by decide) m3⟩, ⟨ii hs.kx (by decide) x2, ii hs.kx (by decide) x3, ii hs.kx (by decide) x4⟩,
    ⟨ii hs.kc (by decide) c2, c8, fun i hi => ⟨vv hs.kf (by decide) (cc i hi).1, vv hs.kt (by decide) (cc i hi).2⟩⟩, ii hs.kl (by decide) l2, fun k hk => ?_⟩
  obtain ⟨t0, t1, t2, t3, t4, t5, t6, t7, t8, p0, p1, p2, p3⟩ := ht k hk
  have hg := hs.kg hk
  have hp := hs.kpt hk
  exact ⟨ii hg (by decide) t0, ii hg (by decide) t1, ii hg (by decide) t2, ii hg (by decide) t3, ii hg (by decide) t4, ii hg (by decide) t5, ii hg (by decide) t6, ii hg (by decide) t7, ii hg (by decide) t8, ii hp (by decide) p0, ii hp (by decide) p1, ii hp (by decide) p2, ii hp (by decide) p3⟩
def upA (A : Nat → Nat → Nat) (i j q : Nat) : Nat → Nat → Nat := fun a b => if a = i ∧ b = j then q else A a b
/-- another zenith (k = 0) or moon (k = 1) -/
theorem Shp.newpt {G : JG} {x n q k : Nat} {A : Nat → Nat → Nat} {S : HS} (hs : Shp G x A n S) (hq : hK S q = 5) (hk : k = 0 ∨ k = 1) : Shp G x (upA A 0 k q) n (sP S k x (some q)) := by
  have pn : ∀ {j a v}, (a = x → j ≠ k) → hP S j a = v → hP (sP S k x (some q)) j a = v := fun {j a v} h1 h2 => by
    rw [hP_sP, if_neg (fun z => h1 z.2 z.1)]; exact h2
  have ax : ∀ {a m}, hK S a = m → m ≠ 7 → a ≠ x := fun h1 h2 z => h2 (by rw [← h1, z]; exact hs.kx)
  have e0 : ∀ {j}, 2 ≤ j → upA A 0 k q 0 j = A 0 j := fun {j} hj => if_neg (fun z => by omega)
  have e1 : ∀ {i j}, i ≠ 0 → upA A 0 k q i j = A i j := fun {i j} hi => if_neg (fun z => hi z.1)
  have ed := hs.ed
  unfold Shp
  simp only [e0 (show 2 ≤ 2 by decide), e0 (show 2 ≤ 3 by decide), e0 (show 2 ≤ 4 by decide), e0 (show 2 ≤ 5 by decide), e0 (show 2 ≤ 6 by decide), e0 (show 2 ≤ 7 by decide), e0 (show 2 ≤ 8 by decide), e1 (show (1 : Nat) ≠ 0 by decide), e1 (show (2 : Nat) ≠ 0 by decide), e1 (show (3 : Nat) ≠ 0 by decide), e1 (show (4 : Nat) ≠ 0 by decide), e1 (show (5 : Nat) ≠ 0 by decide)]
  refine ⟨⟨hs.kx, ?_, ?_, ?_, ?_⟩, ⟨pn (by omega) hs.pc, hs.kc, pn (fun z => absurd z (ax hs.kc (by decide))) hs.pf, hs.kf, hs.nf, pn (fun z => absurd z (ax hs.kc (by decide))) hs.pt, hs.kt, hs.nt⟩, ⟨pn (by omega) hs.pl, hs.kl, pn (fun z => absurd z (ax hs.kl (by decide))) hs.pe, hs.n20, ed⟩, ⟨pn (by omega) hs.pp, hs.kp, pn (fun z => absurd z (ax hs.kp (by decide))) hs.pr, hs.kr, hs.nr⟩,
    fun i hi => ⟨pn (fun z => absurd z (ax hs.kr (by decide))) (hs.row hi), hs.krow hi, hs.nrow hi⟩, fun i j hi hj e => hs.irow hi hj e, fun i hi => ⟨pn (fun z => absurd z (ax (hs.ked hi) (by decide))) (hs.pg hi), hs.kg hi, pn (fun z => absurd z (ax (hs.kg hi) (by decide))) (hs.ppt hi), hs.kpt hi, pn (fun z => absurd z (ax (hs.kg hi) (by decide))) (hs.po hi), hs.ko hi, pn (fun z => absurd z (ax (hs.ko hi) (by decide))) (hs.pru hi), hs.kru hi, hs.nru hi⟩, fun i j hi hj e => hs.inj hi hj e,
    fun q' e => hs.pnt ((pn (fun z => absurd z (ax hs.kp (by decide))) (Eq.refl (hP S 4 (A 0 7)))).symm.trans e)⟩
  · rcases hk with rfl | rfl
    · exact (hP_same _ _ _ _).trans (congrArg some (if_pos ⟨Eq.refl _, Eq.refl _⟩).symm)
    · rw [show upA A 0 1 q 0 0 = A 0 0 from if_neg (by decide)]; exact pn (by omega) hs.pz
  · rcases hk with rfl | rfl
    · rw [show upA A 0 0 q 0 0 = q from if_pos ⟨Eq.refl _, Eq.refl _⟩]; exact hq
    · rw [show upA A 0 1 q 0 0 = A 0 0 from if_neg (by decide)]; exact hs.kz
  · rcases hk with rfl | rfl
    · rw [show upA A 0 0 q 0 1 = A 0 1 from if_neg (by decide)]; exact pn (by omega) hs.pm
    · exact (hP_same _ _ _ _).trans (congrArg some (if_pos ⟨Eq.refl _, Eq.refl _⟩).symm)
  · rcases hk with rfl | rfl
    · rw [show upA A 0 0 q 0 1 = A 0 1 from if_neg (by decide)]; exact hs.km
    · rw [show upA A 0 1 q 0 1 = q from if_pos ⟨Eq.refl _, Eq.refl _⟩]; exact hq
theorem CI.of0 {G : JG} {x : Nat} {A : Nat → Nat → Nat} {σ : Sg} {S : HS} (hs : Shp G x A (vn σ) S) (hv : Vl x A σ S) (hr : Rng σ) (h0 : ∀ k, k < vn σ → hI S 1 (A 3 k) = 0) (hp : hI S 1 (A 0 7) = 0) : CI G x A σ S := ⟨hs, hv, hr, fun k hk => Or.inl (h0 k hk), Or.inl hp⟩
/-- behind forgetNight nothing is kept -/
theorem fn_CI {G : JG} {x : Nat} {A : Nat → Nat → Nat} {σ : Sg} {S : HS} {I : Nat → Nat → Int32} (hs : Shp G x A (vn σ) S) (hv : Vl x A σ S) (hr : Rng σ) (h : (∀ j a, j ≠ 1 → I j a = hI S j a) ∧ (∀ a, a ≠ A 0 7 → (∀ j, j < vn σ → a ≠ A 3 j) → I 1 a = hI S 1 a) ∧ I 1 (A 0 7) = 0 ∧ ∀ j, j < vn σ → I 1 (A 3 j) = 0) : CI G x A σ (wIV S I (hV S)) ∧ FrC S (wIV S I (hV S)) := by
  obtain ⟨h1, h2, h3, h4⟩ := h
  have ho : ∀ j a, hK S a ≠ 3 → hK S a ≠ 4 → I j a = hI S j a := fun j a q1 q2 => by
    by_cases e : j = 1
    · subst e
      exact h2 a (fun z => q2 (by rw [z]; exact hs.kp)) (fun j hj z => q1 (by rw [z]; exact hs.ko hj))
    · exact h1 j a e
  exact ⟨CI.of0 (hs.w I (hV S)) (Vl.w hs hv (fun j a q1 q2 _ => ho j a q1 q2) (fun _ _ _ _ => Eq.refl _)) hr h4 h3, fun a ha => ⟨Eq.refl _, Eq.refl _, fun k => ho k a (by omega) (by omega), fun _ => Eq.refl _, fun _ => Eq.refl _, fun _ => Eq.refl _⟩, fun _ _ => Eq.refl _⟩
def setG (σ : Sg) (i : Nat) (v : Int32) : Sg := (fun j => if j = i then v else vg σ j, σ.2)
def setT (σ : Sg) (k j : Nat) (v : Int32) : Sg := (σ.1, fun k' j' => if k' = k ∧ j' = j then v else vt σ k' j', σ.2.2)
/-- settlePlan at a state that holds -/
def ST (A : Nat → Nat → Nat) (σ : Sg) (T : HS) : Prop := PlOK A σ (plV σ) T ∧ ∀ k, k < vn σ → OutOK A σ k T
theorem c_settle {G : JG} (S : HS) (x : Nat) (A : Nat → Nat → Nat) (σ : Sg) (h : CI G x A σ S) : Ct G yX5_settlePlan cX5_settlePlan 3 none 7 260 0 0 [.ref x] S (rV (fun S' => CI G x A σ S' ∧ FrC S S' ∧ ST A σ S')) noX := by
  obtain ⟨hs, hv, hr, ho, hp⟩ := h
  have mono : ∀ {P Q : HS → Prop}, (∀ T, P T → Q T) → Ct G yX5_settlePlan cX5_settlePlan 3 none 7 260 0 0 [.ref x] S (rV P) noX → Ct G yX5_settlePlan cX5_settlePlan 3 none 7 260 0 0 [.ref x] S (rV Q) noX := by
    intro P Q hPQ hc l hl
    refine MetFree.mono (hc l hl) (fun _ _ q => q) (fun _ _ _ _ _ q => q) ?_
    intro a st o t _ hq
    rcases hq with ⟨⟨⟨v, S', h1, h2, h3⟩, h4⟩, h5⟩ | ⟨q, -, E, ce, L, hx, -⟩
    · exact Or.inl ⟨⟨⟨v, S', h1, ⟨h2.1, hPQ _ h2.2⟩, h3⟩, h4⟩, h5⟩
    · exact (jXC_no hx).elim
  by_cases e : hI S 1 (A 0 7) = 0
  · refine mono (fun T h => ?_) (c_settle_n S x A σ hs hv hr ho e)
    obtain ⟨h1, h2, h3, h4⟩ := h
    exact ⟨⟨h1.shp hs h2.pnt, h1.vl hs hv, hr, fun k hk => Or.inr (h3 k hk), Or.inr ⟨h4, h2, fun k hk => (h3 k hk).1⟩⟩, h1.frc, h2, fun k hk => (h3 k hk).2⟩
  · refine mono (fun T h => ?_) (c_settle_s S x (vn σ) A hs e)
    subst h
    rcases hp with q | ⟨q1, q2, q3⟩
    · exact (e q).elim
    · refine ⟨⟨hs, hv, hr, ho, Or.inr ⟨q1, q2, q3⟩⟩, FrC.rfl, q2, fun k hk => ?_⟩
      rcases ho k hk with w | w
      · exact absurd ((q3 k hk).symm.trans w) (by decide)
      · exact w.2
theorem c_survey {G : JG} (S : HS) (x : Nat) (A : Nat → Nat → Nat) (σ : Sg) (h : CI G x A σ S) (k : Nat) (hk : k < vn σ) : Ct G yX5_survey cX5_survey 5 none 5 180 0 0 [.ref x, .ref (A 1 k)] S (rV (fun S' => CI G x A σ S' ∧ FrC S S' ∧ OutOK A σ k S')) noX := by
  obtain ⟨hs, hv, hr, ho, hp⟩ := h
  have mono : ∀ {P Q : HS → Prop}, (∀ T, P T → Q T) → Ct G yX5_survey cX5_survey 5 none 5 180 0 0 [.ref x, .ref (A 1 k)] S (rV P) noX → Ct G yX5_survey cX5_survey 5 none 5 180 0 0 [.ref x, .ref (A 1 k)] S (rV Q) noX := by
    intro P Q hPQ hc l hl
    refine MetFree.mono (hc l hl) (fun _ _ q => q) (fun _ _ _ _ _ q => q) ?_
    intro a st o t _ hq
    rcases hq with ⟨⟨⟨v, S', h1, h2, h3⟩, h4⟩, h5⟩ | ⟨q, -, E, ce, L, hx, -⟩
    · exact Or.inl ⟨⟨⟨v, S', h1, ⟨h2.1, hPQ _ h2.2⟩, h3⟩, h4⟩, h5⟩
    · exact (jXC_no hx).elim
  by_cases e : hI S 1 (A 3 k) = 0
  · refine mono (fun T h => ?_) (c_survey_n S x A σ hs hv hr k hk e)
    obtain ⟨I', V', rfl, g1, g2, g3, g4, g5⟩ := h
    have hF := sv_frp hs hk g1 g4
    have np : A 0 7 ≠ A 3 k := hK_ne hs.kp (hs.ko hk) (by decide)
    refine ⟨⟨hs.w I' V', hF.vl hs hv, hr, fun j hj => ?_, ?_⟩, hF.frc, g3, g5⟩
    · by_cases ej : j = k
      · subst ej; exact Or.inr ⟨g2, g3, g5⟩
      · have n3 : A 3 j ≠ A 3 k := fun z => ej (hs.inj hj hk (Or.inr (Or.inl z)))
        have n4 : A 4 j ≠ A 4 k := fun z => ej (hs.inj hj hk (Or.inr (Or.inr z)))
        rcases ho j hj with q | ⟨w1, w2, w3⟩
        · exact Or.inl ((g1 1 _ n3).trans q)
        · exact Or.inr ⟨(g1 1 _ n3).trans w1, fun i a b => (g1 i _ n3).trans (w2 i a b), fun i a => (g4 i _ n4).trans (w3 i a)⟩
    · rcases hp with q | ⟨q1, q2, q3⟩
      · exact Or.inl ((g1 1 _ np).trans q)
      · exact absurd ((q3 k hk).symm.trans e) (by decide)
  · refine mono (fun T h => ?_) (c_survey_s S x (vn σ) A hs k hk e)
    subst h
    refine ⟨⟨hs, hv, hr, ho, hp⟩, FrC.rfl, ?_⟩
    rcases ho k hk with w | w
    · exact (e w).elim
    · exact w.2
