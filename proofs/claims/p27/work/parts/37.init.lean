/-! a new object, step by step -/
/-- what is labelled stays as it is -/
def ext (S T : HS) : Prop := ∀ a, hK S a ≠ 0 → same1 S T a
theorem ext.rfl {S : HS} : ext S S := fun _ _ => same1.rfl
theorem ext.trans {S T U : HS} (h : ext S T) (g : ext T U) : ext S U := fun a ha => (h a ha).trans (g a (by rw [(h a ha).1]; exact ha))
theorem ext.new {S T : HS} {q lab n : Nat} (h : ext S T) (hq : hK T q = 0) : ext S (sNew T q lab n) := h.trans (fun a ha => (newAt.of hq).old ha)
theorem ext.sI {S T : HS} {k c : Nat} {v : Int32} (h : ext S T) (hc : hK S c = 0) : ext S (sI T k c v) := fun a ha => (h a ha).trans (by
  have hne : a ≠ c := fun z => ha (by rw [z]; exact hc)
  exact ⟨Eq.refl _, Eq.refl _, fun _ => hI_na hne, fun _ => Eq.refl _, fun _ => Eq.refl _, fun _ => Eq.refl _⟩)
theorem ext.sP {S T : HS} {k c : Nat} {v : Option Nat} (h : ext S T) (hc : hK S c = 0) : ext S (sP T k c v) := fun a ha => (h a ha).trans (by
  have hne : a ≠ c := fun z => ha (by rw [z]; exact hc)
  exact ⟨Eq.refl _, Eq.refl _, fun _ => Eq.refl _, fun _ => hP_na hne, fun _ => Eq.refl _, fun _ => Eq.refl _⟩)
theorem ext.mna {S T : HS} {q : Nat} {r : Nat → Nat} (h : ext S T) (hq : hK T q = 0) (hr : ∀ i, i < 20 → hK T (r i) = 0) : ext S (sMna T q r) := h.trans (fun a ha => by
  have h1 : a ≠ q := fun z => ha (by rw [z]; exact hq)
  have h2 := rowsN_old (T := sNew T q 13 20) (r := r) (n := 20) (a := a) (fun i hi z => ha (by rw [z]; exact hr i hi))
  have h3 : same1 T (rowsN (sNew T q 13 20) r 20) a := same1.trans ((newAt.of (lab := 13) (n := 20) hq).2 a h1) h2
  exact h3.trans ⟨Eq.refl _, Eq.refl _, fun _ => Eq.refl _, fun _ => if_neg h1, fun _ => Eq.refl _, fun _ => Eq.refl _⟩)
theorem ext.pt {S T : HS} {q : Nat} {v w : Int32} (h : ext S T) (hq : hK T q = 0) : ext S (ptS T q v w) := h.trans (fun a ha => (pt_new hq).old ha)
/-- only the cell x changes, and what has no label -/
def stp (x : Nat) (T U : HS) : Prop := (∀ a, a ≠ x → hK T a ≠ 0 → same1 T U a) ∧ hK U x = hK T x
theorem stp.trans {x : Nat} {T U W : HS} (h : stp x T U) (g : stp x U W) : stp x T W :=
  ⟨fun a h1 h2 => (h.1 a h1 h2).trans (g.1 a h1 (by rw [(h.1 a h1 h2).1]; exact h2)), g.2.trans h.2⟩
theorem stp.ofP {x j : Nat} {T U : HS} {v : Option Nat} (h : ext T U) (hx : hK T x ≠ 0) : stp x T (sP U j x v) :=
  ⟨fun a h1 h2 => (h a h2).trans ⟨Eq.refl _, Eq.refl _, fun _ => Eq.refl _, fun _ => hP_na h1, fun _ => Eq.refl _, fun _ => Eq.refl _⟩, (h x hx).1⟩
theorem stp.ofI {x j : Nat} {T : HS} {v : Int32} : stp x T (sI T j x v) :=
  ⟨fun a h1 _ => ⟨Eq.refl _, Eq.refl _, fun _ => hI_na h1, fun _ => Eq.refl _, fun _ => Eq.refl _, fun _ => Eq.refl _⟩, Eq.refl _⟩
def stx (x j : Nat) (v : Option Nat) (T U : HS) : Prop := hP U j x = v ∧ (∀ k, k ≠ j → hP U k x = hP T k x) ∧ ∀ k, hI U k x = hI T k x
theorem stx.ofP {x j : Nat} {T U : HS} {v : Option Nat} (h : ext T U) (hx : hK T x ≠ 0) : stx x j v T (sP U j x v) :=
  ⟨hP_same _ _ _ _, fun k hk => (hP_nk hk).trans ((h x hx).2.2.2.1 k), fun k => (hI_sP _ _ _ _ _ _).trans ((h x hx).2.2.1 k)⟩
def ptP (q : Nat) (v w : Int32) (T : HS) : Prop := hK T q = 5 ∧ hI T 0 q = v ∧ hI T 1 q = w ∧ hI T 2 q = sn w ∧ hI T 3 q = sn (w + 90)
def clP (c f t : Nat) (T : HS) : Prop := hK T c = 2 ∧ hP T 0 c = some f ∧ hK T f = 8 ∧ hN T f = 8 ∧ hP T 1 c = some t ∧ hK T t = 9 ∧ hN T t = 8 ∧ hI T 2 c = 0
def liP (G : JG) (l : Nat) (T : HS) : Prop := hK T l = 1 ∧ hP T 1 l = some (gE G) ∧ hI T 2 l = 0
def plP (p q : Nat) (r : Nat → Nat) (T : HS) : Prop := hK T p = 4 ∧ hP T 0 p = some q ∧ hK T q = 13 ∧ hN T q = 20 ∧ (∀ i, i < 20 → hP T i q = some (r i) ∧ hK T (r i) = 11 ∧ hN T (r i) = 4) ∧ hP T 4 p = none ∧ hI T 1 p = 0
theorem stp.s1 {x a n : Nat} {T U : HS} (s : stp x T U) (hx : hK T x = 7) (ha : hK T a = n) (h0 : n ≠ 0) (h7 : n ≠ 7) : same1 T U a := s.1 a (fun z => h7 (by rw [← ha, z]; exact hx)) (by rw [ha]; exact h0)
theorem ptP.stp {x q : Nat} {v w : Int32} {T U : HS} (h : ptP q v w T) (s : stp x T U) (hx : hK T x = 7) : ptP q v w U := by
  obtain ⟨h1, h2, h3, h4, h5⟩ := h
  have e := s.s1 hx h1 (by decide) (by decide)
  exact ⟨e.1.trans h1, (e.2.2.1 _).trans h2, (e.2.2.1 _).trans h3, (e.2.2.1 _).trans h4, (e.2.2.1 _).trans h5⟩
theorem clP.stp {x c f t : Nat} {T U : HS} (h : clP c f t T) (s : stp x T U) (hx : hK T x = 7) : clP c f t U := by
  obtain ⟨h1, h2, h3, h4, h5, h6, h7, h8⟩ := h
  have e := s.s1 hx h1 (by decide) (by decide)
  have ef := s.s1 hx h3 (by decide) (by decide)
  have et := s.s1 hx h6 (by decide) (by decide)
  exact ⟨e.1.trans h1, (e.2.2.2.1 _).trans h2, ef.1.trans h3, ef.2.1.trans h4, (e.2.2.2.1 _).trans h5, et.1.trans h6, et.2.1.trans h7, (e.2.2.1 _).trans h8⟩
theorem liP.stp {G : JG} {x l : Nat} {T U : HS} (h : liP G l T) (s : stp x T U) (hx : hK T x = 7) : liP G l U := by
  obtain ⟨h1, h2, h3⟩ := h
  have e := s.s1 hx h1 (by decide) (by decide)
  exact ⟨e.1.trans h1, (e.2.2.2.1 _).trans h2, (e.2.2.1 _).trans h3⟩
theorem plP.stp {x p q : Nat} {r : Nat → Nat} {T U : HS} (h : plP p q r T) (s : stp x T U) (hx : hK T x = 7) : plP p q r U := by
  obtain ⟨h1, h2, h3, h4, h5, h6, h7⟩ := h
  have e := s.s1 hx h1 (by decide) (by decide)
  have eq := s.s1 hx h3 (by decide) (by decide)
  exact ⟨e.1.trans h1, (e.2.2.2.1 _).trans h2, eq.1.trans h3, eq.2.1.trans h4, fun i hi => by
    obtain ⟨g1, g2, g3⟩ := h5 i hi
    have er := s.s1 hx g2 (by decide) (by decide)
    exact ⟨(eq.2.2.2.1 _).trans g1, er.1.trans g2, er.2.1.trans g3⟩, (e.2.2.2.1 _).trans h6, (e.2.2.1 _).trans h7⟩
/-- a point, put into the slot j of x -/
theorem st_pt {x q j : Nat} {v w : Int32} {T : HS} (hx : hK T x = 7) (hq : hK T q = 0) : stp x T (sP (ptS T q v w) j x (some q)) ∧ stx x j (some q) T (sP (ptS T q v w) j x (some q)) ∧ ptP q v w (sP (ptS T q v w) j x (some q)) := by
  have he : ext T (ptS T q v w) := ext.rfl.pt hq
  have h0 : hK T x ≠ 0 := by rw [hx]; decide
  exact ⟨stp.ofP he h0, stx.ofP he h0, kP (pt_k (v := v) (w := w)), (hI_sP _ _ _ _ _ _).trans (pt_0 (v := v) (w := w)), (hI_sP _ _ _ _ _ _).trans (pt_1 (v := v) (w := w)), (hI_sP _ _ _ _ _ _).trans (pt_2 (v := v) (w := w)), (hI_sP _ _ _ _ _ _).trans (pt_3 (v := v) (w := w))⟩
theorem st_cl {x c f t j : Nat} {T : HS} (hx : hK T x = 7) (hc : hK T c = 0) (hf : hK (sNew T c 2 0) f = 0) (ht : hK (sNew (sNew T c 2 0) f 8 8) t = 0) :
    stp x T (sP (sP (sNew (sP (sNew (sNew T c 2 0) f 8 8) 0 c (some f)) t 9 8) 1 c (some t)) j x (some c)) ∧ stx x j (some c) T (sP (sP (sNew (sP (sNew (sNew T c 2 0) f 8 8) 0 c (some f)) t 9 8) 1 c (some t)) j x (some c)) ∧ clP c f t (sP (sP (sNew (sP (sNew (sNew T c 2 0) f 8 8) 0 c (some f)) t 9 8) 1 c (some t)) j x (some c)) := by
  have he : ext T (sP (sNew (sP (sNew (sNew T c 2 0) f 8 8) 0 c (some f)) t 9 8) 1 c (some t)) := ((((ext.rfl.new hc).new hf).sP hc).new ht).sP hc
  have h0 : hK T x ≠ 0 := by rw [hx]; decide
  have n1 : c ≠ f := nqz hf (show hK (sNew T c 2 0) c = 2 from if_pos (Eq.refl _)) (by decide)
  have n2 : c ≠ t := nqz ht (kNew hf (show hK (sNew T c 2 0) c = 2 from if_pos (Eq.refl _)) (by decide)) (by decide)
  have n3 : f ≠ t := nqz ht (show hK (sNew (sNew T c 2 0) f 8 8) f = 8 from if_pos (Eq.refl _)) (by decide)
  have n4 : c ≠ x := fun z => h0 (by rw [← z]; exact hc)
  refine ⟨stp.ofP he h0, stx.ofP he h0, ?_, ?_, ?_, ?_, ?_, ?_, ?_, ?_⟩ <;> simp [hK_sI, hK_sP, hK_sNew, hN_sP, hN_sNew, hI_sP, hI_sNew, hP_sP, hP_sNew, n1, n2, n3, n4, n1.symm, n2.symm, n3.symm, n4.symm]
theorem st_li {G : JG} {x l j : Nat} {T : HS} (hx : hK T x = 7) (hl : hK T l = 0) : stp x T (sP (sP (sI (sNew T l 1 0) 0 l 0) 1 l (some (gE G))) j x (some l)) ∧ stx x j (some l) T (sP (sP (sI (sNew T l 1 0) 0 l 0) 1 l (some (gE G))) j x (some l)) ∧ liP G l (sP (sP (sI (sNew T l 1 0) 0 l 0) 1 l (some (gE G))) j x (some l)) := by
  have he : ext T (sP (sI (sNew T l 1 0) 0 l 0) 1 l (some (gE G))) := ((ext.rfl.new hl).sI hl).sP hl
  have h0 : hK T x ≠ 0 := by rw [hx]; decide
  have n4 : l ≠ x := fun z => h0 (by rw [← z]; exact hl)
  refine ⟨stp.ofP he h0, stx.ofP he h0, ?_, ?_, ?_⟩ <;> simp [hK_sI, hK_sP, hK_sNew, hI_sP, hI_sI, hI_sNew, hP_sP, n4]
theorem st_pl {x p q j : Nat} {r : Nat → Nat} {T : HS} (hx : hK T x = 7) (hp : hK T p = 0) (hq : hK (sNew T p 4 0) q = 0) (hr : ∀ i, i < 20 → hK (sNew T p 4 0) (r i) = 0 ∧ r i ≠ q) (hi : ∀ i j, i < 20 → j < 20 → r i = r j → i = j) :
    stp x T (sP (sP (sMna (sNew T p 4 0) q r) 0 p (some q)) j x (some p)) ∧ stx x j (some p) T (sP (sP (sMna (sNew T p 4 0) q r) 0 p (some q)) j x (some p)) ∧ plP p q r (sP (sP (sMna (sNew T p 4 0) q r) 0 p (some q)) j x (some p)) := by
  have he : ext T (sP (sMna (sNew T p 4 0) q r) 0 p (some q)) := ((ext.rfl.new hp).mna hq (fun i h => (hr i h).1)).sP hp
  have h0 : hK T x ≠ 0 := by rw [hx]; decide
  have kp : hK (sNew T p 4 0) p = 4 := if_pos (Eq.refl _)
  have em : same1 (sNew T p 4 0) (sMna (sNew T p 4 0) q r) p := ext.mna ext.rfl hq (fun i h => (hr i h).1) p (by rw [kp]; decide)
  have n1 : q ≠ p := fun z => (nqz hq kp (by decide)) z.symm
  have hx1 : hK (sNew T p 4 0) x = 7 := kNew hp hx (by decide)
  have n2 : q ≠ x := fun z => (nqz hq hx1 (by decide)) z.symm
  have n3 : p ≠ x := fun z => h0 (by rw [← z]; exact hp)
  have oq := rowsN_old (T := sNew (sNew T p 4 0) q 13 20) (r := r) (n := 20) (a := q) (fun i h z => (hr i h).2 z.symm)
  refine ⟨stp.ofP he h0, stx.ofP he h0, ?_, ?_, ?_, ?_, fun i h => ⟨?_, ?_, ?_⟩, ?_, ?_⟩
  · exact em.1.trans kp
  · exact (hP_na n3).trans (hP_same _ _ _ _)
  · exact oq.1.trans (if_pos (Eq.refl _))
  · exact oq.2.1.trans (if_pos (Eq.refl _))
  · refine (hP_na n2).trans ((hP_na n1).trans ?_)
    exact (if_pos (Eq.refl _)).trans (if_pos h)
  · exact (rowsN_row (T := sNew (sNew T p 4 0) q 13 20) hi h).1
  · exact (rowsN_row (T := sNew (sNew T p 4 0) q 13 20) hi h).2.1
  · exact (hP_na n3).trans ((hP_nk (by decide)).trans ((em.2.2.2.1 4).trans (if_pos (Eq.refl _))))
  · exact (hI_sP _ _ _ _ _ _).trans ((hI_sP _ _ _ _ _ _).trans ((em.2.2.1 1).trans (if_pos (Eq.refl _))))
/-- the state of a new object -/
def σ0 : Sg := ((fun i => if i = 0 then 50 else if i = 2 then 600 else 0), fun _ _ => 0, 0, 0, fun _ => 0, fun _ => 0)
theorem rng0 : Rng σ0 := ⟨by decide, by decide, by decide, by decide, by decide, by decide, by decide, Nat.zero_le _, fun k hk => absurd hk (Nat.not_lt_zero k)⟩
theorem CI.new {G : JG} {x q1 q2 c f t l p q : Nat} {r : Nat → Nat} {T : HS} (hx : hK T x = 7) (x0 : hP T 0 x = some q1) (x1 : hP T 1 x = some q2) (x5 : hP T 5 x = some c) (x6 : hP T 6 x = some l) (x7 : hP T 7 x = some p) (i2 : hI T 2 x = 0) (i3 : hI T 3 x = 600) (i4 : hI T 4 x = 0)
    (h1 : ptP q1 0 50 T) (h2 : ptP q2 0 0 T) (h3 : clP c f t T) (h4 : liP G l T) (h5 : plP p q r T) (hi : ∀ i j, i < 20 → j < 20 → r i = r j → i = j) : ∃ A, CI G x A σ0 T := by
  refine ⟨fun i j => if i = 0 then (if j = 0 then q1 else if j = 1 then q2 else if j = 2 then c else if j = 3 then f else if j = 4 then t else if j = 5 then l else if j = 6 then gE G else if j = 7 then p else q) else r j, CI.of0 ?_ ?_ rng0 (fun k hk => absurd hk (Nat.not_lt_zero k)) h5.2.2.2.2.2.2⟩
  · obtain ⟨c1, c2, c3, c4, c5, c6, c7, c8⟩ := h3
    obtain ⟨l1, l2, l3⟩ := h4
    obtain ⟨p1, p2, p3, p4, p5, p6, p7⟩ := h5
    refine ⟨⟨hx, x0, h1.1, x1, h2.1⟩, ⟨x5, c1, c2, c3, c4, c5, c6, c7⟩, ⟨x6, l1, l2, Nat.zero_le _, Or.inl ⟨Eq.refl _, Eq.refl _⟩⟩, ⟨x7, p1, p2, p3, p4⟩, fun i h => p5 i h, fun i j a b e => hi i j a b e, fun k hk => absurd hk (Nat.not_lt_zero k), fun i j hi => absurd hi (Nat.not_lt_zero i), fun q' e => ?_⟩
    have e' : hP T 4 p = some q' := e
    rw [p6] at e'
    cases e'
  · obtain ⟨c1, c2, c3, c4, c5, c6, c7, c8⟩ := h3
    obtain ⟨l1, l2, l3⟩ := h4
    exact ⟨⟨h1.2.1, h1.2.2.1, h1.2.2.2.1, h1.2.2.2.2⟩, ⟨h2.2.1, h2.2.2.1, h2.2.2.2.1, h2.2.2.2.2⟩, ⟨i2, i3, i4⟩, ⟨c8, Nat.zero_le _, fun i hi => absurd hi (Nat.not_lt_zero i)⟩, l3, fun k hk => absurd hk (Nat.not_lt_zero k)⟩
theorem stp.frc {x : Nat} {S T : HS} (h : stp x S T) (hx : hK S x = 7) : FrC S T :=
  ⟨fun a ha => h.1 a (fun z => by rw [z, hx] at ha; omega) (by omega), fun a ha => by
    by_cases e : a = x
    · subst e; exact h.2
    · exact (h.1 a e ha).1⟩
