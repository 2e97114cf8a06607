/-! the law: what its walk keeps, its calls as they go without a throw -/
/-! cells that are the law's own (labels from 15 on): the class doesn't see them -/
def FrM (S T : HS) : Prop := (∀ a, hK S a ≠ 0 → hK S a ≤ 14 → same1 S T a) ∧ ∀ a, hK S a ≠ 0 → hK T a = hK S a
theorem FrM.rfl {S : HS} : FrM S S := ⟨fun _ _ _ => same1.rfl, fun _ _ => Eq.refl _⟩
theorem FrM.trans {S T U : HS} (h : FrM S T) (g : FrM T U) : FrM S U :=
  ⟨fun a h0 h14 => (h.1 a h0 h14).trans (g.1 a (by rw [h.2 a h0]; exact h0) (by rw [h.2 a h0]; exact h14)), fun a h0 => (g.2 a (by rw [h.2 a h0]; exact h0)).trans (h.2 a h0)⟩
theorem gt14 {S : HS} {a n : Nat} (h : hK S a = n) (h2 : n = 0 ∨ 14 < n) : hK S a = 0 ∨ 14 < hK S a := h.symm ▸ h2
theorem FrM.sI {S T : HS} {k a : Nat} {v : Int32} (h : FrM S T) (hk : hK T a = 0 ∨ 14 < hK T a) : FrM S (sI T k a v) := h.trans ⟨fun b h0 h14 => by
  have hne : b ≠ a := fun z => by rw [z] at h0 h14; omega
  exact ⟨Eq.refl _, Eq.refl _, fun _ => hI_na hne, fun _ => Eq.refl _, fun _ => Eq.refl _, fun _ => Eq.refl _⟩, fun _ _ => Eq.refl _⟩
theorem FrM.sV {S T : HS} {k a : Nat} {v : Int32} (h : FrM S T) (hk : hK T a = 0 ∨ 14 < hK T a) : FrM S (sV T k a v) := h.trans ⟨fun b h0 h14 => by
  have hne : b ≠ a := fun z => by rw [z] at h0 h14; omega
  exact ⟨Eq.refl _, Eq.refl _, fun _ => Eq.refl _, fun _ => Eq.refl _, fun _ => hV_na hne, fun _ => Eq.refl _⟩, fun _ _ => Eq.refl _⟩
theorem FrM.sVa {S T : HS} {a : Nat} {g : Nat → Int32} (h : FrM S T) (hk : hK T a = 0 ∨ 14 < hK T a) : FrM S (sVa T a g) := h.trans ⟨fun b h0 h14 => by
  have hne : b ≠ a := fun z => by rw [z] at h0 h14; omega
  exact ⟨Eq.refl _, Eq.refl _, fun _ => Eq.refl _, fun _ => Eq.refl _, fun _ => if_neg hne, fun _ => Eq.refl _⟩, fun _ _ => Eq.refl _⟩
theorem FrM.sP {S T : HS} {k a : Nat} {v : Option Nat} (h : FrM S T) (hk : hK T a = 0 ∨ 14 < hK T a) : FrM S (sP T k a v) := h.trans ⟨fun b h0 h14 => by
  have hne : b ≠ a := fun z => by rw [z] at h0 h14; omega
  exact ⟨Eq.refl _, Eq.refl _, fun _ => Eq.refl _, fun _ => hP_na hne, fun _ => Eq.refl _, fun _ => Eq.refl _⟩, fun _ _ => Eq.refl _⟩
theorem FrM.new {S T : HS} {q lab n : Nat} (h : FrM S T) (hq : hK T q = 0) : FrM S (sNew T q lab n) := h.trans ⟨fun _ h0 _ => (newAt.of hq).old h0, fun _ h0 => ((newAt.of hq).old h0).1⟩
theorem FrM.w {S : HS} {I V : Nat → Nat → Int32} (h1 : ∀ j a, hK S a ≤ 14 → I j a = hI S j a) (h2 : ∀ j a, hK S a ≤ 14 → V j a = hV S j a) : FrM S (wIV S I V) :=
  ⟨fun a _ h14 => ⟨Eq.refl _, Eq.refl _, fun k => h1 k a h14, fun _ => Eq.refl _, fun k => h2 k a h14, fun _ => Eq.refl _⟩, fun _ _ => Eq.refl _⟩
/-- the class doesn't see what the model does -/
theorem CI.frm {G : JG} {x : Nat} {A : Nat → Nat → Nat} {σ : Sg} {S T : HS} (h : CI G x A σ S) (f : FrM S T) : CI G x A σ T := by
  obtain ⟨hs, hv, hr, ho, hp⟩ := h
  have f1 : ∀ a, hK S a ≠ 0 ∧ hK S a ≤ 13 → same1 S T a := fun a ha => f.1 a ha.1 (by omega)
  have l1 : ∀ {a n}, hK S a = n → n ≠ 0 ∧ n ≤ 13 → same1 S T a := fun h1 h2 => f1 _ (by rw [h1]; exact h2)
  refine ⟨hs.off (fun a ha => ⟨(f1 a ha).1, (f1 a ha).2.1, (f1 a ha).2.2.2.1⟩), hv.off hs (fun a ha => ⟨(f1 a ha).2.2.1, (f1 a ha).2.2.2.2.1⟩), hr, fun k hk => ?_, ?_⟩
  · have eo := l1 (hs.ko hk) (by decide)
    have er := l1 (hs.kru hk) (by decide)
    rcases ho k hk with q | ⟨q1, q2, q3⟩
    · exact Or.inl ((eo.2.2.1 _).trans q)
    · exact Or.inr ⟨(eo.2.2.1 _).trans q1, fun j a b => (eo.2.2.1 _).trans (q2 j a b), fun i hi => (er.2.2.2.2.1 _).trans (q3 i hi)⟩
  · have ep := l1 hs.kp (by decide)
    rcases hp with q | ⟨q1, ⟨⟨p1, p2, p3, p4⟩, p5, p6⟩, q3⟩
    · exact Or.inl ((ep.2.2.1 _).trans q)
    · refine Or.inr ⟨(ep.2.2.1 _).trans q1, ⟨⟨(ep.2.2.2.1 _).trans p1, p2, fun k hk => ((l1 (hs.kg hk) (by decide)).2.2.1 _).trans (p3 k hk), (ep.2.2.1 _).trans p4⟩, (ep.2.2.1 _).trans p5, fun i hi j hj => ?_⟩, fun k hk => ((l1 (hs.ko hk) (by decide)).2.2.1 _).trans (q3 k hk)⟩
      have h20 : i < 20 := Nat.lt_of_lt_of_le hi (Nat.le_trans (ctU_le _ _) hs.n20)
      exact ((l1 (hs.krow h20) (by decide)).2.2.2.2.1 _).trans (p6 i hi j hj)
abbrev JCL (X : JX) (G : JG) : Prop := JC X G RL cL_law 16 (some .boolean) room_1.frames room_1.locals room_1.cells room_1.slots
/-- the class's cells hold the state -/
def CE (G : JG) (x : Nat) (σ : Sg) (S : HS) : Prop := ∃ A, CI G x A σ S
theorem CE.kx {G : JG} {x : Nat} {σ : Sg} {S : HS} (h : CE G x σ S) : hK S x = 7 := by
  obtain ⟨A, h⟩ := h
  exact h.1.kx
theorem CE.rng {G : JG} {x : Nat} {σ : Sg} {S : HS} (h : CE G x σ S) : Rng σ := by
  obtain ⟨A, h⟩ := h
  exact h.2.2.1
theorem CE.frm {G : JG} {x : Nat} {σ : Sg} {S T : HS} (h : CE G x σ S) (f : FrM S T) : CE G x σ T := by
  obtain ⟨A, h⟩ := h
  exact ⟨A, h.frm f⟩
theorem FrC.k {S T : HS} {a n : Nat} (f : FrC S T) (h : hK S a = n) (hn : 14 ≤ n) : hK T a = n := (f.1 a (by rw [h]; exact hn)).1.trans h
theorem FrC.n {S T : HS} {a n m : Nat} (f : FrC S T) (h : hK S a = n) (hn : 14 ≤ n) (e : hN S a = m) : hN T a = m := (f.1 a (by rw [h]; exact hn)).2.1.trans e
theorem FrC.v {S T : HS} {a n : Nat} (f : FrC S T) (h : hK S a = n) (hn : 14 ≤ n) (k : Nat) : hV T k a = hV S k a := (f.1 a (by rw [h]; exact hn)).2.2.2.2.1 k
/-! the script -/
theorem JC.scr {X : JX} {G : JG} {own : String} {cc : ByteArray} {ret : Option FieldType} {nL fr lo mc ms : Nat} (hC : JC X G own cc nL ret fr lo mc ms) : ScI G (xs X) (xs X).heap := hC.2.2.2.2.2.1.2.2.2.2.2.2.2.2.2.2.2.2.1
theorem J_sld {X : JX} {G : JG} {Q : State → Prop} {nL cs ss pc : Nat} {lv : List (Nat × Value)} {st : List Value} {S : HS} {own : String} {cc : ByteArray} {ret : Option FieldType} {fr lo mc ms : Nat} {i : Int32} (hC : JC X G own cc nL ret fr lo mc ms) (hin : vp_in i (gLen G)) (d : decode cc pc = .ok (.iaload, 1))
    (k : J X G Q nL cs ss (pc + 1) lv (.int (gInt G i.toNatClampNeg) :: st) S) : J X G Q nL cs ss pc lv (.int i :: .ref (gScr G) :: st) S := by
  intro H locs ls hR hS hl
  exact va_sld hC.1 hC.2.1 hC.scr.1 hC.scr.2.1 hC.scr.2.2 hS hin d (k H locs ls hR hS hl)
theorem J_slen {X : JX} {G : JG} {Q : State → Prop} {nL cs ss pc : Nat} {lv : List (Nat × Value)} {st : List Value} {S : HS} {own : String} {cc : ByteArray} {ret : Option FieldType} {fr lo mc ms : Nat} (hC : JC X G own cc nL ret fr lo mc ms) (d : decode cc pc = .ok (.arraylength, 1))
    (k : J X G Q nL cs ss (pc + 1) lv (.int (nI (gLen G)) :: st) S) : J X G Q nL cs ss pc lv (.ref (gScr G) :: st) S := by
  intro H locs ls hR hS hl
  exact va_slen hC.1 hC.2.1 hC.scr.1 hC.scr.2.1 hC.scr.2.2 hS d (k H locs ls hR hS hl)
/-! numbers -/
theorem and_nn (v : Int32) : 0 ≤ (v &&& 2147483647).toInt := by
  have e : (v &&& 2147483647).toInt = (v.toBitVec &&& (2147483647 : Int32).toBitVec).toInt := by rw [← Int32.toBitVec_and]; rfl
  rw [e, BitVec.toInt_eq_toNat_of_msb (by rw [BitVec.msb_and, show ((2147483647 : Int32).toBitVec).msb = false by decide, Bool.and_false])]
  exact Int.natCast_nonneg _
theorem sub_I {a b : Nat} (ha : a < 100000) (hb : b < 100000) : (nI a - nI b).toInt = (a : Int) - b := by
  have h1 := nI_toInt (n := a) (by omega)
  have h2 := nI_toInt (n := b) (by omega)
  rw [fb_subI (by omega) (by omega), h1, h2]
theorem le_I {x y : Int32} {a b : Int} (hx : x.toInt = a) (hy : y.toInt = b) (h : a ≤ b) : x ≤ y := Int32.le_iff_toInt_le.mpr (by omega)
theorem in_90 {j : Nat} (h : j < 181) : -90 ≤ nI j - nI 90 ∧ nI j - nI 90 ≤ 90 := by
  have e := sub_I (a := j) (b := 90) (by omega) (by omega)
  exact ⟨le_I (show (-90 : Int32).toInt = -90 by decide) e (by omega), le_I e (show (90 : Int32).toInt = 90 by decide) (by omega)⟩
theorem in_h {j : Nat} (h : j < 1100) : -1000 ≤ nI j - nI 400 ∧ nI j - nI 400 ≤ 1000 := by
  have e := sub_I (a := j) (b := 400) (by omega) (by omega)
  exact ⟨le_I (show (-1000 : Int32).toInt = -1000 by decide) e (by omega), le_I e (show (1000 : Int32).toInt = 1000 by decide) (by omega)⟩
theorem in_n {j lo hi : Nat} (h1 : lo ≤ j) (h2 : j ≤ hi) (h3 : hi < 100000) : nI lo ≤ nI j ∧ nI j ≤ nI hi := ⟨nI_le h1 (by omega), nI_le h2 (by omega)⟩
theorem mul_I {a b : Nat} : nI a * nI b = nI (a * b) := by
  induction b with
  | zero => rw [Nat.mul_zero]; exact Int32.mul_zero
  | succ b ih => rw [← nI_1, Int32.mul_add, ih, Int32.mul_one, nI_add]; rfl
theorem rem_I {a b : Nat} (hb : 0 < b) (h1 : a < 2147483648) (h2 : b < 2147483648) : ∃ j, j < b ∧ im (nI a) (nI b) = nI j := im_nn (by rw [nI_toInt h1]; omega) hb h2
theorem dd_eq {v w : Int32} (hw : w ≠ 0) {op : CmpOp} : Op.cmpValue (FP.dcmp (FP.ddiv (FP.i2d v) (FP.i2d w)) (FP.ddiv (FP.i2d v) (FP.i2d w))) op = 0 := by
  have h : Jvm.FP.Core.dIsNaN (FP.ddiv (FP.i2d v) (FP.i2d w)) = false := Jvm.FP.Core.ddiv_out (Jvm.FP.Core.DFin.notNaN (Jvm.FP.Core.i2d_fin v)) (Jvm.FP.Core.i2d_fin w) (fun z => Jvm.FP.Core.i2d_ne_zero hw ((Jvm.FP.Core.zero_bits2 _).mp z))
  have e : FP.dcmp (FP.ddiv (FP.i2d v) (FP.i2d w)) (FP.ddiv (FP.i2d v) (FP.i2d w)) = some .eq := Jvm.FP.Core.dcmp_self ((Jvm.FP.Core.notNaN_iff _).mp h)
  rw [e]
  rfl
theorem J_topD {X : JX} {G : JG} {Q : State → Prop} {nL cs ss pc : Nat} {lv : List (Nat × Value)} {st : List Value} {S : HS} {v w : UInt64} (h : v = w) (k : J X G Q nL cs ss pc lv (.double w :: st) S) : J X G Q nL cs ss pc lv (.double v :: st) S := h ▸ k
/-! the law's helpers -/
