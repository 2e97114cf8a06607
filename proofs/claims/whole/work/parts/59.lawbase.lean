/-! the law: its rows of its own, what its wrappers say, what its loop keeps -/
theorem J_lcmp {X : JX} {G : JG} {Q : State → Prop} {nL cs ss pc : Nat} {lv : List (Nat × Value)} {st : List Value} {S : HS} {own : String} {cc : ByteArray} {ret : Option FieldType} {fr lo mc ms : Nat} {x y : Int64} (hC : JC X G own cc nL ret fr lo mc ms) (d : decode cc pc = .ok (.lcmp, 1))
    (k : J X G Q nL cs ss (pc + 1) lv (.int (lg_cmp x y) :: st) S) : J X G Q nL cs ss pc lv (.long y :: .long x :: st) S := by
  intro H locs ls hR hS hl
  exact W.lcmp hC.1 hC.2.1 d (k H locs ls hR hS hl)
/-- the script, which lies below the base -/
def Scr (X : JX) (G : JG) (b L : Nat) (zs : Nat → Int32) : Prop := va_X b L zs (xs X) (xs X).heap ∧ b < (xs X).heap.size ∧ ¬ gA G b
theorem J_sld {X : JX} {G : JG} {Q : State → Prop} {nL cs ss pc : Nat} {lv : List (Nat × Value)} {st : List Value} {S : HS} {own : String} {cc : ByteArray} {ret : Option FieldType} {fr lo mc ms : Nat} {b L : Nat} {zs : Nat → Int32} {i : Int32} (hC : JC X G own cc nL ret fr lo mc ms) (hX : Scr X G b L zs) (hin : vp_in i L) (d : decode cc pc = .ok (.iaload, 1))
    (k : J X G Q nL cs ss (pc + 1) lv (.int (zs i.toNatClampNeg) :: st) S) : J X G Q nL cs ss pc lv (.int i :: .ref b :: st) S := by
  intro H locs ls hR hS hl
  exact va_sld hC.1 hC.2.1 hX.1 hX.2.1 hX.2.2 hS hin d (k H locs ls hR hS hl)
theorem J_slen {X : JX} {G : JG} {Q : State → Prop} {nL cs ss pc : Nat} {lv : List (Nat × Value)} {st : List Value} {S : HS} {own : String} {cc : ByteArray} {ret : Option FieldType} {fr lo mc ms : Nat} {b L : Nat} {zs : Nat → Int32} (hC : JC X G own cc nL ret fr lo mc ms) (hX : Scr X G b L zs) (d : decode cc pc = .ok (.arraylength, 1))
    (k : J X G Q nL cs ss (pc + 1) lv (.int (nI L) :: st) S) : J X G Q nL cs ss pc lv (.ref b :: st) S := by
  intro H locs ls hR hS hl
  exact va_slen hC.1 hC.2.1 hX.1 hX.2.1 hX.2.2 hS d (k H locs ls hR hS hl)
theorem lg_cmp_same (x : Int64) : lg_cmp x x = 0 := by
  unfold lg_cmp
  simp
/-- what a wrapper says: its code k, the answer v, the state behind it -/
def LWP (G : JG) (x o : Nat) (S : HS) (F : Int32 → Int64) (P : Int32 → Int32 → Sg → Prop) (k : Int32) (T : HS) : Prop :=
  ∃ (v : Int32) (σ' : Sg), P k v σ' ∧ (∃ A, CI G x A σ' T) ∧ (∀ (y : Nat) (B : Nat → Nat) (τ : Sg), MI y B τ S → MI y B τ T) ∧ hK T o = 14 ∧ hN T o = 1 ∧ (k = 0 → hL T 0 o = F v)
theorem CI.sL {G : JG} {x : Nat} {A : Nat → Nat → Nat} {σ : Sg} {S : HS} {k a : Nat} {v : Int64} (h : CI G x A σ S) : CI G x A σ (sL S k a v) := h
theorem MI.sL {y : Nat} {B : Nat → Nat} {σ : Sg} {S : HS} {k a : Nat} {v : Int64} (h : MI y B σ S) : MI y B σ (sL S k a v) := h
theorem LWP.ok {G : JG} {x o : Nat} {S U : HS} {F : Int32 → Int64} {P : Int32 → Int32 → Sg → Prop} {k : Int32} {σ' : Sg} (v : Int32) (w : Int64) (c : CS G x σ' S U) (ho : hK S o = 14) (hn : hN S o = 1) (p : P k v σ') (e : w = F v) : LWP G x o S F P k (sL U 0 o w) := by
  have e1 := c.2.1 o (by rw [ho]; decide)
  obtain ⟨A, hA⟩ := c.1
  exact ⟨v, σ', p, ⟨A, hA.sL⟩, fun y B τ h => (h.frc c.2).sL, e1.1.trans ho, e1.2.1.trans hn, fun _ => (hL_same _ _ _ _).trans e⟩
theorem LWP.no {G : JG} {x o : Nat} {S U : HS} {F : Int32 → Int64} {P : Int32 → Int32 → Sg → Prop} {k : Int32} {σ' : Sg} (v : Int32) (c : CS G x σ' S U) (ho : hK S o = 14) (hn : hN S o = 1) (p : P k v σ') (hk : k ≠ 0) : LWP G x o S F P k U := by
  have e1 := c.2.1 o (by rw [ho]; decide)
  exact ⟨v, σ', p, c.1, fun y B τ h => h.frc c.2, e1.1.trans ho, e1.2.1.trans hn, fun z => absurd z hk⟩
theorem CS.rfl {G : JG} {x : Nat} {A : Nat → Nat → Nat} {σ : Sg} {S : HS} (h : CI G x A σ S) : CS G x σ S S := ⟨⟨A, h⟩, FrC.rfl⟩
theorem CS.ok {G : JG} {x : Nat} {A : Nat → Nat → Nat} {σ : Sg} {S T : HS} (h : CI G x A σ T) (f : FrC S T) : CS G x σ S T := ⟨⟨A, h⟩, f⟩
theorem CS.ho {G : JG} {x o : Nat} {σ : Sg} {S T : HS} (c : CS G x σ S T) (ho : hK S o = 14) : hK T o = 14 := (c.2.1 o (by rw [ho]; decide)).1.trans ho
theorem CS.hn {G : JG} {x o : Nat} {σ : Sg} {S T : HS} (c : CS G x σ S T) (ho : hK S o = 14) (hn : hN S o = 1) : hN T o = 1 := (c.2.1 o (by rw [ho]; decide)).2.1.trans hn
/-- what the law's loop keeps -/
def LIv (G : JG) (x y o : Nat) (σ : Sg) (S : HS) : Prop := (∃ A, CI G x A σ S) ∧ (∃ B, MI y B σ S) ∧ hK S o = 14 ∧ hN S o = 1
theorem CI.n20 {G : JG} {x : Nat} {A : Nat → Nat → Nat} {σ : Sg} {S : HS} (h : CI G x A σ S) : vn σ ≤ 20 := h.2.2.1.2.2.2.2.2.2.2.1
/-- both sides have answered alike -/
theorem LIv.both {G : JG} {x y o : Nat} {B : Nat → Nat} {σ : Sg} {T U : HS} {k : Int32} (a : ∃ A, CI G x A σ T) (ko : hK T o = 14) (no : hN T o = 1) (m : MX y B σ T U k) : LIv G x y o σ U := by
  obtain ⟨A, a⟩ := a
  have e := m.2.1.1 o (by rw [ko]; decide) (by rw [ko]; decide)
  exact ⟨⟨A, a.frm m.2.1⟩, ⟨B, m.1⟩, e.1.trans ko, e.2.1.trans no⟩
theorem MX.hL {y o : Nat} {B : Nat → Nat} {σ : Sg} {T U : HS} {k : Int32} {w : Int64} (m : MX y B σ T U k) (ko : hK T o = 14) (e : hL T 0 o = w) : hL U 0 o = w := (((m.2.1.1 o (by rw [ko]; decide) (by rw [ko]; decide))).2.2.2.2.2 0).trans e
def okL (v : Int32) : Int64 := if v = 0 then 0 else 1
theorem sc_in {i L c : Nat} (hi : i + 6 ≤ L) (hL : L ≤ 3072) (hc : c < 6) : vp_in (nI i + nI c) L := by
  rw [nI_add]
  exact vp_in_nI (by omega) (by omega)
theorem sc_0 {i L : Nat} (hi : i + 6 ≤ L) (hL : L ≤ 3072) : vp_in (nI i) L := vp_in_nI (by omega) (by omega)
abbrev JCL (X : JX) (G : JG) : Prop := JC X G RL cL_law 9 (some .boolean) room_1.frames room_1.locals room_1.cells room_1.slots
/-- the law's locals at its loop's head -/
abbrev lvL (i o y x b : Nat) : List (Nat × Value) := [(4, .int (nI i)), (3, .ref o), (2, .ref y), (1, .ref x), (0, .ref b)]
theorem J_topL {X : JX} {G : JG} {Q : State → Prop} {nL cs ss pc : Nat} {lv : List (Nat × Value)} {st : List Value} {S : HS} {v w : Int64} (h : v = w) (k : J X G Q nL cs ss pc lv (.long w :: st) S) : J X G Q nL cs ss pc lv (.long v :: st) S := h ▸ k
