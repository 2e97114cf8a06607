/-! arrays -/
def isIA : Nat → Bool
  | 8 => true
  | 9 => true
  | 10 => true
  | 11 => true
  | n => Nat.ble 18 n
theorem hsh_IA {G : JG} {S : HS} {a n : Nat} (h : isIA n = true) : hsh G S a n = some (.inl (gC G 0, hN S a, .inl (fun i => hV S i a))) := by
  unfold isIA at h
  unfold hsh
  split <;> first | rfl | (simp at h; done)
def isZA : Nat → Bool
  | 15 => true
  | 16 => true
  | _ => false
theorem hsh_ZA {G : JG} {S : HS} {a n : Nat} (h : isZA n = true) : hsh G S a n = some (.inl (gC G 1, hN S a, .inl (fun i => hV S i a))) := by
  unfold isZA at h
  split at h <;> first | rfl | (cases h; done)
/-- an array's places may be read and written -/
theorem vp_in_lt {i : Int32} {n : Nat} (h : vp_in i n) : i.toNatClampNeg < n := Nat.not_le.mp fun q => h (Or.inr q)
theorem J_iald {X : JX} {G : JG} {Q : State → Prop} {nL cs ss pc : Nat} {lv : List (Nat × Value)} {st : List Value} {S : HS} {own : String} {cc : ByteArray} {ret : Option FieldType} {fr lo mc ms : Nat} {a lab : Nat} {i : Int32} (hC : JC X G own cc nL ret fr lo mc ms) (h0 : hK S a = lab) (hl0 : isIA lab = true) (hin : vp_in i (hN S a)) (d : decode cc pc = .ok (.iaload, 1))
    (kk : J X G Q nL cs ss (pc + 1) lv (.int (hV S i.toNatClampNeg a) :: st) S) : J X G Q nL cs ss pc lv (.int i :: .ref a :: st) S := by
  intro H locs ls hR hS hl
  exact va_iald hC.1 hC.2.1 hC.k (hR.one ((hob_of h0).trans (hsh_IA hl0))) 0 0 rfl rfl hin d (kk H locs ls hR hS hl)
theorem J_zald {X : JX} {G : JG} {Q : State → Prop} {nL cs ss pc : Nat} {lv : List (Nat × Value)} {st : List Value} {S : HS} {own : String} {cc : ByteArray} {ret : Option FieldType} {fr lo mc ms : Nat} {a lab : Nat} {i : Int32} (hC : JC X G own cc nL ret fr lo mc ms) (h0 : hK S a = lab) (hl0 : isZA lab = true) (hin : vp_in i (hN S a)) (d : decode cc pc = .ok (.baload, 1))
    (kk : J X G Q nL cs ss (pc + 1) lv (.int (hV S i.toNatClampNeg a) :: st) S) : J X G Q nL cs ss pc lv (.int i :: .ref a :: st) S := by
  intro H locs ls hR hS hl
  exact va_zald hC.1 hC.2.1 hC.k (hR.one ((hob_of h0).trans (hsh_ZA hl0))) 0 1 rfl rfl hin d (kk H locs ls hR hS hl)
theorem J_aald {X : JX} {G : JG} {Q : State → Prop} {nL cs ss pc : Nat} {lv : List (Nat × Value)} {st : List Value} {S : HS} {own : String} {cc : ByteArray} {ret : Option FieldType} {fr lo mc ms : Nat} {a b : Nat} {i : Int32} (hC : JC X G own cc nL ret fr lo mc ms) (h0 : hK S a = 12) (hin : vp_in i (hN S a)) (hb : hP S i.toNatClampNeg a = some b) (d : decode cc pc = .ok (.aaload, 1))
    (kk : J X G Q nL cs ss (pc + 1) lv (.ref b :: st) S) : J X G Q nL cs ss pc lv (.int i :: .ref a :: st) S := by
  intro H locs ls hR hS hl
  refine va_aldq hC.1 hC.2.1 hC.k (hR.one (hob_of h0)) 0 2 rfl rfl hin d ?_
  show W _ _ _ _ _ _ _ _ _ _ H locs cs ss Q (F0 _ (pc + 1) ls (va_rf (hP S i.toNatClampNeg a) :: st))
  rw [hb]
  exact kk H locs ls hR hS hl
theorem J_aald2 {X : JX} {G : JG} {Q : State → Prop} {nL cs ss pc : Nat} {lv : List (Nat × Value)} {st : List Value} {S : HS} {own : String} {cc : ByteArray} {ret : Option FieldType} {fr lo mc ms : Nat} {a b : Nat} {i : Int32} (hC : JC X G own cc nL ret fr lo mc ms) (h0 : hK S a = 13) (hin : vp_in i (hN S a)) (hb : hP S i.toNatClampNeg a = some b) (d : decode cc pc = .ok (.aaload, 1))
    (kk : J X G Q nL cs ss (pc + 1) lv (.ref b :: st) S) : J X G Q nL cs ss pc lv (.int i :: .ref a :: st) S := by
  intro H locs ls hR hS hl
  have ha := hR.one (hob_of h0) 0 _ rfl
  have hlt := vp_in_lt hin
  refine W.aald (v := .ref b) hC.1 hC.2.1 ha ((hC.k.2 3 _ rfl).1 (hN S a) (fun j => va_rf (hP S j a))) rfl (fun q => by cases q) (by show ¬ (i < 0 ∨ (arrV _ _ _).slots.size ≤ _); rw [arrV_size]; exact hin) (by show (arrV _ _ _).slots[_]? = _; rw [arrV_read _ _ hlt]; exact congrArg some (congrArg va_rf hb)) rfl rfl d ?_
  exact kk H locs ls hR hS hl
theorem J_iast {X : JX} {G : JG} {Q : State → Prop} {nL cs ss pc : Nat} {lv : List (Nat × Value)} {st : List Value} {S : HS} {own : String} {cc : ByteArray} {ret : Option FieldType} {fr lo mc ms : Nat} {a lab : Nat} {i x : Int32} (hC : JC X G own cc nL ret fr lo mc ms) (h0 : hK S a = lab) (hl0 : isIA lab = true) (hin : vp_in i (hN S a)) (d : decode cc pc = .ok (.iastore, 1))
    (kk : J X G Q nL cs ss (pc + 1) lv st (sV S i.toNatClampNeg a (x))) : J X G Q nL cs ss pc lv (.int x :: .int i :: .ref a :: st) S := by
  intro H locs ls hR hS hl
  obtain ⟨ws, hP, hD, h3⟩ := hR
  obtain ⟨j, hj⟩ := h3 a _ ((hob_of h0).trans (hsh_IA hl0))
  refine va_iast hC.1 hC.2.1 hC.k hP hD hS j 0 hj rfl hin d (fun H1 locs1 hP1 hD1 hS1 => kk H1 locs1 ls (Rep.put h3 hD hj hP1 hD1 ?_ (fun b hb => hob_sV hb)) hS1 hl)
  rw [hob_of (show hK (sV S i.toNatClampNeg a (x)) a = lab from h0), hsh_IA hl0]
  refine congrArg some (congrArg Sum.inl (congrArg (Prod.mk _) (congrArg (Prod.mk _) (congrArg Sum.inl (funext fun k => ?_)))))
  rw [hV_sV]
  by_cases e : k = i.toNatClampNeg
  · rw [if_pos ⟨e, rfl⟩, e, pk_us]
  · rw [if_neg (fun z => e z.1), pk_un e]
theorem J_zast {X : JX} {G : JG} {Q : State → Prop} {nL cs ss pc : Nat} {lv : List (Nat × Value)} {st : List Value} {S : HS} {own : String} {cc : ByteArray} {ret : Option FieldType} {fr lo mc ms : Nat} {a lab : Nat} {i x : Int32} (hC : JC X G own cc nL ret fr lo mc ms) (h0 : hK S a = lab) (hl0 : isZA lab = true) (hin : vp_in i (hN S a)) (d : decode cc pc = .ok (.bastore, 1))
    (kk : J X G Q nL cs ss (pc + 1) lv st (sV S i.toNatClampNeg a (vp_nar .boolean x))) : J X G Q nL cs ss pc lv (.int x :: .int i :: .ref a :: st) S := by
  intro H locs ls hR hS hl
  obtain ⟨ws, hP, hD, h3⟩ := hR
  obtain ⟨j, hj⟩ := h3 a _ ((hob_of h0).trans (hsh_ZA hl0))
  refine va_zast hC.1 hC.2.1 hC.k hP hD hS j 1 hj rfl hin d (fun H1 locs1 hP1 hD1 hS1 => kk H1 locs1 ls (Rep.put h3 hD hj hP1 hD1 ?_ (fun b hb => hob_sV hb)) hS1 hl)
  rw [hob_of (show hK (sV S i.toNatClampNeg a (vp_nar .boolean x)) a = lab from h0), hsh_ZA hl0]
  refine congrArg some (congrArg Sum.inl (congrArg (Prod.mk _) (congrArg (Prod.mk _) (congrArg Sum.inl (funext fun k => ?_)))))
  rw [hV_sV]
  by_cases e : k = i.toNatClampNeg
  · rw [if_pos ⟨e, rfl⟩, e, pk_us]
  · rw [if_neg (fun z => e z.1), pk_un e]
theorem J_aast {X : JX} {G : JG} {Q : State → Prop} {nL cs ss pc : Nat} {lv : List (Nat × Value)} {st : List Value} {S : HS} {own : String} {cc : ByteArray} {ret : Option FieldType} {fr lo mc ms : Nat} {a b lb : Nat} {i : Int32} {ci : Nat} {fs : List Value} {r : vw_C} (hC : JC X G own cc nL ret fr lo mc ms) (h0 : hK S a = 12) (hin : vp_in i (hN S a)) (hb : hK S b = lb) (hf : hsh G S b lb = some (.inr (ci, fs))) (hc : vwCl[ci]? = some r) (hcast : Cond.castable r.1 "java/lang/Object" ∈ wN) (d : decode cc pc = .ok (.aastore, 1))
    (kk : J X G Q nL cs ss (pc + 1) lv st (sP S i.toNatClampNeg a (some b))) : J X G Q nL cs ss pc lv (.ref b :: .int i :: .ref a :: st) S := by
  intro H locs ls hR hS hl
  obtain ⟨ws, hP, hD, h3⟩ := hR
  obtain ⟨j, hj⟩ := h3 a _ (hob_of h0)
  obtain ⟨jb, hjb⟩ := h3 b _ ((hob_of hb).trans hf)
  refine va_astqO hC.1 hC.2.1 hC.k hP hD hS j 2 jb ci hj rfl (hC.2.2.2.2.2.1.2.1 _ hcast) hjb hc hin d (fun H1 locs1 hP1 hD1 hS1 => kk H1 locs1 ls (Rep.put h3 hD hj hP1 hD1 ?_ (fun b hb => hob_sP hb)) hS1 hl)
  rw [hob_of (show hK (sP S i.toNatClampNeg a (some b)) a = 12 from h0)]
  refine congrArg some (congrArg Sum.inl (congrArg (Prod.mk _) (congrArg (Prod.mk _) (congrArg Sum.inr (congrArg Sum.inr (congrArg Sum.inr (congrArg Sum.inr (funext fun k => ?_))))))))
  rw [hP_sP]
  by_cases e : k = i.toNatClampNeg
  · rw [if_pos ⟨e, rfl⟩, e, va_up_self]
  · rw [if_neg (fun z => e z.1), va_up_ne _ _ e]
theorem J_alen {X : JX} {G : JG} {Q : State → Prop} {nL cs ss pc : Nat} {lv : List (Nat × Value)} {st : List Value} {S : HS} {own : String} {cc : ByteArray} {ret : Option FieldType} {fr lo mc ms : Nat} {a lab t0 : Nat} {cA : ClassId} {x : vp_A} {ty : FieldType} (hC : JC X G own cc nL ret fr lo mc ms) (h0 : hK S a = lab) (hf : hsh G S a lab = some (.inl (cA, x))) (ht : (tysG G)[t0]? = some (cA, ty)) {v : Int32} (hv : Int32.ofNat x.1 = v) (d : decode cc pc = .ok (.arraylength, 1))
    (kk : J X G Q nL cs ss (pc + 1) lv (.int v :: st) S) : J X G Q nL cs ss pc lv (.ref a :: st) S := by
  intro H locs ls hR hS hl
  exact va_alen hC.1 hC.2.1 hC.k (hR.one ((hob_of h0).trans hf)) 0 t0 rfl ht hv d (kk H locs ls hR hS hl)
theorem J_alenE {X : JX} {G : JG} {Q : State → Prop} {nL cs ss pc : Nat} {lv : List (Nat × Value)} {st : List Value} {S : HS} {own : String} {cc : ByteArray} {ret : Option FieldType} {fr lo mc ms : Nat} (hC : JC X G own cc nL ret fr lo mc ms) (d : decode cc pc = .ok (.arraylength, 1))
    (kk : J X G Q nL cs ss (pc + 1) lv (.int 0 :: st) S) : J X G Q nL cs ss pc lv (.ref (gE G) :: st) S := by
  intro H locs ls hR hS hl
  have h8 := hC.2.2.2.2.2.1.2.2.2.2.2.2.2.1
  have h9 := hC.2.2.2.2.2.1.2.2.2.2.2.2.2.2.1
  have hlt := h8.lt
  obtain ⟨cell, e1, e2, e3⟩ := h8
  exact W.alen (n := 0) hC.1 hC.2.1 (by rw [hS.2.1 _ hlt h9]; exact e1) e2 (by rw [e3] <;> rfl) rfl rfl d (kk H locs ls hR hS hl)
theorem J_newI {X : JX} {G : JG} {Q : State → Prop} {nL cs ss pc : Nat} {lv : List (Nat × Value)} {st : List Value} {S : HS} {own : String} {cc : ByteArray} {ret : Option FieldType} {fr lo mc ms : Nat} {n : Int32} {N lab : Nat} (hC : JC X G own cc nL ret fr lo mc ms) (hl0 : isIA lab = true) (hw : Cond.arrayClass .int ∈ wG) (hn : ¬ n < 0) (hNn : n.toNatClampNeg = N) (hb : N * 4 ≤ 536870912) (h1 : cs + 1 ≤ mc) (h2 : ss + N ≤ ms) (d : decode cc pc = .ok (.newarray .int, 2))
    (kk : ∀ q : Nat, hK S q = 0 → J X G Q nL (cs + 1) (ss + N) (pc + 2) lv (.ref q :: st) (sNew S q lab N)) : J X G Q nL cs ss pc lv (.int n :: st) S := by
  intro H locs ls hR hS hl
  obtain ⟨ws, hP, hD, h3⟩ := hR
  have hrm := hC.2.2.2.2.2.2.2.2.2
  refine va_newa (atype := .int) (ty := .int) (a0 := (N, .inl (fun _ => 0))) hC.1 hC.2.1 (hC.w hw) rfl hC.k hP hD hS (fun q hq => Nat.le_trans (GI.base hC.2.2.2.2.2.1) hq) (fun cA => rfl) hn hNn (by show N * 4 ≤ _; omega) (by rw [hrm]; exact h1) (by rw [hrm]; exact h2) d (fun q cA H1 hK1 hP1 hD1 hS1 => ?_)
  have ec : cA = gC G 0 := Option.some.inj (((hK1.2 4 _ rfl).2 : (xs X).vm.findClass _ = some cA).symm.trans ((hC.k.2 0 _ rfl).2 : (xs X).vm.findClass _ = some (gC G 0)))
  subst ec
  refine kk q (Rep.fresh h3 hD1) H1 locs ls (Rep.push h3 hP1 hD1 ?_ (fun b hb => hob_sNew hb)) hS1 hl
  rw [hob_of (show hK (sNew S q lab N) q = lab by rw [hK_sNew, if_pos rfl]), hsh_IA hl0, hN_sNew, if_pos rfl]
  refine congrArg some (congrArg Sum.inl (congrArg (Prod.mk _) (congrArg (Prod.mk _) (congrArg Sum.inl (funext fun k => ?_)))))
  rw [hV_sNew, if_pos rfl]
theorem J_newZ {X : JX} {G : JG} {Q : State → Prop} {nL cs ss pc : Nat} {lv : List (Nat × Value)} {st : List Value} {S : HS} {own : String} {cc : ByteArray} {ret : Option FieldType} {fr lo mc ms : Nat} {n : Int32} {N lab : Nat} (hC : JC X G own cc nL ret fr lo mc ms) (hl0 : isZA lab = true) (hw : Cond.arrayClass .boolean ∈ wG) (hn : ¬ n < 0) (hNn : n.toNatClampNeg = N) (hb : N * 4 ≤ 536870912) (h1 : cs + 1 ≤ mc) (h2 : ss + N ≤ ms) (d : decode cc pc = .ok (.newarray .boolean, 2))
    (kk : ∀ q : Nat, hK S q = 0 → J X G Q nL (cs + 1) (ss + N) (pc + 2) lv (.ref q :: st) (sNew S q lab N)) : J X G Q nL cs ss pc lv (.int n :: st) S := by
  intro H locs ls hR hS hl
  obtain ⟨ws, hP, hD, h3⟩ := hR
  have hrm := hC.2.2.2.2.2.2.2.2.2
  refine va_newa (atype := .boolean) (ty := .boolean) (a0 := (N, .inl (fun _ => 0))) hC.1 hC.2.1 (hC.w hw) rfl hC.k hP hD hS (fun q hq => Nat.le_trans (GI.base hC.2.2.2.2.2.1) hq) (fun cA => rfl) hn hNn (by show N * 1 ≤ _; omega) (by rw [hrm]; exact h1) (by rw [hrm]; exact h2) d (fun q cA H1 hK1 hP1 hD1 hS1 => ?_)
  have ec : cA = gC G 1 := Option.some.inj (((hK1.2 4 _ rfl).2 : (xs X).vm.findClass _ = some cA).symm.trans ((hC.k.2 1 _ rfl).2 : (xs X).vm.findClass _ = some (gC G 1)))
  subst ec
  refine kk q (Rep.fresh h3 hD1) H1 locs ls (Rep.push h3 hP1 hD1 ?_ (fun b hb => hob_sNew hb)) hS1 hl
  rw [hob_of (show hK (sNew S q lab N) q = lab by rw [hK_sNew, if_pos rfl]), hsh_ZA hl0, hN_sNew, if_pos rfl]
  refine congrArg some (congrArg Sum.inl (congrArg (Prod.mk _) (congrArg (Prod.mk _) (congrArg Sum.inl (funext fun k => ?_)))))
  rw [hV_sNew, if_pos rfl]
theorem J_newO {X : JX} {G : JG} {Q : State → Prop} {nL cs ss pc : Nat} {lv : List (Nat × Value)} {st : List Value} {S : HS} {own : String} {cc : ByteArray} {ret : Option FieldType} {fr lo mc ms : Nat} {n : Int32} {N idx : Nat} (hC : JC X G own cc nL ret fr lo mc ms) (hw : Cond.classLink own idx "java/lang/Object" ∈ wG) (hn : ¬ n < 0) (hNn : n.toNatClampNeg = N) (hb : N * 4 ≤ 536870912) (h1 : cs + 1 ≤ mc) (h2 : ss + N ≤ ms) (d : decode cc pc = .ok (.anewarray idx, 3))
    (kk : ∀ q : Nat, hK S q = 0 → J X G Q nL (cs + 1) (ss + N) (pc + 3) lv (.ref q :: st) (sNew S q 12 N)) : J X G Q nL cs ss pc lv (.int n :: st) S := by
  intro H locs ls hR hS hl
  obtain ⟨ws, hP, hD, h3⟩ := hR
  have hrm := hC.2.2.2.2.2.2.2.2.2
  refine va_newq hC.1 hC.2.1 hC.2.2.2.1 (hC.w hw) hC.2.2.2.2.2.1.2.2.2.2.2.2.2.2.2.2.1 hC.k hP hD hS (fun q hq => Nat.le_trans (GI.base hC.2.2.2.2.2.1) hq) hn hNn hb (by rw [hrm]; exact h1) (by rw [hrm]; exact h2) d (fun q cA H1 hK1 hP1 hD1 hS1 => ?_)
  have ec : cA = gC G 2 := by
    obtain ⟨-, -, -, -, -, e1⟩ := (hK1.2 4 _ rfl).2
    obtain ⟨-, -, -, -, -, e2⟩ := (hC.k.2 2 _ rfl).2
    exact Option.some.inj (e1.symm.trans e2)
  subst ec
  refine kk q (Rep.fresh h3 hD1) H1 locs ls (Rep.push h3 hP1 hD1 ?_ (fun b hb => hob_sNew hb)) hS1 hl
  rw [hob_of (show hK (sNew S q 12 N) q = 12 by rw [hK_sNew, if_pos rfl])]
  show some (Sum.inl (gC G 2, hN (sNew S q 12 N) q, Sum.inr (Sum.inr (Sum.inr (Sum.inr _))))) = _
  rw [hN_sNew, if_pos rfl]
  refine congrArg some (congrArg Sum.inl (congrArg (Prod.mk _) (congrArg (Prod.mk _) (congrArg Sum.inr (congrArg Sum.inr (congrArg Sum.inr (congrArg Sum.inr (funext fun k => ?_))))))))
  rw [hP_sNew, if_pos rfl]
