/-! more rows: statics, class objects, copies, arrays of arrays -/
section R2
variable {X : JX} {G : JG} {Q : State → Prop} {nL cs ss pc : Nat} {lv : List (Nat × Value)} {st : List Value} {S : HS} {own : String} {cc : ByteArray} {ret : Option FieldType} {fr lo mc ms : Nat}
theorem J_dup2 {v w : Value} (hC : JC X G own cc nL ret fr lo mc ms) (d : decode cc pc = .ok (.dup2, 1)) (hv : v.category = 1) (hw : w.category = 1) (k : J X G Q nL cs ss (pc + 1) lv (v :: w :: v :: w :: st) S) : J X G Q nL cs ss pc lv (v :: w :: st) S := by
  intro H locs ls hR hS hl
  exact lv_dup2_11 hC.1 hC.2.1 d hv hw (k H locs ls hR hS hl)
theorem J_getsE (hC : JC X G RJx4a65c cc nL ret fr lo mc ms) (d : decode cc pc = .ok (.getstatic 39, 3)) (k : J X G Q nL cs ss (pc + 3) lv (.ref (gE G) :: st) S) : J X G Q nL cs ss pc lv st S := by
  intro H locs ls hR hS hl
  exact va_gets hC.1 hC.2.1 hC.2.2.2.2.2.1.2.2.2.2.2.2.1 hS hC.2.2.2.1 (hC.w (w := .fieldLink RJx4a65c 39 RJx4a65c "DEFAULTCAPACITY_EMPTY_ELEMENTDATA" dAL) (mG 106 (by decide +kernel) rfl)) (fun _ h => h) d (k H locs ls hR hS hl)
theorem J_ldcO {idx : Nat} (hC : JC X G own cc nL ret fr lo mc ms) (hw : Cond.classLink own idx "[Ljava/lang/Object;" ∈ wG) (d : decode cc pc = .ok (.ldc idx, 2)) (k : J X G Q nL cs ss (pc + 2) lv (.ref (gM G) :: st) S) : J X G Q nL cs ss pc lv st S := by
  intro H locs ls hR hS hl
  exact va_ldcM hC.1 hC.2.1 hC.2.2.2.1 (hC.w hw) hC.2.2.2.2.2.1.2.2.2.2.2.2.2.2.2.1 d (k H locs ls hR hS hl)
theorem J_getCO {idx a : Nat} (hC : JC X G own cc nL ret fr lo mc ms) (h0 : hK S a = 12) (hw : Cond.methodLink own idx ⟨"java/lang/Object", "getClass", "()Ljava/lang/Class;"⟩ ∈ wG) (hf : 1 ≤ fr) (hlo : (st.map fun v => v.category).sum + 14 ≤ lo) (d : decode cc pc = .ok (.invokevirtual idx, 3)) (k : J X G Q nL cs ss (pc + 3) lv (.ref (gM G) :: st) S) : J X G Q nL cs ss pc lv (.ref a :: st) S := by
  intro H locs ls hR hS hl
  have hrm := hC.2.2.2.2.2.2.2.2.2
  have hP := hR.one (hob_of h0)
  refine va_getC (C := "[Ljava/lang/Object;") hC.1 hC.2.1 (by rw [hC.2.2.1]; exact hl.1.symm) hC.2.2.2.1 (hC.w hw) (va_Nw.use (A := xa X) rfl (hC.2.2.2.2.2.1.2.1 (.declares ⟨"java/lang/Object", "getClass", "()Ljava/lang/Class;"⟩) (mN 666 (by decide +kernel) rfl))) (hC.w (mG 665 (by decide +kernel) rfl)) (hC.w (mG 623 (by decide +kernel) rfl)) (hC.w (mG 635 (by decide +kernel) rfl)) hC.2.2.2.2.2.1.2.2.2.2.2.2.2.2.2.1 ⟨_, hP 0 _ rfl, rfl, ?_⟩ (by rw [hrm]; exact hf) (by rw [hrm]; exact hlo) d (k H locs ls hR hS hl)
  exact va_nmO (hC.k.2 2 _ rfl).2 (by decide)
/-- the references of the cell a, all of them -/
def sPa (S : HS) (a : Nat) (g : Nat → Option Nat) : HS := (S.1, S.2.1, (fun k b => if b = a then g k else S.2.2.1 k b), S.2.2.2)
theorem hob_sPa {G : JG} {S : HS} {a b : Nat} {g : Nat → Option Nat} (h : b ≠ a) : hob G (sPa S a g) b = hob G S b :=
  hob_congr rfl (fun _ => rfl) (fun _ => if_neg h) rfl (fun _ => rfl) (fun _ => rfl)
theorem hP_sPa (S : HS) (a : Nat) (g : Nat → Option Nat) (k b : Nat) : hP (sPa S a g) k b = if b = a then g k else hP S k b := rfl
theorem hK_sPa (S : HS) (a : Nat) (g : Nat → Option Nat) (b : Nat) : hK (sPa S a g) b = hK S b := rfl
theorem J_copyO {idx a0 a : Nat} {sp dp n : Int32} (hC : JC X G own cc nL ret fr lo mc ms) (h0 : hK S a0 = 12) (h1 : hK S a = 12) (hel : ∀ i : Nat, i < n.toNatClampNeg → ∀ y : Nat, hP S (sp.toNatClampNeg + i) a0 = some y → hK S y = 6) (hw : Cond.methodLink own idx arraycopyName ∈ wG) (g1 : ¬ sp < 0) (g2 : ¬ dp < 0) (g3 : ¬ n < 0) (g4 : sp.toNatClampNeg + n.toNatClampNeg ≤ hN S a0) (g5 : dp.toNatClampNeg + n.toNatClampNeg ≤ hN S a) (hf : 1 ≤ fr) (hlo : (st.map fun v => v.category).sum + (nativeFrameWords "java/lang/System" "arraycopy" 5 + 11) ≤ lo) (d : decode cc pc = .ok (.invokestatic idx, 3))
    (k : J X G Q nL cs ss (pc + 3) lv st (sPa S a (va_cpy (fun i => hP S i a0) (fun i => hP S i a) sp.toNatClampNeg dp.toNatClampNeg n.toNatClampNeg))) : J X G Q nL cs ss pc lv (.int n :: .int dp :: .ref a :: .int sp :: .ref a0 :: st) S := by
  intro H locs ls hR hS hl
  have hrm := hC.2.2.2.2.2.2.2.2.2
  have hR0 := hR
  obtain ⟨ws, hP0, hD, h3⟩ := hR
  obtain ⟨j0, hj0⟩ := h3 a0 _ (hob_of h0)
  obtain ⟨j1, hj1⟩ := h3 a _ (hob_of h1)
  refine va_copyq (C := RX4) hC.1 hC.2.1 (by rw [hC.2.2.1]; exact hl.1.symm) hC.2.2.2.1 (hC.w hw) (hC.w (mG 647 (by decide +kernel) rfl)) (hC.w (mG 646 (by decide +kernel) rfl)) (hC.w (mG 35 (by decide +kernel) rfl)) hC.k hP0 hD hS j0 j1 2 2 hj0 hj1 rfl rfl g1 g2 g3 g4 g5 (fun i hi y hy => va_recv (q0 := 0) (ci := 5) hC.k (hR0.one (hob_of (hel i hi y hy))) (q := (RX4, TX4, 12)) rfl rfl) (vb_asgC (hC.2.2.2.2.2.1.2.1 (.castable RX4 "java/lang/Object") (mN 659 (by decide +kernel) rfl))) (by rw [hrm]; exact hf) (by rw [hrm]; exact hlo) d (fun H1 locs1 hP1 hD1 hS1 => k H1 locs1 ls (Rep.put h3 hD hj1 hP1 hD1 ?_ (fun b hb => hob_sPa hb)) hS1 hl)
  rw [hob_of (show hK (sPa S a _) a = 12 from h1)]
  refine congrArg some (congrArg Sum.inl (congrArg (Prod.mk _) (congrArg (Prod.mk _) (congrArg Sum.inr (congrArg Sum.inr (congrArg Sum.inr (congrArg Sum.inr (funext fun k => ?_))))))))
  rw [hP_sPa, if_pos rfl]
/-- int places of the cell a, all of them -/
def sVa (S : HS) (a : Nat) (g : Nat → Int32) : HS := (S.1, S.2.1, S.2.2.1, S.2.2.2.1, S.2.2.2.2.1, fun k b => if b = a then g k else S.2.2.2.2.2 k b)
theorem hob_sVa {G : JG} {S : HS} {a b : Nat} {g : Nat → Int32} (h : b ≠ a) : hob G (sVa S a g) b = hob G S b :=
  hob_congr rfl (fun _ => rfl) (fun _ => rfl) rfl (fun _ => rfl) (fun _ => if_neg h)
theorem hV_sVa (S : HS) (a : Nat) (g : Nat → Int32) (k b : Nat) : hV (sVa S a g) k b = if b = a then g k else hV S k b := rfl
theorem J_copyI {idx a0 a l0 l1 : Nat} {sp dp n : Int32} (hC : JC X G own cc nL ret fr lo mc ms) (h0 : hK S a0 = l0) (i0 : isIA l0 = true) (h1 : hK S a = l1) (i1 : isIA l1 = true) (hw : Cond.methodLink own idx arraycopyName ∈ wG) (g1 : ¬ sp < 0) (g2 : ¬ dp < 0) (g3 : ¬ n < 0) (g4 : sp.toNatClampNeg + n.toNatClampNeg ≤ hN S a0) (g5 : dp.toNatClampNeg + n.toNatClampNeg ≤ hN S a) (hf : 1 ≤ fr) (hlo : (st.map fun v => v.category).sum + (nativeFrameWords "java/lang/System" "arraycopy" 5 + 11) ≤ lo) (d : decode cc pc = .ok (.invokestatic idx, 3))
    (k : J X G Q nL cs ss (pc + 3) lv st (sVa S a (va_cpy (fun i => hV S i a0) (fun i => hV S i a) sp.toNatClampNeg dp.toNatClampNeg n.toNatClampNeg))) : J X G Q nL cs ss pc lv (.int n :: .int dp :: .ref a :: .int sp :: .ref a0 :: st) S := by
  intro H locs ls hR hS hl
  have hrm := hC.2.2.2.2.2.2.2.2.2
  obtain ⟨ws, hP0, hD, h3⟩ := hR
  obtain ⟨j0, hj0⟩ := h3 a0 _ ((hob_of h0).trans (hsh_IA i0))
  obtain ⟨j1, hj1⟩ := h3 a _ ((hob_of h1).trans (hsh_IA i1))
  refine va_copyi hC.1 hC.2.1 (by rw [hC.2.2.1]; exact hl.1.symm) hC.2.2.2.1 (hC.w hw) (hC.w (mG 647 (by decide +kernel) rfl)) (hC.w (mG 646 (by decide +kernel) rfl)) (hC.w (mG 35 (by decide +kernel) rfl)) hC.k hP0 hD hS j0 j1 0 0 hj0 hj1 rfl rfl rfl g1 g2 g3 g4 g5 (fun _ _ => rfl) (by rw [hrm]; exact hf) (by rw [hrm]; exact hlo) d (fun H1 locs1 hP1 hD1 hS1 => k H1 locs1 ls (Rep.put h3 hD hj1 hP1 hD1 ?_ (fun b hb => hob_sVa hb)) hS1 hl)
  rw [hob_of (show hK (sVa S a _) a = l1 from h1), hsh_IA i1]
  refine congrArg some (congrArg Sum.inl (congrArg (Prod.mk _) (congrArg (Prod.mk _) (congrArg Sum.inl (funext fun k => ?_)))))
  rw [hV_sVa, if_pos rfl]
def rowsN (T : HS) (r : Nat → Nat) : Nat → HS
  | 0 => T
  | n + 1 => sNew (rowsN T r n) (r n) 11 4
def sMna (S : HS) (q : Nat) (r : Nat → Nat) : HS := sPa (rowsN (sNew S q 13 20) r 20) q (fun i => if i < 20 then some (r i) else none)
theorem rowsN_old {T : HS} {r : Nat → Nat} : ∀ {n a : Nat}, (∀ i, i < n → a ≠ r i) → same1 T (rowsN T r n) a
  | 0, a, _ => same1.rfl
  | n + 1, a, h => (rowsN_old (n := n) (fun i hi => h i (by omega))).trans ⟨if_neg (h n (by omega)), if_neg (h n (by omega)), fun _ => if_neg (h n (by omega)), fun _ => if_neg (h n (by omega)), fun _ => if_neg (h n (by omega)), fun _ => if_neg (h n (by omega))⟩
theorem rowsN_row {T : HS} {r : Nat → Nat} : ∀ {n i : Nat}, (∀ i j, i < n → j < n → r i = r j → i = j) → i < n → hK (rowsN T r n) (r i) = 11 ∧ hN (rowsN T r n) (r i) = 4 ∧ ∀ k, hV (rowsN T r n) k (r i) = 0
  | 0, i, _, h => absurd h (Nat.not_lt_zero i)
  | n + 1, i, hr, h => by
    by_cases e : i = n
    · subst e
      exact ⟨if_pos rfl, if_pos rfl, fun _ => if_pos rfl⟩
    · have hne : r i ≠ r n := fun z => e (hr i n h (by omega) z)
      obtain ⟨h1, h2, h3⟩ := rowsN_row (T := T) (n := n) (i := i) (fun a b ha hb => hr a b (by omega) (by omega)) (by omega)
      exact ⟨(if_neg hne).trans h1, (if_neg hne).trans h2, fun k => (if_neg hne).trans (h3 k)⟩
theorem same1.hob {G : JG} {S T : HS} {a : Nat} (h : same1 S T a) : hob G T a = hob G S a := hob_congr h.1 h.2.2.1 h.2.2.2.1 h.2.1 h.2.2.2.2.2 h.2.2.2.2.1
theorem J_mna (hC : JC X G RX2 cc nL ret fr lo mc ms) (h1 : cs + 21 ≤ mc) (h2 : ss + 100 ≤ ms) (d : decode cc pc = .ok (.multianewarray 9 2, 4))
    (k : ∀ (q : Nat) (r : Nat → Nat), hK S q = 0 → (∀ i, i < 20 → hK S (r i) = 0 ∧ r i ≠ q) → (∀ i j, i < 20 → j < 20 → r i = r j → i = j) → J X G Q nL (cs + 21) (ss + 100) (pc + 4) lv (.ref q :: st) (sMna S q r)) : J X G Q nL cs ss pc lv (.int 4 :: .int 20 :: st) S := by
  intro H locs ls hR hS hl
  have hrm := hC.2.2.2.2.2.2.2.2.2
  obtain ⟨ws, hP0, hD, h3⟩ := hR
  have hPx : va_P (gD G) vwCl (ws ++ va_pl [] (fun _ => .inl (gC G 0, 0, .inl (fun _ => 0)))) H := by unfold va_pl; rw [List.map_nil, List.append_nil]; exact hP0
  have hDx : va_D (gA G) (ws ++ va_pl [] (fun _ => .inl (gC G 0, 0, .inl (fun _ => 0)))) := by unfold va_pl; rw [List.map_nil, List.append_nil]; exact hD
  refine va_mna (ty := .int) (cy := gC G 0) (N' := 20) (K' := 4) (z := (4, .inl (fun _ => 0))) hC.1 hC.2.1 hC.2.2.2.1 (hC.w (mG 126 (by decide +kernel) rfl)) hC.2.2.2.2.2.1.2.2.2.2.2.2.2.2.2.2.2.1 (hC.w (mG 93 (by decide +kernel) rfl)) ((hC.k.2 0 _ rfl).2 : (xs X).vm.findClass _ = some (gC G 0)) hC.k hPx hDx hS (fun q hq => Nat.le_trans (GI.base hC.2.2.2.2.2.1) hq) (by decide) (by decide) rfl rfl (by decide) (by decide) (by decide) rfl rfl (by rw [hrm]; exact h1) (by rw [hrm]; exact h2) (fun c => rfl) d (fun q r cA H1 hri _ hK1 hP1 hD1 hS1 => ?_)
  have ec : cA = gC G 3 := Option.some.inj (((hK1.2 4 _ rfl).2 : (xs X).vm.findClass _ = some cA).symm.trans ((hC.k.2 3 _ rfl).2 : (xs X).vm.findClass _ = some (gC G 3)))
  subst ec
  obtain ⟨f2, hf2⟩ : ∃ f2, f2 = vr_up (fun _ => (.inl (gC G 0, 0, .inl (fun _ => 0)) : va_E)) ((List.range 20).map r) (.inl (gC G 0, (4, .inl (fun _ => 0)))) := ⟨_, rfl⟩
  rw [List.nil_append] at hP1 hD1
  rw [← hf2] at hP1 hD1
  have ef : ∀ i, i < 20 → f2 (r i) = .inl (gC G 0, (4, .inl (fun _ => 0))) := fun i hi => by
    rw [hf2]; exact vr_up_in (List.mem_map.mpr ⟨i, List.mem_range.mpr hi, rfl⟩)
  generalize hW : ((ws ++ [(q, (.inl (gC G 3, 20, .inr (.inr (.inr (.inr (fun i => if i < 20 then some (r i) else none))))) : va_E))]) ++ va_pl ((List.range 20).map r) f2) = W1 at hP1 hD1
  have iq : W1[ws.length]? = some (q, .inl (gC G 3, 20, .inr (.inr (.inr (.inr (fun i => if i < 20 then some (r i) else none)))))) := by
    rw [← hW, List.getElem?_append_left (by simp)]
    simp
  have ir : ∀ i, i < 20 → W1[ws.length + 1 + i]? = some (r i, .inl (gC G 0, (4, .inl (fun _ => 0)))) := fun i hi => by
    rw [← hW, List.getElem?_append_right (by simp)]
    rw [show ws.length + 1 + i - (ws ++ [(q, (.inl (gC G 3, 20, .inr (.inr (.inr (.inr (fun i => if i < 20 then some (r i) else none))))) : va_E))]).length = i by simp]
    unfold va_pl
    rw [List.getElem?_map, List.getElem?_map, List.getElem?_range hi]
    show some (r i, f2 (r i)) = _
    rw [ef i hi]
  have iw : ∀ j e, ws[j]? = some e → W1[j]? = some e := fun j e h => by
    have hlt := (List.getElem?_eq_some_iff.mp h).1
    rw [← hW, List.getElem?_append_left (by simp; omega), List.getElem?_append_left hlt]
    exact h
  have fr0 : ∀ {a k e0}, ws.length ≤ k → W1[k]? = some (a, e0) → hK S a = 0 := fun {a k e0} hk h => by
    refine hob_0 (G := G) ?_
    cases h9 : hob G S a with
    | none => rfl
    | some e =>
      obtain ⟨j, hj⟩ := h3 a e h9
      have hlt := (List.getElem?_eq_some_iff.mp hj).1
      have := hD1.1 _ _ _ _ (iw j _ hj) h rfl
      omega
  have fq := fr0 (Nat.le_refl _) iq
  have frr : ∀ i, i < 20 → hK S (r i) = 0 ∧ r i ≠ q := fun i hi => ⟨fr0 (by omega) (ir i hi), fun z => by
    have := hD1.1 _ _ _ _ (ir i hi) iq z
    omega⟩
  refine k q r fq frr hri H1 locs ls ⟨W1, hP1, hD1, fun b f hf => ?_⟩ hS1 hl
  by_cases eq : b = q
  · subst eq
    refine ⟨ws.length, ?_⟩
    have s1 := rowsN_old (T := sNew S b 13 20) (r := r) (n := 20) (a := b) (fun i hi z => (frr i hi).2 z.symm)
    have k1 : hK (sMna S b r) b = 13 := s1.1.trans (if_pos rfl)
    have n1 : hN (sMna S b r) b = 20 := s1.2.1.trans (if_pos rfl)
    rw [hob_of k1] at hf
    have e9 : hsh G (sMna S b r) b 13 = some (.inl (gC G 3, 20, .inr (.inr (.inr (.inr (fun i => if i < 20 then some (r i) else none)))))) := by
      show some (Sum.inl (gC G 3, hN (sMna S b r) b, Sum.inr (Sum.inr (Sum.inr (Sum.inr (fun i => hP (sMna S b r) i b)))))) = _
      rw [n1]
      refine congrArg some (congrArg Sum.inl (congrArg (Prod.mk _) (congrArg (Prod.mk _) (congrArg Sum.inr (congrArg Sum.inr (congrArg Sum.inr (congrArg Sum.inr (funext fun k => ?_))))))))
      exact if_pos rfl
    rw [e9] at hf
    cases hf
    exact iq
  · rw [show hob G (sMna S q r) b = hob G (rowsN (sNew S q 13 20) r 20) b from hob_sPa eq] at hf
    by_cases er : ∃ i, i < 20 ∧ b = r i
    · obtain ⟨i, hi, rfl⟩ := er
      refine ⟨ws.length + 1 + i, ?_⟩
      obtain ⟨q1, q2, q3⟩ := rowsN_row (T := sNew S q 13 20) hri hi
      rw [hob_of q1, hsh_IA (show isIA 11 = true from rfl), q2] at hf
      rw [ir i hi]
      cases hf
      refine congrArg some (congrArg (Prod.mk _) (congrArg Sum.inl (congrArg (Prod.mk _) (congrArg (Prod.mk _) (congrArg Sum.inl (funext fun k => ?_))))))
      exact (q3 k).symm
    · have s1 := rowsN_old (T := sNew S q 13 20) (r := r) (n := 20) (a := b) (fun i hi z => er ⟨i, hi, z⟩)
      rw [s1.hob, hob_sNew eq] at hf
      obtain ⟨j, hj⟩ := h3 b f hf
      exact ⟨j, iw j _ hj⟩
end R2
