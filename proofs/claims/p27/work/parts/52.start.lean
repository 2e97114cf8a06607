/-! the start: the tables, the statics, the strings; printed by wip/p27/start.py -/
theorem strG_tbl : ∀ q ∈ strG, Cond.stringRef q.1 q.2.1 q.2.2 ∈ lw_tbl := by decide +kernel
theorem strG_nar : ∀ q ∈ strG, Cond.exactly (.string q.1 q.2.1) "java/lang/String" ∈ flatC (Jvm.Cond.and given_1 narrow_1) := by decide +kernel
theorem ncs_nar : ∀ q ∈ ncsG, Cond.not (.castable q.1 q.2) ∈ flatC (Jvm.Cond.and given_1 narrow_1) := by decide +kernel
/-- an array whose length is said to be 0 -/
theorem len0 {args : Array Value} {s : State} {t : Term} {a : Addr} {cell : Cell} (h : (Cond.eq (.length t) (.int 0)).before args s = true) (ht : t.eval args s none [] s = some (.ref a)) (hc : s.heap[a]? = some cell) : cell.slots.size = 0 := by
  cases hv : (Term.length t).eval args s none [] s with
  | none => simp [Cond.before, Cond.holds, Cond.value, hv] at h
  | some w =>
    have h2 := hv
    simp only [Term.eval, Option.bind_eq_bind] at h2
    rw [ht] at h2
    simp only [Option.bind_some] at h2
    obtain ⟨c2, hc2, h3⟩ := Option.bind_eq_some_iff.mp h2
    obtain ⟨hcb, -⟩ := State.arrayAt?_spec hc2
    cases hcb.symm.trans hc
    by_cases hn : cell.slots.size < 2147483648
    · rw [if_pos hn] at h3
      cases h3
      have e := Cond.eq_ints hv (show (Term.int 0).eval args s none [] s = some (.int 0) from rfl)
      have hd : cell.slots.size.toInt32 = 0 := by
        simpa [Cond.before, Cond.holds, e] using h
      exact nI_inj (b := 0) hn (by decide) hd
    · rw [if_neg hn] at h3
      cases h3
set_option maxHeartbeats 4000000 in
theorem start_G {s : State} {b L : Nat} {xs : Nat → Int32} (hX : va_X b L xs s s.heap) (hbl : b < s.heap.size) (hts : ∀ w ∈ lw_tbl, w.before #[Value.ref b] s = true) (hgv : (Jvm.Cond.and given_1 narrow_1).before #[Value.ref b] s = true) : ∃ G : JG, gB G = s.heap.size ∧ GI G s s.heap ∧ gScr G = b ∧ gLen G = L := by
  have hs := flat_of_before _ hgv
  have hA : ∀ a : Nat, a < s.heap.size → ¬ (fun q : Nat => s.heap.size ≤ q) a := fun a h => Nat.not_le.mpr h
  have hw : ∀ w ∈ wG, w.before #[Value.ref b] s = true := fun w hw => hts w (List.mem_filter.mp hw).1
  obtain ⟨c0, i0, k0⟩ := u_known (C := RJx4a65c) (T := TJx4a65c) (N := 3) (n := 3) hw inwJx4a65c (hts (.instantiable RJx4a65c 3) (List.mem_of_getElem? (i := 95) (by decide +kernel)))
  obtain ⟨c1, i1, k1⟩ := u_known (C := RX0) (T := TX0) (N := 3) (n := 3) hw inwX0 (hts (.instantiable RX0 3) (List.mem_of_getElem? (i := 77) (by decide +kernel)))
  obtain ⟨c2, i2, k2⟩ := u_known (C := RX1) (T := TX1) (N := 8) (n := 8) hw inwX1 (hts (.instantiable RX1 8) (List.mem_of_getElem? (i := 514) (by decide +kernel)))
  obtain ⟨c3, i3, k3⟩ := u_known (C := RX2) (T := TX2) (N := 5) (n := 5) hw inwX2 (hts (.instantiable RX2 5) (List.mem_of_getElem? (i := 121) (by decide +kernel)))
  obtain ⟨c4, i4, k4⟩ := u_known (C := RX3) (T := TX3) (N := 4) (n := 4) hw inwX3 (hts (.instantiable RX3 4) (List.mem_of_getElem? (i := 48) (by decide +kernel)))
  obtain ⟨c5, i5, k5⟩ := u_known (C := RX4) (T := TX4) (N := 12) (n := 12) hw inwX4 (hts (.instantiable RX4 12) (List.mem_of_getElem? (i := 508) (by decide +kernel)))
  obtain ⟨c6, i6, k6⟩ := u_known (C := RX5) (T := TX5) (N := 8) (n := 8) hw inwX5 (hts (.instantiable RX5 8) (List.mem_of_getElem? (i := 40) (by decide +kernel)))
  obtain ⟨dC, dI, hKc⟩ : ∃ (dC : Nat → ClassId) (dI : Nat → Nat → Nat), ∀ (k : Nat) (q : vw_C), vwCl[k]? = some q → u_Kn s q.1 q.2.1 q.2.2 (dC k) (dI k) := by
    refine ⟨fun k => if k = 0 then c0 else if k = 1 then c1 else if k = 2 then c2 else if k = 3 then c3 else if k = 4 then c4 else if k = 5 then c5 else c6, fun k => if k = 0 then i0 else if k = 1 then i1 else if k = 2 then i2 else if k = 3 then i3 else if k = 4 then i4 else if k = 5 then i5 else i6, ?_⟩
    intro k q hq
    match k, hq with
    | 0, hq => cases hq; exact k0
    | 1, hq => cases hq; exact k1
    | 2, hq => cases hq; exact k2
    | 3, hq => cases hq; exact k3
    | 4, hq => cases hq; exact k4
    | 5, hq => cases hq; exact k5
    | 6, hq => cases hq; exact k6
    | k + 7, hq => simp [vwCl] at hq
  obtain ⟨aI, qI, pI, eI1, eI2, eI3⟩ := Cond.arrayClass_spec (hts (.arrayClass .int) (List.mem_of_getElem? (i := 93) (by decide +kernel)))
  obtain ⟨aZ, qZ, pZ, eZ1, eZ2, eZ3⟩ := Cond.arrayClass_spec (hts (.arrayClass .boolean) (List.mem_of_getElem? (i := 650) (by decide +kernel)))
  obtain ⟨pO, aO, qO, eO1, -, eO3, eO4, eO5⟩ := Cond.arrayOver_spec (hts (.arrayOver (.object "java/lang/Object")) (List.mem_of_getElem? (i := 640) (by decide +kernel)))
  obtain ⟨pA, aA, qA, eA1, -, eA3, eA4, eA5⟩ := arrayOverA_spec (hts (.arrayOver (.array .int)) (List.mem_of_getElem? (i := 127) (by decide +kernel)))
  obtain ⟨ed, cE, cellE, qE, e1, -, e3, -, -, -, -⟩ := Cond.exactly_spec (args := #[Value.ref b]) (first := s) (o := none) (s := s) (idx := []) (t := .static "java/util/ArrayList" "DEFAULTCAPACITY_EMPTY_ELEMENTDATA" dAL) (cls := dAL) (hs _ (by decide +kernel))
  have eA := (Cond.arrayOf_spec (args := #[Value.ref b]) (first := s) (o := none) (s := s) (idx := []) (t := .static "java/util/ArrayList" "DEFAULTCAPACITY_EMPTY_ELEMENTDATA" dAL) (ty := .object "java/lang/Object") (hs _ (by decide +kernel)) e1 e3).1
  have e0 := len0 (hs (.eq (.length (.static "java/util/ArrayList" "DEFAULTCAPACITY_EMPTY_ELEMENTDATA" dAL)) (.int 0)) (by decide +kernel)) e1 e3
  have hlt : ed < s.heap.size := (Array.getElem?_eq_some_iff.mp e3).1
  obtain ⟨mi, hmi⟩ := va_Mi.of (hs (.isRef (.mirror "[Ljava/lang/Object;")) (by decide +kernel))
  refine ⟨((dC, dI), (fun k => if k = 0 then aI else if k = 1 then aZ else if k = 2 then aO else aA), s.heap.size, ed, mi, b, L, xs), rfl, ⟨⟨hKc, ?_⟩, ?_, ?_, ?_, ?_, ?_, ?_, ⟨cellE, e3, eA, e0⟩, hA ed hlt, hmi, ?_, ?_, ⟨hX, hbl, hA b hbl⟩, Nat.le_refl _⟩, rfl, rfl⟩
  · intro k q hq
    match k, hq with
    | 0, hq => cases hq; exact ⟨fun n z => ⟨(fun k h => by cases h), qI, eI2, pI, eI3⟩, eI1⟩
    | 1, hq => cases hq; exact ⟨fun n z => ⟨(fun k h => by cases h), qZ, eZ2, pZ, eZ3⟩, eZ1⟩
    | 2, hq => cases hq; exact ⟨fun n z => ⟨(fun k h => by cases h), qO, eO3, pO, eO4⟩, qO, pO, eO3, eO4, eO1, eO5⟩
    | 3, hq => cases hq; exact ⟨fun n z => ⟨(fun k h => by cases h), qA, eA3, pA, eA4⟩, eA5⟩
    | k + 4, hq => simp [tysG] at hq
  · intro w hw
    have hn := (List.mem_filter.mp hw).2
    have ho : w.onTables = true := by cases w <;> first | rfl | cases hn
    exact va_Nw.of ho (hts w (List.mem_filter.mp hw).1)
  · exact fun q hq => va_Nc.of (hs _ (ncs_nar q hq))
  · intro q hq
    obtain ⟨a, -, -, -, e, -⟩ := Cond.exactly_spec (args := #[Value.ref b]) (first := s) (o := none) (s := s) (idx := []) (t := .string q.1 q.2.1) (cls := "java/lang/String") (hs _ (strG_nar q hq))
    exact ⟨a, vk_R.of (A := #[Value.ref b]) (hts _ (strG_tbl q hq)) e⟩
  · exact vx_Zqof (hts (.laysStatic Bundle.tN "UNASSIGNED_STACK" Bundle.steD) (List.mem_of_getElem? (i := 206) (by decide +kernel))) (hts (.initialized Bundle.tN) (List.mem_of_getElem? (i := 25) (by decide +kernel))) (hs (.isRef (.static Bundle.tN "UNASSIGNED_STACK" Bundle.steD)) (by decide +kernel)) hA
  · exact vx_Zqof (hts (.laysStatic Bundle.tN "SUPPRESSED_SENTINEL" Bundle.listD) (List.mem_of_getElem? (i := 208) (by decide +kernel))) (hts (.initialized Bundle.tN) (List.mem_of_getElem? (i := 25) (by decide +kernel))) (hs (.isRef (.static Bundle.tN "SUPPRESSED_SENTINEL" Bundle.listD)) (by decide +kernel)) hA
  · exact va_Zof (hts (.laysStatic "java/util/ArrayList" "DEFAULTCAPACITY_EMPTY_ELEMENTDATA" dAL) (List.mem_of_getElem? (i := 107) (by decide +kernel))) (hts (.initialized "java/util/ArrayList") (List.mem_of_getElem? (i := 23) (by decide +kernel))) e1 hA
  · exact va_AO.of (hts (.arrayOver (.object "java/lang/Object")) (List.mem_of_getElem? (i := 640) (by decide +kernel)))
  · exact hts (.arrayOver (.array .int)) (List.mem_of_getElem? (i := 127) (by decide +kernel))
theorem Rep.zero {G : JG} {H : Heap} : Rep G H00 H := ⟨[], fun k q h => by simp at h, ⟨fun i j p q h => by simp at h, fun k q h => by simp at h⟩, fun a e h => by
  have h2 : (none : Option va_E) = some e := h
  cases h2⟩
