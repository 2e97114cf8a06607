/-! The walk in packages. S : HS is the heap as the claim sees it: of each address its label (what it is), its int slots, its reference slots, its length, its long slots. -/
/-- the tables' words that a callee may take over -/
def wG : List Cond := lw_tbl.filter goodWord
theorem mG {w : Cond} (k : Nat) (h : lw_tbl[k]? = some w) (g : goodWord w = true) : w ∈ wG := List.mem_filter.mpr ⟨List.mem_of_getElem? h, g⟩
theorem goodIn_wG {ws : List Cond} (h : ∀ w ∈ ws, w ∈ wG) : GoodIn wG ws := fun w hw => ⟨h w hw, good_of_word (List.mem_filter.mp (h w hw)).2⟩
abbrev HS : Type := (Nat → Nat) × (Nat → Nat → Int32) × (Nat → Nat → Option Nat) × (Nat → Nat) × (Nat → Nat → Int64) × (Nat → Nat → Int32)
def hK (S : HS) (a : Nat) : Nat := S.1 a
def hI (S : HS) (k a : Nat) : Int32 := S.2.1 k a
def hP (S : HS) (k a : Nat) : Option Nat := S.2.2.1 k a
def hN (S : HS) (a : Nat) : Nat := S.2.2.2.1 a
def hL (S : HS) (k a : Nat) : Int64 := S.2.2.2.2.1 k a
def hV (S : HS) (k a : Nat) : Int32 := S.2.2.2.2.2 k a
def sI (S : HS) (k a : Nat) (v : Int32) : HS := (S.1, fun k' a' => if k' = k ∧ a' = a then v else S.2.1 k' a', S.2.2)
def sP (S : HS) (k a : Nat) (v : Option Nat) : HS := (S.1, S.2.1, fun k' a' => if k' = k ∧ a' = a then v else S.2.2.1 k' a', S.2.2.2)
def sL (S : HS) (k a : Nat) (v : Int64) : HS := (S.1, S.2.1, S.2.2.1, S.2.2.2.1, (fun k' a' => if k' = k ∧ a' = a then v else S.2.2.2.2.1 k' a'), S.2.2.2.2.2)
def sV (S : HS) (k a : Nat) (v : Int32) : HS := (S.1, S.2.1, S.2.2.1, S.2.2.2.1, S.2.2.2.2.1, fun k' a' => if k' = k ∧ a' = a then v else S.2.2.2.2.2 k' a')
/-- a new thing at q: label lab, n places, all of them zero -/
def sNew (S : HS) (q lab n : Nat) : HS := (fun a => if a = q then lab else S.1 a, fun k a => if a = q then 0 else S.2.1 k a, fun k a => if a = q then none else S.2.2.1 k a, fun a => if a = q then n else S.2.2.2.1 a, fun k a => if a = q then 0 else S.2.2.2.2.1 k a, fun k a => if a = q then 0 else S.2.2.2.2.2 k a)
theorem hK_sI (S : HS) (k a : Nat) (v : Int32) (b : Nat) : hK (sI S k a v) b = hK S b := rfl
theorem hP_sI (S : HS) (k a : Nat) (v : Int32) (j b : Nat) : hP (sI S k a v) j b = hP S j b := rfl
theorem hN_sI (S : HS) (k a : Nat) (v : Int32) (b : Nat) : hN (sI S k a v) b = hN S b := rfl
theorem hL_sI (S : HS) (k a : Nat) (v : Int32) (j b : Nat) : hL (sI S k a v) j b = hL S j b := rfl
theorem hI_sI (S : HS) (k a : Nat) (v : Int32) (j b : Nat) : hI (sI S k a v) j b = if j = k ∧ b = a then v else hI S j b := rfl
theorem hK_sP (S : HS) (k a : Nat) (v : Option Nat) (b : Nat) : hK (sP S k a v) b = hK S b := rfl
theorem hI_sP (S : HS) (k a : Nat) (v : Option Nat) (j b : Nat) : hI (sP S k a v) j b = hI S j b := rfl
theorem hN_sP (S : HS) (k a : Nat) (v : Option Nat) (b : Nat) : hN (sP S k a v) b = hN S b := rfl
theorem hL_sP (S : HS) (k a : Nat) (v : Option Nat) (j b : Nat) : hL (sP S k a v) j b = hL S j b := rfl
theorem hP_sP (S : HS) (k a : Nat) (v : Option Nat) (j b : Nat) : hP (sP S k a v) j b = if j = k ∧ b = a then v else hP S j b := rfl
theorem hK_sL (S : HS) (k a : Nat) (v : Int64) (b : Nat) : hK (sL S k a v) b = hK S b := rfl
theorem hI_sL (S : HS) (k a : Nat) (v : Int64) (j b : Nat) : hI (sL S k a v) j b = hI S j b := rfl
theorem hP_sL (S : HS) (k a : Nat) (v : Int64) (j b : Nat) : hP (sL S k a v) j b = hP S j b := rfl
theorem hN_sL (S : HS) (k a : Nat) (v : Int64) (b : Nat) : hN (sL S k a v) b = hN S b := rfl
theorem hL_sL (S : HS) (k a : Nat) (v : Int64) (j b : Nat) : hL (sL S k a v) j b = if j = k ∧ b = a then v else hL S j b := rfl
theorem hK_sNew (S : HS) (q lab n b : Nat) : hK (sNew S q lab n) b = if b = q then lab else hK S b := rfl
theorem hI_sNew (S : HS) (q lab n k b : Nat) : hI (sNew S q lab n) k b = if b = q then 0 else hI S k b := rfl
theorem hP_sNew (S : HS) (q lab n k b : Nat) : hP (sNew S q lab n) k b = if b = q then none else hP S k b := rfl
theorem hN_sNew (S : HS) (q lab n b : Nat) : hN (sNew S q lab n) b = if b = q then n else hN S b := rfl
theorem hL_sNew (S : HS) (q lab n k b : Nat) : hL (sNew S q lab n) k b = if b = q then 0 else hL S k b := rfl
theorem hV_sI (S : HS) (k a : Nat) (v : Int32) (j b : Nat) : hV (sI S k a v) j b = hV S j b := rfl
theorem hV_sP (S : HS) (k a : Nat) (v : Option Nat) (j b : Nat) : hV (sP S k a v) j b = hV S j b := rfl
theorem hV_sL (S : HS) (k a : Nat) (v : Int64) (j b : Nat) : hV (sL S k a v) j b = hV S j b := rfl
theorem hK_sV (S : HS) (k a : Nat) (v : Int32) (b : Nat) : hK (sV S k a v) b = hK S b := rfl
theorem hN_sV (S : HS) (k a : Nat) (v : Int32) (b : Nat) : hN (sV S k a v) b = hN S b := rfl
theorem hI_sV (S : HS) (k a : Nat) (v : Int32) (j b : Nat) : hI (sV S k a v) j b = hI S j b := rfl
theorem hP_sV (S : HS) (k a : Nat) (v : Int32) (j b : Nat) : hP (sV S k a v) j b = hP S j b := rfl
theorem hL_sV (S : HS) (k a : Nat) (v : Int32) (j b : Nat) : hL (sV S k a v) j b = hL S j b := rfl
theorem hV_sV (S : HS) (k a : Nat) (v : Int32) (j b : Nat) : hV (sV S k a v) j b = if j = k ∧ b = a then v else hV S j b := rfl
theorem hV_sNew (S : HS) (q lab n k b : Nat) : hV (sNew S q lab n) k b = if b = q then 0 else hV S k b := rfl
theorem hI_same (S : HS) (k a : Nat) (v : Int32) : hI (sI S k a v) k a = v := if_pos ⟨rfl, rfl⟩
theorem hI_na {S : HS} {k a : Nat} {v : Int32} {j b : Nat} (h : b ≠ a) : hI (sI S k a v) j b = hI S j b := if_neg (fun z => h z.2)
theorem hI_nk {S : HS} {k a : Nat} {v : Int32} {j b : Nat} (h : j ≠ k) : hI (sI S k a v) j b = hI S j b := if_neg (fun z => h z.1)
theorem hP_same (S : HS) (k a : Nat) (v : Option Nat) : hP (sP S k a v) k a = v := if_pos ⟨rfl, rfl⟩
theorem hP_na {S : HS} {k a : Nat} {v : Option Nat} {j b : Nat} (h : b ≠ a) : hP (sP S k a v) j b = hP S j b := if_neg (fun z => h z.2)
theorem hP_nk {S : HS} {k a : Nat} {v : Option Nat} {j b : Nat} (h : j ≠ k) : hP (sP S k a v) j b = hP S j b := if_neg (fun z => h z.1)
theorem hL_same (S : HS) (k a : Nat) (v : Int64) : hL (sL S k a v) k a = v := if_pos ⟨rfl, rfl⟩
theorem hL_na {S : HS} {k a : Nat} {v : Int64} {j b : Nat} (h : b ≠ a) : hL (sL S k a v) j b = hL S j b := if_neg (fun z => h z.2)
theorem hL_nk {S : HS} {k a : Nat} {v : Int64} {j b : Nat} (h : j ≠ k) : hL (sL S k a v) j b = hL S j b := if_neg (fun z => h z.1)
theorem hV_same (S : HS) (k a : Nat) (v : Int32) : hV (sV S k a v) k a = v := if_pos ⟨rfl, rfl⟩
theorem hV_na {S : HS} {k a : Nat} {v : Int32} {j b : Nat} (h : b ≠ a) : hV (sV S k a v) j b = hV S j b := if_neg (fun z => h z.2)
theorem hV_nk {S : HS} {k a : Nat} {v : Int32} {j b : Nat} (h : j ≠ k) : hV (sV S k a v) j b = hV S j b := if_neg (fun z => h z.1)
theorem hK_ne {S : HS} {a b n k : Nat} (h1 : hK S a = n) (h2 : hK S b = k) (h : n ≠ k) : a ≠ b := fun e => h (by rw [← h1, ← h2, e])
/-- what the walks share: the classes' numbers, the array classes, where the new cells begin, the empty list's array, the mirror of Object[] -/
abbrev JG : Type := va_G × (Nat → ClassId) × Nat × Nat × Nat × Nat × Nat × (Nat → Int32)
abbrev gD (G : JG) : va_G := G.1
abbrev gC (G : JG) : Nat → ClassId := G.2.1
abbrev gB (G : JG) : Nat := G.2.2.1
abbrev gE (G : JG) : Nat := G.2.2.2.1
abbrev gM (G : JG) : Nat := G.2.2.2.2.1
/-- the script: its cell, its length, its numbers -/
abbrev gScr (G : JG) : Nat := G.2.2.2.2.2.1
abbrev gLen (G : JG) : Nat := G.2.2.2.2.2.2.1
abbrev gInt (G : JG) : Nat → Int32 := G.2.2.2.2.2.2.2
abbrev gA (G : JG) : Nat → Prop := fun q => gB G ≤ q
/-- labels: 1 ArrayList 2 Clouds 3 Outlook 4 Plan 5 Point 6 Target 7 SkyPlan; 8 from 9 to 10 runs 11 a row of the plan; 12 the list's array 13 the plan's rows; 14 the law's long[]; 15, 16 boolean[] of the model; 17 SkyPlanModel; from 18 on int[] of the model -/
def hsh (G : JG) (S : HS) (a : Nat) : Nat → Option va_E
  | 0 => none
  | 1 => some (.inr (0, [.int (hI S 0 a), va_rf (hP S 1 a), .int (hI S 2 a)]))
  | 2 => some (.inr (1, [va_rf (hP S 0 a), va_rf (hP S 1 a), .int (hI S 2 a)]))
  | 3 => some (.inr (2, [va_rf (hP S 0 a), .int (hI S 1 a), .int (hI S 2 a), .int (hI S 3 a), .int (hI S 4 a), .int (hI S 5 a), .int (hI S 6 a), .int (hI S 7 a)]))
  | 4 => some (.inr (3, [va_rf (hP S 0 a), .int (hI S 1 a), .int (hI S 2 a), .int (hI S 3 a), va_rf (hP S 4 a)]))
  | 5 => some (.inr (4, [.int (hI S 0 a), .int (hI S 1 a), .int (hI S 2 a), .int (hI S 3 a)]))
  | 6 => some (.inr (5, [.int (hI S 0 a), va_rf (hP S 1 a), .int (hI S 2 a), .int (hI S 3 a), .int (hI S 4 a), va_rf (hP S 5 a), .int (hI S 6 a), .int (hI S 7 a), .int (hI S 8 a), .int (hI S 9 a), .int (hI S 10 a), .int (hI S 11 a)]))
  | 7 => some (.inr (6, [va_rf (hP S 0 a), va_rf (hP S 1 a), .int (hI S 2 a), .int (hI S 3 a), .int (hI S 4 a), va_rf (hP S 5 a), va_rf (hP S 6 a), va_rf (hP S 7 a)]))
  | 12 => some (.inl (gC G 2, hN S a, .inr (.inr (.inr (.inr (fun i => hP S i a))))))
  | 13 => some (.inl (gC G 3, hN S a, .inr (.inr (.inr (.inr (fun i => hP S i a))))))
  | 14 => some (.inl (gC G 4, hN S a, .inr (.inl (fun i => hL S i a))))
  | 15 => some (.inl (gC G 1, hN S a, .inl (fun i => hV S i a)))
  | 16 => some (.inl (gC G 1, hN S a, .inl (fun i => hV S i a)))
  | 17 => some (.inr (7, [.int (hI S 0 a), .int (hI S 1 a), .int (hI S 2 a), .int (hI S 3 a), .int (hI S 4 a), .int (hI S 5 a), .int (hI S 6 a), .int (hI S 7 a), .int (hI S 8 a), va_rf (hP S 9 a), .int (hI S 10 a), va_rf (hP S 11 a), va_rf (hP S 12 a), va_rf (hP S 13 a), va_rf (hP S 14 a), va_rf (hP S 15 a), va_rf (hP S 16 a), va_rf (hP S 17 a), va_rf (hP S 18 a), va_rf (hP S 19 a), va_rf (hP S 20 a), .int (hI S 21 a), va_rf (hP S 22 a), va_rf (hP S 23 a), .int (hI S 24 a), va_rf (hP S 25 a)]))
  | _ => some (.inl (gC G 0, hN S a, .inl (fun i => hV S i a)))
def hob (G : JG) (S : HS) (a : Nat) : Option va_E := hsh G S a (hK S a)
theorem hob_of {G : JG} {S : HS} {a lab : Nat} (h : hK S a = lab) : hob G S a = hsh G S a lab := by unfold hob; rw [h]
theorem hob_0 {G : JG} {S : HS} {a : Nat} (h : hob G S a = none) : hK S a = 0 := by
  unfold hob at h
  generalize hK S a = n at h ⊢
  unfold hsh at h
  split at h <;> first | rfl | cases h
/-- the heap H holds what S says, at addresses of its own -/
def Rep (G : JG) (S : HS) (H : Heap) : Prop := ∃ ws : va_W, va_P (gD G) vwCl ws H ∧ va_D (gA G) ws ∧ ∀ (a : Nat) (e : va_E), hob G S a = some e → ∃ k : Nat, ws[k]? = some (a, e)
theorem Rep.kept {G : JG} {S : HS} {H H1 : Heap} (h : Rep G S H) (hq : ∀ q : Nat, q < H.size → H1[q]? = H[q]?) : Rep G S H1 := by
  obtain ⟨ws, h1, h2, h3⟩ := h
  exact ⟨ws, h1.kept (fun k q hk => hq _ (h1 k q hk).lt), h2, h3⟩
theorem Rep.one {G : JG} {S : HS} {H : Heap} (h : Rep G S H) {a : Nat} {e : va_E} (he : hob G S a = some e) : va_P (gD G) vwCl [(a, e)] H := by
  obtain ⟨ws, h1, -, h3⟩ := h
  obtain ⟨k, hk⟩ := h3 a e he
  intro j q hj
  match j, hj with
  | 0, hj => cases hj; exact h1 k _ hk
  | j + 1, hj => simp at hj
theorem Rep.base {G : JG} {S : HS} {H : Heap} (h : Rep G S H) {a : Nat} {e : va_E} (he : hob G S a = some e) : gB G ≤ a ∧ a < H.size := by
  obtain ⟨ws, h1, h2, h3⟩ := h
  obtain ⟨k, hk⟩ := h3 a e he
  exact ⟨h2.2 k _ hk, (h1 k _ hk).lt⟩
/-- the world after the cell at the place k became e' -/
theorem Rep.put {G : JG} {S S' : HS} {a k : Nat} {e e' : va_E} {ws : va_W} {H1 : Heap} (h3 : ∀ (a : Nat) (e : va_E), hob G S a = some e → ∃ k : Nat, ws[k]? = some (a, e)) (hD : va_D (gA G) ws) (hk : ws[k]? = some (a, e))
    (hP1 : va_P (gD G) vwCl (ws.set k (a, e')) H1) (hD1 : va_D (gA G) (ws.set k (a, e'))) (he' : hob G S' a = some e') (ho : ∀ b : Nat, b ≠ a → hob G S' b = hob G S b) : Rep G S' H1 := by
  refine ⟨_, hP1, hD1, fun b f hf => ?_⟩
  by_cases hb : b = a
  · subst hb
    rw [he'] at hf
    cases hf
    refine ⟨k, ?_⟩
    rw [List.getElem?_set_self ((List.getElem?_eq_some_iff.mp hk).1)]
  · rw [ho b hb] at hf
    obtain ⟨j, hj⟩ := h3 b f hf
    refine ⟨j, ?_⟩
    have hne : k ≠ j := by
      intro e0
      subst e0
      rw [hk] at hj
      cases hj
      exact hb rfl
    rw [List.getElem?_set_ne hne]
    exact hj
theorem Rep.push {G : JG} {S S' : HS} {a : Nat} {e' : va_E} {ws : va_W} {H1 : Heap} (h3 : ∀ (a : Nat) (e : va_E), hob G S a = some e → ∃ k : Nat, ws[k]? = some (a, e))
    (hP1 : va_P (gD G) vwCl (ws ++ [(a, e')]) H1) (hD1 : va_D (gA G) (ws ++ [(a, e')])) (he' : hob G S' a = some e') (ho : ∀ b : Nat, b ≠ a → hob G S' b = hob G S b) : Rep G S' H1 := by
  refine ⟨_, hP1, hD1, fun b f hf => ?_⟩
  by_cases hb : b = a
  · subst hb
    rw [he'] at hf
    cases hf
    exact ⟨ws.length, by simp⟩
  · rw [ho b hb] at hf
    obtain ⟨j, hj⟩ := h3 b f hf
    refine ⟨j, ?_⟩
    rw [List.getElem?_append_left ((List.getElem?_eq_some_iff.mp hj).1)]
    exact hj
theorem Rep.fresh {G : JG} {S : HS} {a : Nat} {e' : va_E} {ws : va_W} (h3 : ∀ (a : Nat) (e : va_E), hob G S a = some e → ∃ k : Nat, ws[k]? = some (a, e)) (hD1 : va_D (gA G) (ws ++ [(a, e')])) : hK S a = 0 := by
  refine hob_0 (G := G) ?_
  cases h : hob G S a with
  | none => rfl
  | some e =>
    obtain ⟨j, hj⟩ := h3 a e h
    have hlt := (List.getElem?_eq_some_iff.mp hj).1
    have h1 : (ws ++ [(a, e')])[j]? = some (a, e) := by rw [List.getElem?_append_left hlt]; exact hj
    have h2 : (ws ++ [(a, e')])[ws.length]? = some (a, e') := by simp
    have := hD1.1 _ _ _ _ h1 h2 rfl
    omega
/-- what a heap step leaves: only S at a changed -/
theorem hob_congr {G : JG} {S S' : HS} {b : Nat} (h1 : hK S' b = hK S b) (h2 : ∀ k, hI S' k b = hI S k b) (h3 : ∀ k, hP S' k b = hP S k b) (h4 : hN S' b = hN S b) (h5 : ∀ k, hL S' k b = hL S k b) (h6 : ∀ k, hV S' k b = hV S k b) : hob G S' b = hob G S b := by
  unfold hob
  rw [h1]
  generalize hK S b = n
  unfold hsh
  split <;> simp only [h2, h3, h4, h5, h6]
theorem hob_sI {G : JG} {S : HS} {k a : Nat} {v : Int32} {b : Nat} (h : b ≠ a) : hob G (sI S k a v) b = hob G S b :=
  hob_congr rfl (fun j => by rw [hI_sI, if_neg (fun z => h z.2)]) (fun _ => rfl) rfl (fun _ => rfl) (fun _ => rfl)
theorem hob_sP {G : JG} {S : HS} {k a : Nat} {v : Option Nat} {b : Nat} (h : b ≠ a) : hob G (sP S k a v) b = hob G S b :=
  hob_congr rfl (fun _ => rfl) (fun j => by rw [hP_sP, if_neg (fun z => h z.2)]) rfl (fun _ => rfl) (fun _ => rfl)
theorem hob_sL {G : JG} {S : HS} {k a : Nat} {v : Int64} {b : Nat} (h : b ≠ a) : hob G (sL S k a v) b = hob G S b :=
  hob_congr rfl (fun _ => rfl) (fun _ => rfl) rfl (fun j => by rw [hL_sL, if_neg (fun z => h z.2)]) (fun _ => rfl)
theorem hob_sV {G : JG} {S : HS} {k a : Nat} {v : Int32} {b : Nat} (h : b ≠ a) : hob G (sV S k a v) b = hob G S b :=
  hob_congr rfl (fun _ => rfl) (fun _ => rfl) rfl (fun _ => rfl) (fun j => by rw [hV_sV, if_neg (fun z => h z.2)])
theorem hob_sNew {G : JG} {S : HS} {q lab n b : Nat} (h : b ≠ q) : hob G (sNew S q lab n) b = hob G S b :=
  hob_congr (by rw [hK_sNew, if_neg h]) (fun j => by rw [hI_sNew, if_neg h]) (fun j => by rw [hP_sNew, if_neg h]) (by rw [hN_sNew, if_neg h]) (fun j => by rw [hL_sNew, if_neg h]) (fun j => by rw [hV_sNew, if_neg h])
