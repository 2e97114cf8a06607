/-! a window, forward and backward -/
def wP (σ : Sg) (k t : Nat) : Prop := 0 < rnA σ k t
def wQ (σ : Sg) (k t : Nat) : Prop := vt σ k 5 ≤ nI (rnA σ k t)
/-- v names the first in [lo, hi), or -1 -/
def isFst (P : Nat → Prop) (lo hi : Nat) (v : Int32) : Prop := (v = -1 ∧ ∀ t, lo ≤ t → t < hi → ¬ P t) ∨ ∃ t, lo ≤ t ∧ t < hi ∧ v = nI t ∧ P t ∧ ∀ s, lo ≤ s → s < t → ¬ P s
def isLst (P : Nat → Prop) (lo hi : Nat) (v : Int32) : Prop := (v = -1 ∧ ∀ t, lo ≤ t → t < hi → ¬ P t) ∨ ∃ t, lo ≤ t ∧ t < hi ∧ v = nI t ∧ P t ∧ ∀ s, t < s → s < hi → ¬ P s
theorem isFst.uniq {P : Nat → Prop} {lo hi : Nat} {v w : Int32} (h : isFst P lo hi v) (g : isFst P lo hi w) : v = w := by
  rcases h with ⟨h1, h2⟩ | ⟨t, h1, h2, h3, h4, h5⟩
  · rcases g with ⟨g1, -⟩ | ⟨s, g1, g2, -, g4, -⟩
    · rw [h1, g1]
    · exact (h2 s g1 g2 g4).elim
  · rcases g with ⟨-, g2⟩ | ⟨s, g1, g2, g3, g4, g5⟩
    · exact (g2 t h1 h2 h4).elim
    · rcases Nat.lt_trichotomy t s with c | c | c
      · exact (g5 t h1 c h4).elim
      · rw [h3, g3, c]
      · exact (h5 s g1 c g4).elim
theorem isLst.uniq {P : Nat → Prop} {lo hi : Nat} {v w : Int32} (h : isLst P lo hi v) (g : isLst P lo hi w) : v = w := by
  rcases h with ⟨h1, h2⟩ | ⟨t, h1, h2, h3, h4, h5⟩
  · rcases g with ⟨g1, -⟩ | ⟨s, g1, g2, -, g4, -⟩
    · rw [h1, g1]
    · exact (h2 s g1 g2 g4).elim
  · rcases g with ⟨-, g2⟩ | ⟨s, g1, g2, g3, g4, g5⟩
    · exact (g2 t h1 h2 h4).elim
    · rcases Nat.lt_trichotomy t s with c | c | c
      · exact (h5 s c g2 g4).elim
      · rw [h3, g3, c]
      · exact (g5 t c h2 h4).elim
/-- v is the earliest of the highest in [lo, hi) -/
def isHi (h : Nat → Int32) (lo hi : Nat) (v : Int32) : Prop := ∃ t, lo ≤ t ∧ t < hi ∧ v = nI t ∧ (∀ s, lo ≤ s → s < hi → h s ≤ h t) ∧ ∀ s, lo ≤ s → s < t → h s < h t
theorem isHi.uniq {h : Nat → Int32} {lo hi : Nat} {v w : Int32} (a : isHi h lo hi v) (b : isHi h lo hi w) : v = w := by
  obtain ⟨t, a1, a2, a3, a4, a5⟩ := a
  obtain ⟨s, b1, b2, b3, b4, b5⟩ := b
  rcases Nat.lt_trichotomy t s with c | c | c
  · exact absurd (a4 s b1 b2) (Int32.not_le.mpr (b5 t a1 c))
  · rw [a3, b3, c]
  · exact absurd (b4 t a1 a2) (Int32.not_le.mpr (a5 s b1 c))
/-- how many of the first t -/
def cnF (σ : Sg) (k : Nat) : Nat → Nat
  | 0 => 0
  | t + 1 => cnF σ k t + if 0 < rnA σ k t then 1 else 0
theorem cnF_le (σ : Sg) (k : Nat) : ∀ t, cnF σ k t ≤ t
  | 0 => Nat.le_refl 0
  | t + 1 => by have := cnF_le σ k t; unfold cnF; split <;> omega
theorem rnA_D {σ : Sg} {k d : Nat} (h : d < lnV σ) : rnA σ k (lnV σ - (d + 1)) = rnD σ k (lnV σ) (d + 1) := by
  unfold rnA
  rw [if_pos (by omega), show lnV σ - (lnV σ - (d + 1)) = d + 1 by omega]
theorem nI_neg {v : Nat} (h : v < 2147483648) : ¬ nI v < 0 := nI_pos h
/-- the class's notes are these -/
theorem oF_spec {σ : Sg} (hr : Rng σ) {k : Nat} (hk : k < vn σ) : ∀ d, d ≤ lnV σ →
    isFst (wP σ k) (lnV σ - d) (lnV σ) (oF σ k (lnV σ) d 2) ∧ isLst (wP σ k) (lnV σ - d) (lnV σ) (oF σ k (lnV σ) d 3) ∧ (oF σ k (lnV σ) d 4 + nI (cnF σ k (lnV σ - d)) = nI (cnF σ k (lnV σ))) ∧
    ((d = 0 ∧ oF σ k (lnV σ) d 5 = -1) ∨ (isHi (fun t => thV σ k (nI t)) (lnV σ - d) (lnV σ) (oF σ k (lnV σ) d 5) ∧ ∀ t, t < lnV σ → oF σ k (lnV σ) d 5 = nI t → oF σ k (lnV σ) d 6 = thV σ k (nI t))) ∧ isFst (wQ σ k) (lnV σ - d) (lnV σ) (oF σ k (lnV σ) d 7)
  | 0, _ => by
    refine ⟨Or.inl ⟨rfl, fun t h1 h2 => by omega⟩, Or.inl ⟨rfl, fun t h1 h2 => by omega⟩, ?_, Or.inl ⟨rfl, rfl⟩, Or.inl ⟨rfl, fun t h1 h2 => by omega⟩⟩
    show (0 : Int32) + _ = _
    rw [Int32.zero_add]; rfl
  | d + 1, h => by
    have hln := hr.ln
    obtain ⟨i1, i2, i3, i4, i5⟩ := oF_spec hr hk d (by omega)
    obtain ⟨t, ht⟩ : ∃ t, t = lnV σ - (d + 1) := ⟨_, rfl⟩
    have e1 : lnV σ - d = t + 1 := by omega
    have htl : t < lnV σ := by omega
    have er : rnA σ k t = rnD σ k (lnV σ) (d + 1) := by rw [ht]; exact rnA_D (by omega)
    rw [e1] at i1 i2 i3 i4 i5
    rw [← ht]
    have c0 : cnF σ k (t + 1) = cnF σ k t + if 0 < rnA σ k t then 1 else 0 := rfl
    have v2 : oF σ k (lnV σ) (d + 1) 2 = if 0 < rnA σ k t then nI t else oF σ k (lnV σ) d 2 := by rw [oF, er, ht]; simp
    have v3 : oF σ k (lnV σ) (d + 1) 3 = if 0 < rnA σ k t then (if oF σ k (lnV σ) d 3 < 0 then nI t else oF σ k (lnV σ) d 3) else oF σ k (lnV σ) d 3 := by rw [oF, er, ht]; simp
    have v4 : oF σ k (lnV σ) (d + 1) 4 = if 0 < rnA σ k t then oF σ k (lnV σ) d 4 + 1 else oF σ k (lnV σ) d 4 := by rw [oF, er]; simp
    have v5 : oF σ k (lnV σ) (d + 1) 5 = if oF σ k (lnV σ) d 5 < 0 ∨ oF σ k (lnV σ) d 6 ≤ thV σ k (nI t) then nI t else oF σ k (lnV σ) d 5 := by rw [oF, ht]; simp
    have v6 : oF σ k (lnV σ) (d + 1) 6 = if oF σ k (lnV σ) d 5 < 0 ∨ oF σ k (lnV σ) d 6 ≤ thV σ k (nI t) then thV σ k (nI t) else oF σ k (lnV σ) d 6 := by rw [oF, ht]; simp
    have v7 : oF σ k (lnV σ) (d + 1) 7 = if 0 < rnA σ k t then (if vt σ k 5 ≤ nI (rnA σ k t) then nI t else oF σ k (lnV σ) d 7) else oF σ k (lnV σ) d 7 := by rw [oF, er, ht]; simp
    have h5 := (hr.2.2.2.2.2.2.2.2 k hk).2.2.2.2.1.1
    have ext : ∀ {P : Nat → Prop} {v : Int32}, isFst P (t + 1) (lnV σ) v → ¬ P t → isFst P t (lnV σ) v := fun {P v} hv hn => by
      rcases hv with ⟨q1, q2⟩ | ⟨s, q1, q2, q3, q4, q5⟩
      · exact Or.inl ⟨q1, fun s a b => by by_cases c : s = t; rw [c]; exact hn; exact q2 s (by omega) b⟩
      · exact Or.inr ⟨s, by omega, q2, q3, q4, fun u a b => by by_cases c : u = t; rw [c]; exact hn; exact q5 u (by omega) b⟩
    refine ⟨?_, ?_, ?_, Or.inr ?_, ?_⟩
    · rw [v2]
      by_cases c : 0 < rnA σ k t
      · rw [if_pos c]
        exact Or.inr ⟨t, Nat.le_refl _, htl, rfl, c, fun s a b => by omega⟩
      · rw [if_neg c]
        exact ext i1 c
    · rw [v3]
      by_cases c : 0 < rnA σ k t
      · rw [if_pos c]
        rcases i2 with ⟨q1, q2⟩ | ⟨s, q1, q2, q3, q4, q5⟩
        · rw [q1, if_pos (by decide)]
          exact Or.inr ⟨t, Nat.le_refl _, htl, rfl, c, fun s a b => q2 s (by omega) b⟩
        · rw [q3, if_neg (nI_neg (by omega))]
          exact Or.inr ⟨s, by omega, q2, rfl, q4, q5⟩
      · rw [if_neg c]
        rcases i2 with ⟨q1, q2⟩ | ⟨s, q1, q2, q3, q4, q5⟩
        · exact Or.inl ⟨q1, fun s a b => by by_cases c' : s = t; rw [c']; exact c; exact q2 s (by omega) b⟩
        · exact Or.inr ⟨s, by omega, q2, q3, q4, q5⟩
    · rw [v4, ← i3, c0]
      by_cases c : 0 < rnA σ k t
      · rw [if_pos c, if_pos c, ← nI_add, show nI 1 = 1 from rfl, Int32.add_assoc, Int32.add_comm 1]
      · rw [if_neg c, if_neg c, Nat.add_zero]
    · rw [v5, v6]
      rcases i4 with ⟨q1, q2⟩ | ⟨⟨s, q1, q2, q3, q4, q5⟩, q6⟩
      · rw [q2, if_pos (Or.inl (by decide)), if_pos (Or.inl (by decide))]
        refine ⟨⟨t, Nat.le_refl _, htl, rfl, fun s a b => ?_, fun s a b => by omega⟩, fun s a b => ?_⟩
        · rw [show s = t by omega]; exact Int32.le_refl _
        · rw [b]
      · have e6 := q6 s q2 q3
        by_cases c : oF σ k (lnV σ) d 6 ≤ thV σ k (nI t)
        · rw [if_pos (Or.inr c), if_pos (Or.inr c)]
          refine ⟨⟨t, Nat.le_refl _, htl, rfl, fun u a b => ?_, fun u a b => by omega⟩, fun u a b => by rw [b]⟩
          by_cases c' : u = t
          · rw [c']; exact Int32.le_refl _
          · have := q4 u (by omega) b
            rw [e6] at c
            exact Int32.le_trans this c
        · have hn : ¬ (oF σ k (lnV σ) d 5 < 0 ∨ oF σ k (lnV σ) d 6 ≤ thV σ k (nI t)) := by
            rintro (z | z)
            · rw [q3] at z; exact nI_neg (by omega) z
            · exact c z
          rw [if_neg hn, if_neg hn]
          refine ⟨⟨s, by omega, q2, q3, fun u a b => ?_, fun u a b => ?_⟩, q6⟩
          · by_cases c' : u = t
            · rw [c']
              rw [e6] at c
              exact Int32.le_of_lt (Int32.not_le.mp c)
            · exact q4 u (by omega) b
          · by_cases c' : u = t
            · rw [c']
              rw [e6] at c
              exact Int32.not_le.mp c
            · exact q5 u (by omega) b
    · rw [v7]
      by_cases c : 0 < rnA σ k t
      · rw [if_pos c]
        by_cases c2 : vt σ k 5 ≤ nI (rnA σ k t)
        · rw [if_pos c2]
          exact Or.inr ⟨t, Nat.le_refl _, htl, rfl, c2, fun s a b => by omega⟩
        · rw [if_neg c2]
          exact ext i5 c2
      · rw [if_neg c]
        refine ext i5 (fun z => ?_)
        have z' : vt σ k 5 ≤ nI (rnA σ k t) := z
        rw [show rnA σ k t = 0 by omega] at z'
        exact absurd (Int32.le_trans h5 z') (by decide)
/-- the model's loop -/
def wI (σ : Sg) (k t : Nat) (v4 v5 v6 v7 v8 : Int32) : Prop := isFst (wP σ k) 0 t v4 ∧ isLst (wP σ k) 0 t v5 ∧ v6 = nI (cnF σ k t) ∧ ((t = 0 ∧ v7 = 0) ∨ isHi (fun t => thV σ k (nI t)) 0 t v7) ∧ isFst (wQ σ k) 0 t v8
theorem wI_0 (σ : Sg) (k : Nat) : wI σ k 0 (-1) (-1) 0 0 (-1) := ⟨Or.inl ⟨rfl, fun t _ h => by omega⟩, Or.inl ⟨rfl, fun t _ h => by omega⟩, rfl, Or.inl ⟨rfl, rfl⟩, Or.inl ⟨rfl, fun t _ h => by omega⟩⟩
/-- where the highest so far stands -/
theorem wI_h {σ : Sg} {k t : Nat} {v4 v5 v6 v7 v8 : Int32} (h : wI σ k t v4 v5 v6 v7 v8) (ht : t < 900) : ∃ s, (s < t ∨ s = 0) ∧ v7 = nI s := by
  rcases h.2.2.2.1 with ⟨-, h2⟩ | ⟨s, -, h2, h3, -⟩
  · exact ⟨0, Or.inr rfl, h2⟩
  · exact ⟨s, Or.inl h2, h3⟩
theorem isFst_ext {P : Nat → Prop} {t : Nat} {v : Int32} (h : isFst P 0 t v) (hn : ¬ P t ∨ ¬ v = -1) : isFst P 0 (t + 1) v := by
  rcases h with ⟨q1, q2⟩ | ⟨s, q1, q2, q3, q4, q5⟩
  · rcases hn with hn | hn
    · exact Or.inl ⟨q1, fun s a b => by by_cases c : s = t; rw [c]; exact hn; exact q2 s a (by omega)⟩
    · exact (hn q1).elim
  · exact Or.inr ⟨s, q1, by omega, q3, q4, q5⟩
theorem isFst_new {P : Nat → Prop} {t : Nat} {v : Int32} (ht : t < 900) (h : isFst P 0 t v) (hn : P t) (hv : v = -1) : isFst P 0 (t + 1) (nI t) := by
  rcases h with ⟨q1, q2⟩ | ⟨s, q1, q2, q3, q4, q5⟩
  · exact Or.inr ⟨t, Nat.zero_le _, by omega, rfl, hn, fun s a b => q2 s a b⟩
  · rw [q3] at hv
    exact (nI_ne1 (by omega) hv).elim
theorem isLst_ext {P : Nat → Prop} {t : Nat} {v : Int32} (h : isLst P 0 t v) (hn : ¬ P t) : isLst P 0 (t + 1) v := by
  rcases h with ⟨q1, q2⟩ | ⟨s, q1, q2, q3, q4, q5⟩
  · exact Or.inl ⟨q1, fun s a b => by by_cases c : s = t; rw [c]; exact hn; exact q2 s a (by omega)⟩
  · exact Or.inr ⟨s, q1, by omega, q3, q4, fun u a b => by by_cases c : u = t; rw [c]; exact hn; exact q5 u a (by omega)⟩
theorem isLst_new {P : Nat → Prop} {t : Nat} (hn : P t) : isLst P 0 (t + 1) (nI t) := Or.inr ⟨t, Nat.zero_le _, by omega, rfl, hn, fun s a b => by omega⟩
theorem isHi_keep {h : Nat → Int32} {t s : Nat} {v : Int32} (hv : (t = 0 ∧ v = 0) ∨ isHi h 0 t v) (e : v = nI s) (hs : s < 900) (ht : t < 900) (hn : ¬ h s < h t) : isHi h 0 (t + 1) v := by
  rcases hv with ⟨q1, q2⟩ | ⟨u, q1, q2, q3, q4, q5⟩
  · subst q1
    exact ⟨0, Nat.le_refl _, by omega, q2, fun a _ b => by rw [show a = 0 by omega]; exact Int32.le_refl _, fun a _ b => by omega⟩
  · have : u = s := nI_inj (by omega) (by omega) (q3.symm.trans e)
    subst this
    exact ⟨u, q1, by omega, q3, fun a b c => by by_cases c' : a = t; rw [c']; exact Int32.not_lt.mp hn; exact q4 a b (by omega), q5⟩
theorem isHi_new {h : Nat → Int32} {t s : Nat} {v : Int32} (hv : (t = 0 ∧ v = 0) ∨ isHi h 0 t v) (e : v = nI s) (hs : s < 900) (ht : t < 900) (hn : h s < h t) : isHi h 0 (t + 1) (nI t) := by
  rcases hv with ⟨q1, q2⟩ | ⟨u, q1, q2, q3, q4, q5⟩
  · subst q1
    have : s = 0 := nI_inj (by omega) (by omega) (e.symm.trans q2)
    subst this
    exact absurd hn (by rw [Int32.not_lt]; exact Int32.le_refl _)
  · have : u = s := nI_inj (by omega) (by omega) (q3.symm.trans e)
    subst this
    refine ⟨t, Nat.zero_le _, by omega, rfl, fun a b c => ?_, fun a b c => Int32.lt_of_le_of_lt (q4 a b c) hn⟩
    by_cases c' : a = t
    · rw [c']; exact Int32.le_refl _
    · exact Int32.le_trans (q4 a b (by omega)) (Int32.le_of_lt hn)
/-- at its end both say the same -/
theorem wI_end {σ : Sg} (hr : Rng σ) {k : Nat} (hk : k < vn σ) {v4 v5 v6 v7 v8 : Int32} (h : wI σ k (lnV σ) v4 v5 v6 v7 v8) : v4 = wnV σ k 0 ∧ v5 = wnV σ k 1 ∧ v6 = wnV σ k 2 ∧ v7 = wnV σ k 3 ∧ v8 = wnV σ k 4 := by
  obtain ⟨i1, i2, i3, i4, i5⟩ := oF_spec hr hk (lnV σ) (Nat.le_refl _)
  rw [Nat.sub_self] at i1 i2 i3 i4 i5
  have hln := hr.ln
  obtain ⟨h1, h2, h3, h4, h5⟩ := h
  refine ⟨h1.uniq i1, h2.uniq i2, ?_, ?_, h5.uniq i5⟩
  · rw [h3, ← i3]
    show oF σ k (lnV σ) (lnV σ) 4 + nI 0 = oF σ k (lnV σ) (lnV σ) 4
    exact Int32.add_zero _
  · rcases h4 with ⟨q, -⟩ | q
    · omega
    · rcases i4 with ⟨z, -⟩ | ⟨z, -⟩
      · omega
      · exact q.uniq z
