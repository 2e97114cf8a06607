/-! the plan's own properties: by induction over the steps that make it -/
theorem rnD_all {σ : Sg} {k L : Nat} : ∀ (d r : Nat), d ≤ L → r ≤ rnD σ k L d → ∀ i, i < r → rsnV σ k (nI (L - d + i)) = 0
  | 0, r, _, h, i, hi => by
    have h0 : rnD σ k L 0 = 0 := rfl
    omega
  | d + 1, r, hd, h, i, hi => by
    rw [rnD] at h
    by_cases c : rsnV σ k (nI (L - (d + 1))) = 0
    · rw [if_pos c] at h
      by_cases e : i = 0
      · subst e; exact c
      · have q := rnD_all (σ := σ) (k := k) (L := L) d (r - 1) (by omega) (by omega) (i - 1) (by omega)
        rw [show L - d + (i - 1) = L - (d + 1) + i by omega] at q
        exact q
    · rw [if_neg c] at h; omega
theorem oF7_s (σ : Sg) (k L d : Nat) : oF σ k L (d + 1) 7 = if 0 < rnD σ k L (d + 1) then (if vt σ k 5 ≤ nI (rnD σ k L (d + 1)) then nI (L - (d + 1)) else oF σ k L d 7) else oF σ k L d 7 := rfl
/-- where a visit can begin, the window says so -/
theorem oF_7 {σ : Sg} {k L mn : Nat} (hm : vt σ k 5 = nI mn) (h0 : 0 < mn) (hL : L < 1000) (b : Nat) (hb : b < L) (hr : mn ≤ rnD σ k L (L - b)) : ∀ d, d ≤ L → L - d ≤ b → ∃ m, m ≤ b ∧ oF σ k L d 7 = nI m
  | 0, _, h => by omega
  | d + 1, hd, h => by
    rw [oF7_s]
    have hl := rnD_le σ k L (d + 1)
    by_cases e : b = L - (d + 1)
    · have ed : d + 1 = L - b := by omega
      have hr' : mn ≤ rnD σ k L (d + 1) := by rw [ed]; exact hr
      rw [if_pos (show 0 < rnD σ k L (d + 1) by omega), if_pos (by rw [hm]; exact (nI_leI (by omega) (by omega)).mpr hr')]
      exact ⟨L - (d + 1), by omega, rfl⟩
    · obtain ⟨m, m1, m2⟩ := oF_7 hm h0 hL b hb hr d (by omega) (by omega)
      split
      · split
        · exact ⟨L - (d + 1), by omega, rfl⟩
        · exact ⟨m, m1, m2⟩
      · exact ⟨m, m1, m2⟩
/-! the rows by number: target, begin, wait; the end of the row before; who is in the first rows; their minutes together -/
def gR (R : Nat → Nat → Int32) (i : Nat) : Nat := (R i 0).toNatClampNeg
def bR (R : Nat → Nat → Int32) (i : Nat) : Nat := (R i 1).toNatClampNeg
def wR (R : Nat → Nat → Int32) (i : Nat) : Nat := (R i 2).toNatClampNeg
def mnN (σ : Sg) (k : Nat) : Nat := (vt σ k 5).toNatClampNeg
def eR (σ : Sg) (R : Nat → Nat → Int32) : Nat → Nat
  | 0 => 0
  | i + 1 => bR R i + mnN σ (gR R i)
def mR (R : Nat → Nat → Int32) : Nat → Nat → Bool
  | 0 => fun _ => false
  | i + 1 => mkU (mR R i) (gR R i)
def sR (σ : Sg) (R : Nat → Nat → Int32) : Nat → Int32
  | 0 => 0
  | i + 1 => sR σ R i + vt σ (gR R i) 5
theorem mnN_in {σ : Sg} (hr : Rng σ) {k : Nat} (hk : k < vn σ) : vt σ k 5 = nI (mnN σ k) ∧ 5 ≤ mnN σ k ∧ mnN σ k ≤ 120 := by
  obtain ⟨-, -, -, -, -, -, -, -, ht⟩ := hr
  obtain ⟨-, -, -, -, ⟨m1, m2⟩, -⟩ := ht k hk
  obtain ⟨q, hq, qe⟩ := nI_of (x := vt σ k 5) (fun z => absurd (Int32.le_trans m1 (Int32.le_of_lt z)) (by decide))
  have e : mnN σ k = q := by unfold mnN; rw [qe, nI_clamp (by omega)]
  rw [qe] at m1 m2
  rw [e]
  exact ⟨qe, (nI_leI (a := 5) (by decide) hq).mp m1, (nI_leI (b := 120) hq (by decide)).mp m2⟩
theorem eR_congr {σ : Sg} {R R' : Nat → Nat → Int32} {n : Nat} (h : ∀ i, i < n → R' i = R i) : eR σ R' n = eR σ R n := by
  cases n with
  | zero => rfl
  | succ n =>
    show bR R' n + mnN σ (gR R' n) = bR R n + mnN σ (gR R n)
    unfold bR gR
    rw [h n (by omega)]
theorem mR_congr {R R' : Nat → Nat → Int32} : ∀ {n : Nat}, (∀ i, i < n → R' i = R i) → mR R' n = mR R n
  | 0, _ => rfl
  | n + 1, h => by rw [mR, mR, mR_congr (fun i hi => h i (by omega)), show gR R' n = gR R n by unfold gR; rw [h n (by omega)]]
theorem sR_congr {σ : Sg} {R R' : Nat → Nat → Int32} : ∀ {n : Nat}, (∀ i, i < n → R' i = R i) → sR σ R' n = sR σ R n
  | 0, _ => rfl
  | n + 1, h => by rw [sR, sR, sR_congr (fun i hi => h i (by omega)), show gR R' n = gR R n by unfold gR; rw [h n (by omega)]]
/-- what the row i keeps -/
def rowOK (σ : Sg) (R : Nat → Nat → Int32) (i : Nat) : Prop :=
  gR R i < vn σ ∧ R i 0 = nI (gR R i) ∧ R i 1 = nI (bR R i) ∧ R i 2 = nI (wR R i) ∧ 1 ≤ wR R i ∧ wR R i ≤ 12 ∧ eR σ R i + wR R i ≤ bR R i ∧ bR R i + mnN σ (gR R i) ≤ lnV σ ∧ mR R i (gR R i) = false ∧ ¬ opI σ (gR R i) = 0 ∧ mnN σ (gR R i) ≤ rnD σ (gR R i) (lnV σ) (lnV σ - bR R i)
theorem rowOK_congr {σ : Sg} {R R' : Nat → Nat → Int32} {i : Nat} (h : ∀ k, k ≤ i → R' k = R k) (q : rowOK σ R i) : rowOK σ R' i := by
  have e := h i (Nat.le_refl i)
  have e1 : gR R' i = gR R i := by unfold gR; rw [e]
  have e2 : bR R' i = bR R i := by unfold bR; rw [e]
  have e3 : wR R' i = wR R i := by unfold wR; rw [e]
  unfold rowOK
  rw [e1, e2, e3, e, eR_congr (σ := σ) (fun k hk => h k (by omega)), mR_congr (fun k hk => h k (by omega))]
  exact q
def planOK (σ : Sg) (π : Pl) : Prop :=
  (∀ i, i < pS σ π → rowOK σ (pR π) i) ∧ pU π = mR (pR π) (pS σ π) ∧ pM π = sR σ (pR π) (pS σ π) ∧ eR σ (pR π) (pS σ π) ≤ pT π ∧ (∀ g, pF π = some g → g < vn σ) ∧ pT π ≤ 1100
theorem planOK_tk {σ : Sg} (hr : Rng σ) {π : Pl} (h : planOK σ π) (ht : pT π < lnV σ) {g : Nat} {m : Int32} (hb : bsV σ (nI (pT π)) (pF π) (pU π) (vn σ) = (some g, m)) : planOK σ (tkV σ π g m) := by
  obtain ⟨h1, h2, h3, h4, h5, h6⟩ := h
  obtain ⟨hg, -, -⟩ := bs_lt hb
  obtain ⟨hu, hop, hla⟩ := bs_open hb
  have hln := hr.ln
  obtain ⟨w, w1, w2, we⟩ := wt_in hr hg h5
  obtain ⟨me, m1, m2⟩ := mnN_in hr hg
  obtain ⟨t1, t2, t3⟩ := tk_t (m := m) hr hg h5 (show pT π ≤ 900 by omega)
  have hS : pS σ (tkV σ π g m) = pS σ π + 1 := ctU_mk hg hu
  have hT : pT (tkV σ π g m) = pT π + w + mnN σ g := by
    rw [we, me, nI_add, nI_add] at t3
    exact (nI_inj (by omega) (by omega) t3).symm
  have rold : ∀ i, i < pS σ π → pR (tkV σ π g m) i = pR π i := fun i hi => by
    show (fun j => if i = pS σ π then rowV σ (nI (pT π)) (pF π) g m j else pR π i j) = _
    funext j
    exact if_neg (by omega)
  have rnew : ∀ j, pR (tkV σ π g m) (pS σ π) j = rowV σ (nI (pT π)) (pF π) g m j := fun j => if_pos rfl
  have r0 : pR (tkV σ π g m) (pS σ π) 0 = nI g := rnew 0
  have r1 : pR (tkV σ π g m) (pS σ π) 1 = nI (pT π + w) := by rw [rnew 1, ← nI_add, ← we]; rfl
  have r2 : pR (tkV σ π g m) (pS σ π) 2 = nI w := by rw [rnew 2, ← we]; rfl
  have g0 : gR (pR (tkV σ π g m)) (pS σ π) = g := by
    unfold gR
    have n20 := hr.2.2.2.2.2.2.2.1
    rw [r0, nI_clamp (by omega)]
  have g1 : bR (pR (tkV σ π g m)) (pS σ π) = pT π + w := by unfold bR; rw [r1, nI_clamp (by omega)]
  have g2 : wR (pR (tkV σ π g m)) (pS σ π) = w := by unfold wR; rw [r2, nI_clamp (by omega)]
  have hrun : pT π + w < lnV σ ∧ mnN σ g ≤ rnD σ g (lnV σ) (lnV σ - (pT π + w)) := by
    obtain ⟨-, -, q⟩ := bI_ne hla
    rw [we, nI_add, nI_clamp (by omega), me] at q
    unfold rnA at q
    by_cases c : pT π + w < lnV σ
    · rw [if_pos c] at q
      have := rnD_le σ g (lnV σ) (lnV σ - (pT π + w))
      exact ⟨c, (nI_leI (by omega) (by omega)).mp q⟩
    · rw [if_neg c] at q
      have := (nI_leI (by omega) (by omega)).mp q
      omega
  obtain ⟨hb1, hb2⟩ := hrun
  have hle := rnD_le σ g (lnV σ) (lnV σ - (pT π + w))
  refine ⟨fun i hi => ?_, ?_, ?_, ?_, fun g' e => ?_, by omega⟩
  · rw [hS] at hi
    by_cases e : i = pS σ π
    · subst e
      unfold rowOK
      rw [g0, g1, g2, eR_congr (σ := σ) rold, mR_congr rold, ← h2]
      exact ⟨hg, r0, r1, r2, w1, w2, by omega, by omega, hu, hop, hb2⟩
    · exact rowOK_congr (fun k hk => rold k (by omega)) (h1 i (by omega))
  · rw [hS, mR, g0, mR_congr rold, ← h2]; rfl
  · rw [hS, sR, g0, sR_congr rold, ← h3]; rfl
  · rw [hS, hT]
    show bR (pR (tkV σ π g m)) (pS σ π) + mnN σ (gR (pR (tkV σ π g m)) (pS σ π)) ≤ _
    rw [g0, g1]
    exact Nat.le_refl _
  · cases e
    exact hg
theorem planOK_st {σ : Sg} (hr : Rng σ) {π : Pl} (h : planOK σ π) (ht : pT π < lnV σ) : planOK σ (stV σ π) := by
  unfold stV
  rcases hb : bsV σ (nI (pT π)) (pF π) (pU π) (vn σ) with ⟨b, m⟩
  have hln := hr.ln
  cases b with
  | none =>
    obtain ⟨h1, h2, h3, h4, h5, h6⟩ := h
    exact ⟨h1, h2, h3, Nat.le_succ_of_le h4, h5, show pT π + 1 ≤ 1100 by omega⟩
  | some g => exact planOK_tk hr h ht hb
theorem planOK_F {σ : Sg} (hr : Rng σ) : ∀ (n : Nat) {π : Pl}, planOK σ π → planOK σ (plF σ n π)
  | 0, _, h => h
  | n + 1, π, h => by
    rw [plF]
    by_cases c : pT π < lnV σ
    · rw [if_pos c]; exact planOK_F hr n (planOK_st hr h c)
    · rw [if_neg c]; exact h
theorem ctU_0 {u : Nat → Bool} (h : ∀ k, u k = false) : ∀ n, ctU u n = 0
  | 0 => rfl
  | n + 1 => by unfold ctU; rw [ctU_0 h n, if_neg (by rw [h]; decide)]
theorem planOK_V {σ : Sg} (hr : Rng σ) : planOK σ (plV σ) := by
  have h0 : pS σ π0 = 0 := ctU_0 (fun _ => rfl) _
  refine planOK_F hr _ ⟨fun i hi => by omega, by rw [h0]; rfl, by rw [h0]; rfl, by rw [h0]; exact Nat.le_refl 0, fun g e => (by cases e), show 0 ≤ 1100 by omega⟩
/-! the plan as the law asks for it -/
abbrev pV (σ : Sg) : Nat → Nat → Int32 := pR (plV σ)
abbrev nV (σ : Sg) : Nat := pS σ (plV σ)
theorem nV_le (σ : Sg) : nV σ ≤ vn σ := ctU_le _ _
theorem row_of {σ : Sg} (hr : Rng σ) {i : Nat} (hi : i < nV σ) : rowOK σ (pV σ) i := (planOK_V hr).1 i hi
theorem mR_all {σ : Sg} (hr : Rng σ) : pU (plV σ) = mR (pV σ) (nV σ) := (planOK_V hr).2.1
theorem sR_all {σ : Sg} (hr : Rng σ) : pM (plV σ) = sR σ (pV σ) (nV σ) := (planOK_V hr).2.2.1
/-- a row's target can be seen at each of its minutes -/
theorem row_seen {σ : Sg} {R : Nat → Nat → Int32} {i : Nat} (h : rowOK σ R i) {t : Nat} (h1 : bR R i ≤ t) (h2 : t < bR R i + mnN σ (gR R i)) : rsnV σ (gR R i) (nI t) = 0 := by
  obtain ⟨-, -, -, -, -, -, -, h8, -, -, h11⟩ := h
  have q := rnD_all (σ := σ) (k := gR R i) (L := lnV σ) (lnV σ - bR R i) _ (by omega) h11 (t - bR R i) (by omega)
  rw [show lnV σ - (lnV σ - bR R i) + (t - bR R i) = t by omega] at q
  exact q
/-- .. and a visit can begin there, or before -/
theorem row_win {σ : Sg} (hr : Rng σ) {R : Nat → Nat → Int32} {i : Nat} (h : rowOK σ R i) : ∃ m, m ≤ bR R i ∧ wnV σ (gR R i) 4 = nI m := by
  obtain ⟨h1, -, -, -, -, -, -, h8, -, -, h11⟩ := h
  obtain ⟨me, m1, m2⟩ := mnN_in hr h1
  have hln := hr.ln
  exact oF_7 me (by omega) (by omega) (bR R i) (by omega) h11 (lnV σ) (Nat.le_refl _) (by omega)
theorem mR_true {R : Nat → Nat → Int32} {g : Nat} : ∀ {n : Nat}, mR R n g = true → ∃ i, i < n ∧ gR R i = g
  | 0, h => by cases h
  | n + 1, h => by
    by_cases e : g = gR R n
    · exact ⟨n, by omega, e.symm⟩
    · obtain ⟨i, h1, h2⟩ := mR_true (n := n) (g := g) (by
        have q : mR R (n + 1) g = mR R n g := if_neg e
        rw [← q]; exact h)
      exact ⟨i, by omega, h2⟩
theorem plan_open {σ : Sg} (hr : Rng σ) {g : Nat} (h : pU (plV σ) g = true) : ¬ opI σ g = 0 := by
  rw [mR_all hr] at h
  obtain ⟨i, h1, rfl⟩ := mR_true h
  exact (row_of hr h1).2.2.2.2.2.2.2.2.2.1
/-- how many of the first n targets are open -/
def opN (σ : Sg) : Nat → Nat
  | 0 => 0
  | n + 1 => opN σ n + if opI σ n = 0 then 0 else 1
theorem opN_le (σ : Sg) : ∀ n, opN σ n ≤ n
  | 0 => Nat.le_refl 0
  | n + 1 => by have := opN_le σ n; unfold opN; split <;> omega
theorem cnV_1 (σ : Sg) : ∀ n, cnV σ 1 n = nI (opN σ n)
  | 0 => rfl
  | n + 1 => by
    rw [cnV, cnV_1 σ n, opN]
    have e : shV σ n 1 = opI σ n := rfl
    rw [e]
    by_cases c : opI σ n = 0
    · rw [if_pos c, c]; exact Int32.add_zero _
    · rw [if_neg c, ← nI_1]
      have : opI σ n = 1 := by
        unfold opI bI at c ⊢
        split
        · rfl
        · next q => rw [if_neg q] at c; exact (c rfl).elim
      rw [this]
theorem ctU_op {σ : Sg} {u : Nat → Bool} (h : ∀ g, u g = true → ¬ opI σ g = 0) : ∀ n, ctU u n ≤ opN σ n
  | 0 => Nat.le_refl 0
  | n + 1 => by
    have := ctU_op h n
    unfold ctU opN
    by_cases c : u n = true
    · rw [if_pos c, if_neg (h n c)]; omega
    · rw [if_neg c]; omega
theorem nV_op {σ : Sg} (hr : Rng σ) : nV σ ≤ opN σ (vn σ) := ctU_op (fun _ h => plan_open hr h) _
/-! what observe leaves -/
theorem obN_in {σ : Sg} {k : Nat} (hk : k < vn σ) (c : pU (plV σ) k = true) (j : Nat) : vt (obN σ) k j = if j = 8 then vt σ k 8 + 1 else if j = 9 then vg σ 3 else vt σ k j := if_pos ⟨hk, c⟩
theorem obN_out {σ : Sg} {k : Nat} (c : pU (plV σ) k = false) (j : Nat) : vt (obN σ) k j = vt σ k j := if_neg (fun z => by rw [c] at z; exact absurd z.2 (by decide))
theorem obN_5 (σ : Sg) (k : Nat) : vt (obN σ) k 5 = vt σ k 5 := by
  show (if k < vn σ ∧ pU (plV σ) k = true then (if (5 : Nat) = 8 then vt σ k 8 + 1 else if (5 : Nat) = 9 then vg σ 3 else vt σ k 5) else vt σ k 5) = _
  split <;> rfl
theorem obN_6 (σ : Sg) (k : Nat) : vt (obN σ) k 6 = vt σ k 6 := by
  show (if k < vn σ ∧ pU (plV σ) k = true then (if (6 : Nat) = 8 then vt σ k 8 + 1 else if (6 : Nat) = 9 then vg σ 3 else vt σ k 6) else vt σ k 6) = _
  split <;> rfl
theorem obN_cn (σ : Sg) : ∀ m, m ≤ vn σ → cnV (obN σ) 3 m = cnV σ 3 m + nI (ctU (pU (plV σ)) m)
  | 0, _ => rfl
  | m + 1, h => by
    rw [cnV, cnV, obN_cn σ m (by omega), ctU]
    have e1 : shV (obN σ) m 3 = vt (obN σ) m 8 := rfl
    have e2 : shV σ m 3 = vt σ m 8 := rfl
    rw [e1, e2]
    by_cases c : pU (plV σ) m = true
    · rw [if_pos c, obN_in (by omega) c 8, if_pos rfl, ← nI_1, Int32.add_assoc, Int32.add_assoc, ← Int32.add_assoc (nI _) (vt σ m 8) 1, Int32.add_comm (nI _) (vt σ m 8), Int32.add_assoc (vt σ m 8)]
    · have c' : pU (plV σ) m = false := by cases e : pU (plV σ) m <;> first | rfl | exact (c e).elim
      rw [if_neg c, obN_out c' 8, Nat.add_zero, Int32.add_assoc, Int32.add_assoc, Int32.add_comm (nI _)]
/-- what the law's nights keep: the night's number, no clouds, nobody has had more than it wants, nothing had tonight -/
def nOK (σ : Sg) (many : Nat) (t : Nat) : Prop := vn σ = many ∧ vg σ 3 = nI t ∧ vc σ = 0 ∧ ∀ k, k < many → vt σ k 8 ≤ vt σ k 6 ∧ vt σ k 9 < vg σ 3
/-- .. before observe: clouds or not, this night's length -/
def nOK1 (σ : Sg) (many : Nat) (t : Nat) : Prop := vn σ = many ∧ vg σ 3 = nI t ∧ ∀ k, k < many → vt σ k 8 ≤ vt σ k 6 ∧ vt σ k 9 < vg σ 3
theorem op_lt {σ : Sg} {k : Nat} (h : ¬ opI σ k = 0) : vt σ k 8 < vt σ k 6 := (bI_ne h).1
theorem obN_had {σ : Sg} (hr : Rng σ) {many t : Nat} (h : nOK1 σ many t) {k : Nat} (hk : k < many) : vt (obN σ) k 8 ≤ vt (obN σ) k 6 ∧ (pU (plV σ) k = true → vt (obN σ) k 9 = nI t) ∧ (pU (plV σ) k = false → vt (obN σ) k 9 < nI t) := by
  obtain ⟨rfl, h2, h3⟩ := h
  obtain ⟨a1, a2⟩ := h3 k hk
  rw [obN_6]
  by_cases c : pU (plV σ) k = true
  · have e8 : vt (obN σ) k 8 = vt σ k 8 + 1 := obN_in hk c 8
    have e9 : vt (obN σ) k 9 = vg σ 3 := obN_in hk c 9
    refine ⟨?_, fun _ => e9.trans h2, fun z => by rw [c] at z; cases z⟩
    have q := Int32.lt_iff_toInt_lt.mp (op_lt (plan_open hr c))
    rw [e8]
    refine Int32.le_iff_toInt_le.mpr ?_
    rw [(obs_had hr hk).1]
    omega
  · have c' : pU (plV σ) k = false := by cases e : pU (plV σ) k <;> first | rfl | exact (c e).elim
    rw [obN_out c' 8, obN_out c' 9]
    exact ⟨a1, fun z => (c z).elim, fun _ => by rw [← h2]; exact a2⟩
theorem obN_n {σ : Sg} (hr : Rng σ) {many t : Nat} (ht : t < 60) (h : nOK1 σ many t) : nOK (obN σ) many (t + 1) := by
  have e3 : vg (obN σ) 3 = nI (t + 1) := by
    show vg σ 3 + 1 = _
    rw [h.2.1, nI_1]
  refine ⟨h.1, e3, rfl, fun k hk => ⟨(obN_had hr h hk).1, ?_⟩⟩
  rw [e3]
  obtain ⟨-, p, q⟩ := obN_had hr h hk
  by_cases c : pU (plV σ) k = true
  · rw [p c]; exact nI_lt (by omega) (by omega)
  · have c' : pU (plV σ) k = false := by cases e : pU (plV σ) k <;> first | rfl | exact (c e).elim
    have q1 := Int32.lt_iff_toInt_lt.mp (q c')
    have q2 := Int32.lt_iff_toInt_lt.mp (nI_lt (show t < t + 1 by omega) (by omega))
    exact Int32.lt_iff_toInt_lt.mpr (by omega)
