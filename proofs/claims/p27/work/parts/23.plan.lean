/-! the plan as a function of the state -/
def ntV (σ : Sg) (f k : Nat) : Int32 := nearV (vt σ f 0) (vt σ f 1) (vt σ k 0) (vt σ k 1)
/-- the minutes until the telescope is ready for k, pointing at f -/
def wtV (σ : Sg) (f : Option Nat) (k : Nat) : Int32 := match f with
  | none => if vt σ k 2 = 0 then 2 else 2 + 3
  | some f => if vt σ k 2 = vt σ f 2 then 1 + (1000 - ntV σ f k) / 250 else 1 + (1000 - ntV σ f k) / 250 + 3
theorem wt_in {σ : Sg} (hr : Rng σ) {f : Option Nat} {k : Nat} (hk : k < vn σ) (hf : ∀ g, f = some g → g < vn σ) : ∃ w : Nat, 1 ≤ w ∧ w ≤ 12 ∧ wtV σ f k = nI w := by
  unfold wtV
  cases f with
  | none =>
    by_cases c : vt σ k 2 = 0
    · exact ⟨2, by omega, by omega, if_pos c⟩
    · exact ⟨5, by omega, by omega, (if_neg c).trans (by decide)⟩
  | some f =>
    have hf' := hf f rfl
    obtain ⟨-, -, -, -, -, -, -, -, ht⟩ := hr
    obtain ⟨-, ⟨a1, a2⟩, -⟩ := ht k hk
    obtain ⟨-, ⟨b1, b2⟩, -⟩ := ht f hf'
    have h := mx_le (w := iabs (vt σ f 0 - vt σ k 0) / 4) b1 b2 a1 a2
    have e0 : (ntV σ f k).toInt = (mx (vt σ f 1) (vt σ k 1) (iabs (vt σ f 0 - vt σ k 0) / 4)).toInt := rfl
    rw [← e0] at h
    have s1 : (1000 - ntV σ f k).toInt = 1000 - (ntV σ f k).toInt := by
      rw [fb_subI (by rw [show (1000 : Int32).toInt = 1000 by decide]; omega) (by rw [show (1000 : Int32).toInt = 1000 by decide]; omega), show (1000 : Int32).toInt = 1000 by decide]
    have s2 : ((1000 - ntV σ f k) / 250).toInt = (1000 - (ntV σ f k).toInt).tdiv 250 := by rw [divI (by decide), s1, show (250 : Int32).toInt = 250 by decide]
    obtain ⟨p, n, e, f1, f2⟩ := tm_sign (a := 1000 - (ntV σ f k).toInt) (m := 250) (by decide)
    have hb : 0 ≤ (1000 - (ntV σ f k).toInt).tdiv 250 ∧ (1000 - (ntV σ f k).toInt).tdiv 250 ≤ 8 := by
      rcases Int.le_total 0 (1000 - (ntV σ f k).toInt) with h0 | h0
      · obtain ⟨y1, y2, y3⟩ := p h0; omega
      · obtain ⟨y1, y2, y3⟩ := n h0; omega
    obtain ⟨q, hq⟩ : ∃ q : Nat, (1000 - (ntV σ f k).toInt).tdiv 250 = q := ⟨((1000 - (ntV σ f k).toInt).tdiv 250).toNat, by omega⟩
    have e2 : (1000 - ntV σ f k) / 250 = nI q := Int32.toInt_inj.mp (by rw [s2, hq, nI_toInt (by omega)])
    show ∃ w : Nat, 1 ≤ w ∧ w ≤ 12 ∧ (if vt σ k 2 = vt σ f 2 then 1 + (1000 - ntV σ f k) / 250 else 1 + (1000 - ntV σ f k) / 250 + 3) = nI w
    rw [e2, show (1 : Int32) = nI 1 from rfl, nI_add, show (3 : Int32) = nI 3 from rfl, nI_add]
    by_cases c : vt σ k 2 = vt σ f 2
    · exact ⟨1 + q, by omega, by omega, if_pos c⟩
    · exact ⟨1 + q + 3, by omega, by omega, if_neg c⟩
/-- can k be seen from the minute tt on for a whole visit? -/
def laI (σ : Sg) (k : Nat) (tt : Int32) : Int32 := bI (0 ≤ tt ∧ tt < 900 ∧ vt σ k 5 ≤ nI (rnA σ k tt.toNatClampNeg))
def miN : Int32 := -1000000
def meV (σ : Sg) (t : Int32) (f : Option Nat) (u : Nat → Bool) (k : Nat) : Int32 :=
  if u k = true then miN else if opI σ k = 0 then miN else if laI σ k (t + wtV σ f k) = 0 then miN else 100 * vt σ k 3 + thV σ k (t + wtV σ f k) / 10 - wtV σ f k
/-- the best of the first targets, with its merit -/
def bsV (σ : Sg) (t : Int32) (f : Option Nat) (u : Nat → Bool) : Nat → Option Nat × Int32
  | 0 => (none, miN)
  | k + 1 => if (bsV σ t f u k).2 < meV σ t f u k then (some k, meV σ t f u k) else bsV σ t f u k
theorem bs_ge (σ : Sg) (t : Int32) (f : Option Nat) (u : Nat → Bool) : ∀ n, ¬ (bsV σ t f u n).2 < miN
  | 0 => by show ¬ miN < miN; decide
  | n + 1 => by
    intro h
    unfold bsV at h
    by_cases c : (bsV σ t f u n).2 < meV σ t f u n
    · rw [if_pos c] at h
      refine bs_ge σ t f u n (Int32.lt_iff_toInt_lt.mpr ?_)
      have h1 := Int32.lt_iff_toInt_lt.mp c
      have h2 : (meV σ t f u n).toInt < miN.toInt := Int32.lt_iff_toInt_lt.mp h
      omega
    · rw [if_neg c] at h
      exact bs_ge σ t f u n h
theorem bs_lt {σ : Sg} {t : Int32} {f : Option Nat} {u : Nat → Bool} : ∀ {n g : Nat} {m : Int32}, bsV σ t f u n = (some g, m) → g < n ∧ m = meV σ t f u g ∧ miN < m
  | 0, g, m, h => by cases h
  | n + 1, g, m, h => by
    unfold bsV at h
    by_cases c : (bsV σ t f u n).2 < meV σ t f u n
    · rw [if_pos c] at h
      cases h
      refine ⟨by omega, rfl, ?_⟩
      refine Int32.lt_iff_toInt_lt.mpr ?_
      have h1 := Int32.lt_iff_toInt_lt.mp c
      have h2 : ¬ (bsV σ t f u n).2.toInt < miN.toInt := fun z => bs_ge σ t f u n (Int32.lt_iff_toInt_lt.mpr z)
      omega
    · rw [if_neg c] at h
      obtain ⟨h1, h2, h3⟩ := bs_lt h
      exact ⟨by omega, h2, h3⟩
theorem bs_open {σ : Sg} {t : Int32} {f : Option Nat} {u : Nat → Bool} {n g : Nat} {m : Int32} (h : bsV σ t f u n = (some g, m)) : u g = false ∧ ¬ opI σ g = 0 ∧ ¬ laI σ g (t + wtV σ f g) = 0 := by
  obtain ⟨-, h2, h3⟩ := bs_lt h
  rw [h2] at h3
  unfold meV at h3
  have hn : ¬ miN < miN := by decide
  by_cases c1 : u g = true
  · rw [if_pos c1] at h3; exact (hn h3).elim
  · rw [if_neg c1] at h3
    by_cases c2 : opI σ g = 0
    · rw [if_pos c2] at h3; exact (hn h3).elim
    · rw [if_neg c2] at h3
      by_cases c3 : laI σ g (t + wtV σ f g) = 0
      · rw [if_pos c3] at h3; exact (hn h3).elim
      · exact ⟨by cases e : u g <;> first | rfl | exact (c1 e).elim, c2, c3⟩
/-- how many of the first n are marked -/
def ctU (u : Nat → Bool) : Nat → Nat
  | 0 => 0
  | n + 1 => ctU u n + if u n = true then 1 else 0
theorem ctU_le (u : Nat → Bool) : ∀ n, ctU u n ≤ n
  | 0 => Nat.le_refl 0
  | n + 1 => by have := ctU_le u n; unfold ctU; split <;> omega
theorem ctU_lt {u : Nat → Bool} : ∀ {n k : Nat}, k < n → u k = false → ctU u n < n
  | 0, k, h, _ => absurd h (Nat.not_lt_zero k)
  | n + 1, k, h, hu => by
    unfold ctU
    by_cases e : k = n
    · subst e
      rw [if_neg (by rw [hu]; decide)]
      have := ctU_le u k
      omega
    · have := ctU_lt (u := u) (show k < n by omega) hu
      split <;> omega
def mkU (u : Nat → Bool) (g : Nat) : Nat → Bool := fun k => if k = g then true else u k
theorem ctU_mk {u : Nat → Bool} : ∀ {n g : Nat}, g < n → u g = false → ctU (mkU u g) n = ctU u n + 1
  | 0, g, h, _ => absurd h (Nat.not_lt_zero g)
  | n + 1, g, h, hu => by
    unfold ctU
    by_cases e : g = n
    · subst e
      have hc : ∀ m, m ≤ g → ctU (mkU u g) m = ctU u m := by
        intro m
        induction m with
        | zero => intro _; rfl
        | succ m ih => intro hm; unfold ctU; rw [ih (by omega), show mkU u g m = u m from if_neg (by omega)]
      rw [hc g (Nat.le_refl g), if_pos (show mkU u g g = true from if_pos rfl), if_neg (by rw [hu]; decide)]
    · rw [ctU_mk (show g < n by omega) hu, show mkU u g n = u n from if_neg (fun z => e z.symm)]
      omega
/-- the plan so far: the minute, where it points, who is in it, its rows, their minutes together -/
abbrev Pl : Type := Nat × Option Nat × (Nat → Bool) × (Nat → Nat → Int32) × Int32
abbrev pT (π : Pl) : Nat := π.1
abbrev pF (π : Pl) : Option Nat := π.2.1
abbrev pU (π : Pl) : Nat → Bool := π.2.2.1
abbrev pR (π : Pl) : Nat → Nat → Int32 := π.2.2.2.1
abbrev pM (π : Pl) : Int32 := π.2.2.2.2
def pS (σ : Sg) (π : Pl) : Nat := ctU (pU π) (vn σ)
def rowV (σ : Sg) (t : Int32) (f : Option Nat) (g : Nat) (m : Int32) (j : Nat) : Int32 := if j = 0 then nI g else if j = 1 then t + wtV σ f g else if j = 2 then wtV σ f g else m
/-- the target g is taken -/
def tkV (σ : Sg) (π : Pl) (g : Nat) (m : Int32) : Pl := ((nI (pT π) + wtV σ (pF π) g + vt σ g 5).toNatClampNeg, some g, mkU (pU π) g, fun i j => if i = pS σ π then rowV σ (nI (pT π)) (pF π) g m j else pR π i j, pM π + vt σ g 5)
def stV (σ : Sg) (π : Pl) : Pl := match bsV σ (nI (pT π)) (pF π) (pU π) (vn σ) with
  | (none, _) => (pT π + 1, π.2)
  | (some g, m) => tkV σ π g m
def π0 : Pl := (0, none, fun _ => false, fun _ _ => 0, 0)
/-- the plan from here on, by a bound of steps -/
def plF (σ : Sg) : Nat → Pl → Pl
  | 0, π => π
  | n + 1, π => if pT π < lnV σ then plF σ n (stV σ π) else π
def plV (σ : Sg) : Pl := plF σ (lnV σ + 1) π0
theorem tk_t {σ : Sg} (hr : Rng σ) {π : Pl} {g : Nat} {m : Int32} (hg : g < vn σ) (hf : ∀ k, pF π = some k → k < vn σ) (ht : pT π ≤ 900) : pT π + 6 ≤ pT (tkV σ π g m) ∧ pT (tkV σ π g m) ≤ pT π + 132 ∧ nI (pT π) + wtV σ (pF π) g + vt σ g 5 = nI (pT (tkV σ π g m)) := by
  obtain ⟨w, w1, w2, we⟩ := wt_in hr hg hf
  obtain ⟨-, -, -, -, -, -, -, -, hk⟩ := hr
  obtain ⟨-, -, -, -, ⟨m1, m2⟩, -⟩ := hk g hg
  obtain ⟨q, hq, qe⟩ := nI_of (x := vt σ g 5) (fun z => absurd (Int32.le_trans m1 (Int32.le_of_lt z)) (by decide))
  rw [qe] at m1 m2
  have q1 : 5 ≤ q := (nI_leI (a := 5) (by decide) hq).mp m1
  have q2 : q ≤ 120 := (nI_leI (b := 120) hq (by decide)).mp m2
  have e : nI (pT π) + wtV σ (pF π) g + vt σ g 5 = nI (pT π + w + q) := by rw [we, qe, nI_add, nI_add]
  have e2 : pT (tkV σ π g m) = pT π + w + q := by
    show (nI (pT π) + wtV σ (pF π) g + vt σ g 5).toNatClampNeg = _
    rw [e, nI_clamp (by omega)]
  rw [e2, e]
  exact ⟨by omega, by omega, rfl⟩
/-- the class's plan so far, in the heap -/
def PlR (A : Nat → Nat → Nat) (σ : Sg) (f : Option Nat) (u : Nat → Bool) (T : HS) : Prop :=
  hP T 4 (A 0 7) = f.map (A 1) ∧ (∀ g, f = some g → g < vn σ) ∧ (∀ k, k < vn σ → hI T 11 (A 1 k) = zI (u k)) ∧ hI T 2 (A 0 7) = nI (ctU u (vn σ))
theorem wt_eq {G : JG} {x : Nat} {A : Nat → Nat → Nat} {σ : Sg} {S : HS} (hs : Shp G x A (vn σ) S) (hv : Vl x A σ S) {f : Option Nat} {u : Nat → Bool} (hp : PlR A σ f u S) {k : Nat} (hk : k < vn σ) : wtS S (A 0 7) (A 1 k) = wtV σ f k := by
  obtain ⟨h1, h2, -, -⟩ := hp
  have tk := hv.tg hk
  unfold wtS wtV
  rw [h1]
  cases f with
  | none => show (if hI S 2 (A 1 k) = 0 then 2 else 2 + 3) = _; rw [tk.2.1]
  | some g =>
    have hg := h2 g rfl
    have tg := hv.tg hg
    show (if hI S 2 (A 1 k) = hI S 2 (A 1 g) then 1 + (1000 - nrP S ((hP S 1 (A 1 g)).getD 0) ((hP S 1 (A 1 k)).getD 0)) / 250 else 1 + (1000 - nrP S ((hP S 1 (A 1 g)).getD 0) ((hP S 1 (A 1 k)).getD 0)) / 250 + 3) = _
    rw [hs.ppt hg, hs.ppt hk, Option.getD_some, Option.getD_some, tk.2.1, tg.2.1]
    have e : nrP S (A 2 g) (A 2 k) = ntV σ g k := by
      obtain ⟨-, -, -, -, -, -, -, -, -, p0, p1, p2, p3⟩ := tg
      obtain ⟨-, -, -, -, -, -, -, -, -, q0, q1, q2, q3⟩ := tk
      unfold nrP
      rw [p0, p2, p3, q0, q2, q3]; rfl
    rw [e]
/-- what takeBest leaves when it takes g -/
def tkS (A : Nat → Nat → Nat) (S : HS) (g : Nat) (t w m : Int32) : HS := sP (sI (sI (sI (sV (sV (sV (sV S 0 (A 5 (hI S 2 (A 0 7)).toNatClampNeg) (hI S 0 (A 1 g))) 1 (A 5 (hI S 2 (A 0 7)).toNatClampNeg) (t + w)) 2 (A 5 (hI S 2 (A 0 7)).toNatClampNeg) w) 3 (A 5 (hI S 2 (A 0 7)).toNatClampNeg) m) 2 (A 0 7) (hI S 2 (A 0 7) + 1)) 3 (A 0 7) (hI S 3 (A 0 7) + hI S 4 (A 1 g))) 11 (A 1 g) 1) 4 (A 0 7) (some (A 1 g))
