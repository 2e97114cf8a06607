/-! the model's plan: the heap on the way -/
/-- only planned (24) of y, the array b and what has no label differ -/
def mF (y b : Nat) (S T : HS) : Prop := (∀ a, hK S a ≠ 0 → a ≠ y → a ≠ b → same1 S T a) ∧ (hK T y = hK S y ∧ (∀ k, hP T k y = hP S k y) ∧ ∀ j, j ≠ 24 → hI T j y = hI S j y) ∧ (hK T b = hK S b ∧ hN T b = hN S b)
theorem mF.rfl {y b : Nat} {S : HS} : mF y b S S := ⟨fun _ _ _ _ => same1.rfl, ⟨Eq.refl _, fun _ => Eq.refl _, fun _ _ => Eq.refl _⟩, Eq.refl _, Eq.refl _⟩
theorem mF.lab {y b : Nat} {S T : HS} (f : mF y b S T) {a : Nat} (h : hK S a ≠ 0) : hK T a = hK S a := by
  by_cases c1 : a = y
  · rw [c1]; exact f.2.1.1
  · by_cases c2 : a = b
    · rw [c2]; exact f.2.2.1
    · exact (f.1 a h c1 c2).1
theorem mF.trans {y b : Nat} {S T U : HS} (f : mF y b S T) (g : mF y b T U) : mF y b S U :=
  ⟨fun a h0 h1 h2 => (f.1 a h0 h1 h2).trans (g.1 a (by rw [f.lab h0]; exact h0) h1 h2), ⟨g.2.1.1.trans f.2.1.1, fun k => (g.2.1.2.1 k).trans (f.2.1.2.1 k), fun j hj => (g.2.1.2.2 j hj).trans (f.2.1.2.2 j hj)⟩, g.2.2.1.trans f.2.2.1, g.2.2.2.trans f.2.2.2⟩
theorem mF.ofE {y b : Nat} {S T U : HS} (f : mF y b S T) (hy : hK S y ≠ 0) (hb : hK S b ≠ 0) (g : ext T U) : mF y b S U :=
  f.trans ⟨fun a h0 _ _ => g a h0, ⟨(g y (by rw [f.lab hy]; exact hy)).1, (g y (by rw [f.lab hy]; exact hy)).2.2.2.1, fun j _ => (g y (by rw [f.lab hy]; exact hy)).2.2.1 j⟩, (g b (by rw [f.lab hb]; exact hb)).1, (g b (by rw [f.lab hb]; exact hb)).2.1⟩
theorem mF.sI {y b : Nat} {S T : HS} {v : Int32} (f : mF y b S T) : mF y b S (sI T 24 y v) :=
  f.trans ⟨fun _ _ h1 _ => ⟨Eq.refl _, Eq.refl _, fun _ => hI_na h1, fun _ => Eq.refl _, fun _ => Eq.refl _, fun _ => Eq.refl _⟩, ⟨Eq.refl _, fun _ => Eq.refl _, fun _ hj => hI_nk hj⟩, Eq.refl _, Eq.refl _⟩
theorem mF.sVa {y b : Nat} {S T : HS} {g : Nat → Int32} (f : mF y b S T) : mF y b S (sVa T b g) :=
  f.trans ⟨fun _ _ _ h2 => ⟨Eq.refl _, Eq.refl _, fun _ => Eq.refl _, fun _ => Eq.refl _, fun _ => if_neg h2, fun _ => Eq.refl _⟩, ⟨Eq.refl _, fun _ => Eq.refl _, fun _ _ => Eq.refl _⟩, Eq.refl _, Eq.refl _⟩
/-- a place of a cell that S doesn't know -/
theorem mF.sV {y b q k : Nat} {S T : HS} {v : Int32} (f : mF y b S T) (hq : hK S q = 0) : mF y b S (sV T k q v) :=
  ⟨fun a h0 h1 h2 => (f.1 a h0 h1 h2).trans ⟨Eq.refl _, Eq.refl _, fun _ => Eq.refl _, fun _ => Eq.refl _, fun _ => hV_na (fun z => h0 (by rw [z]; exact hq)), fun _ => Eq.refl _⟩, ⟨f.2.1.1, f.2.1.2.1, f.2.1.2.2⟩, f.2.2.1, f.2.2.2⟩
theorem mF.shp {y : Nat} {B : Nat → Nat} {S T : HS} (h : MShp y B S) (f : mF y (B 25) S T) : MShp y B T := by
  refine ⟨f.2.1.1.trans h.ky, fun j hj => ⟨(f.2.1.2.1 j).trans (h.p j hj), ?_, ?_⟩⟩
  · exact (f.lab (by rw [h.k j hj]; have := (mLab_gt hj).1; omega)).trans (h.k j hj)
  · by_cases c : j = 25
    · subst c; exact f.2.2.2.trans (h.n 25 hj)
    · exact (f.1 (B j) (by rw [h.k j hj]; have := (mLab_gt hj).1; omega) (h.ney hj) (h.ne hj (Eq.refl _) c)).2.1.trans (h.n j hj)
theorem mF.arr {y : Nat} {B : Nat → Nat} {S T : HS} (h : MShp y B S) (f : mF y (B 25) S T) {j : Nat} (hj : mIn j = true) (c : j ≠ 25) (k : Nat) : hV T k (B j) = hV S k (B j) :=
  (f.1 (B j) (by rw [h.k j hj]; have := (mLab_gt hj).1; omega) (h.ney hj) (h.ne hj (Eq.refl _) c)).2.2.2.2.1 k
theorem mF.vl {y : Nat} {B : Nat → Nat} {σ : Sg} {S T : HS} (h : MShp y B S) (hv : MVl y B σ S) (f : mF y (B 25) S T) : MVl y B σ T := by
  obtain ⟨⟨v1, v2, v3, v4, v5, v6, v7, v8, v10⟩, w9, wt, w19, wc⟩ := hv
  have e := f.2.1.2.2
  exact ⟨⟨(e 1 (by decide)).trans v1, (e 2 (by decide)).trans v2, (e 3 (by decide)).trans v3, (e 4 (by decide)).trans v4, (e 5 (by decide)).trans v5, (e 6 (by decide)).trans v6, (e 7 (by decide)).trans v7, (e 8 (by decide)).trans v8, (e 10 (by decide)).trans v10⟩, fun t ht => (f.arr h (Eq.refl _) (by decide) t).trans (w9 t ht), fun k hk j hj => (f.arr h (mIn_f hj) (by omega) k).trans (wt k hk j hj), fun k h1 h2 => (f.arr h (Eq.refl _) (by decide) k).trans (w19 k h1 h2), wc⟩
theorem mF.frm {y : Nat} {B : Nat → Nat} {S T : HS} (h : MShp y B S) (f : mF y (B 25) S T) : FrM S T :=
  ⟨fun a h0 h14 => f.1 a h0 (fun z => by rw [z, h.ky] at h14; omega) (fun z => by rw [z, h.k 25 (Eq.refl _)] at h14; exact absurd h14 (by decide)), fun _ h0 => f.lab h0⟩
/-- what is worked out of the night: heights, how long each can be seen -/
def MR (B : Nat → Nat) (σ : Sg) (T : HS) : Prop := ∀ k, k < vn σ → ∀ t, t < lnV σ → hV T (900 * k + t) (B 22) = thV σ k (nI t) ∧ hV T (900 * k + t) (B 23) = nI (rnA σ k t)
theorem MR.mF {y : Nat} {B : Nat → Nat} {σ : Sg} {S T : HS} (hm : MR B σ S) (h : MShp y B S) (f : mF y (B 25) S T) : MR B σ T := fun k hk t ht =>
  ⟨(f.arr h (Eq.refl _) (by decide) _).trans (hm k hk t ht).1, (f.arr h (Eq.refl _) (by decide) _).trans (hm k hk t ht).2⟩
/-- on the way through the night -/
def mpI (y : Nat) (B : Nat → Nat) (σ : Sg) (S : HS) (q : Nat) (π : Pl) (T : HS) : Prop :=
  mF y (B 25) S T ∧ (hK T q = 16 ∧ hN T q = 20 ∧ ∀ k, k < vn σ → hV T k q = zI (pU π k)) ∧ hI T 24 y = nI (pS σ π) ∧ (∀ i, i < pS σ π → ∀ j, j < 4 → hV T (4 * i + j) (B 25) = pR π i j) ∧ (∀ g, pF π = some g → g < vn σ) ∧ pT π ≤ 1100
theorem bs_skip {σ : Sg} {t : Int32} {f : Option Nat} {u : Nat → Bool} {n : Nat} (h : meV σ t f u n = miN) : bsV σ t f u (n + 1) = bsV σ t f u n := by
  rw [bsV, h, if_neg (bs_ge σ t f u n)]
theorem bs_less {σ : Sg} {t : Int32} {f : Option Nat} {u : Nat → Bool} {n : Nat} (h : meV σ t f u n ≤ (bsV σ t f u n).2) : bsV σ t f u (n + 1) = bsV σ t f u n := by
  rw [bsV, if_neg (Int32.not_lt.mpr h)]
theorem bs_more {σ : Sg} {t : Int32} {f : Option Nat} {u : Nat → Bool} {n : Nat} (h : (bsV σ t f u n).2 < meV σ t f u n) : bsV σ t f u (n + 1) = (some n, meV σ t f u n) := by
  rw [bsV, if_pos h]
theorem bs_none {σ : Sg} {t : Int32} {f : Option Nat} {u : Nat → Bool} : ∀ {n : Nat}, (bsV σ t f u n).1 = none → (bsV σ t f u n).2 = miN
  | 0, _ => Eq.refl _
  | n + 1, h => by
    by_cases c : (bsV σ t f u n).2 < meV σ t f u n
    · rw [bs_more c] at h; cases h
    · rw [bs_less (Int32.not_lt.mp c)] at h ⊢
      exact bs_none h
/-- a merit is never as small as none -/
theorem me_gt {σ : Sg} (hr : Rng σ) {k : Nat} (hk : k < vn σ) {f : Option Nat} (hf : ∀ g, f = some g → g < vn σ) (t : Int32) : miN < 100 * vt σ k 3 + thV σ k t / 10 - wtV σ f k := by
  obtain ⟨w, w1, w2, we⟩ := wt_in hr hk hf
  obtain ⟨⟨l1, l2⟩, -, -, -, -, -, -, -, ht⟩ := hr
  obtain ⟨-, ⟨d1, d2⟩, -, ⟨a1, a2⟩, -⟩ := ht k hk
  have hm := mx_le (w := angV (vg σ 1) (vg σ 3) t (vt σ k 0)) l1 l2 d1 d2
  have e0 : (thV σ k t).toInt = (mx (vg σ 0) (vt σ k 1) (angV (vg σ 1) (vg σ 3) t (vt σ k 0))).toInt := Eq.refl _
  rw [← e0] at hm
  have b1 := Int32.le_iff_toInt_le.mp a1
  have b2 := Int32.le_iff_toInt_le.mp a2
  rw [show (1 : Int32).toInt = 1 by decide] at b1
  rw [show (9 : Int32).toInt = 9 by decide] at b2
  have h100 : (100 : Int32).toInt = 100 := by decide
  have s1 : (100 * vt σ k 3).toInt = 100 * (vt σ k 3).toInt := by rw [fb_mulI (by rw [h100]; omega) (by rw [h100]; omega), h100]
  have s2 : (thV σ k t / 10).toInt = (thV σ k t).toInt.tdiv 10 := by rw [divI (by decide), show (10 : Int32).toInt = 10 by decide]
  obtain ⟨p, n, e, f1, f2⟩ := tm_sign (a := (thV σ k t).toInt) (m := 10) (by decide)
  have s3 : (100 * vt σ k 3 + thV σ k t / 10).toInt = 100 * (vt σ k 3).toInt + (thV σ k t).toInt.tdiv 10 := by rw [fb_addI (by rw [s1, s2]; omega) (by rw [s1, s2]; omega), s1, s2]
  have s4 : (wtV σ f k).toInt = w := by rw [we, nI_toInt (by omega)]
  refine Int32.lt_iff_toInt_lt.mpr ?_
  rw [fb_subI (by rw [s3, s4]; omega) (by rw [s3, s4]; omega), s3, s4, show miN.toInt = -1000000 by decide]
  omega
/-- the best one's merit as the model keeps it -/
def moV (p : Option Nat × Int32) : Int32 := match p.1 with
  | none => 0
  | some _ => p.2
theorem fI_none {f : Option Nat} {n : Nat} (hn : n ≤ 20) (h : ∀ g, f = some g → g < n) (e : fI f = -1) : f = none := by
  cases f with
  | none => exact Eq.refl _
  | some g => exact (nI_ne1 (show g < 2147483648 by have := h g (Eq.refl _); omega) e).elim
theorem bs_lt1 {σ : Sg} {t : Int32} {f : Option Nat} {u : Nat → Bool} {n g : Nat} (h : (bsV σ t f u n).1 = some g) : g < n := by
  rcases hb : bsV σ t f u n with ⟨b, m⟩
  rw [hb] at h
  replace h : b = some g := h
  subst h
  exact (bs_lt hb).1
/-- what is no target at this minute: in the plan, not open, not to be seen for a whole visit -/
theorem me_u {σ : Sg} {t : Int32} {f : Option Nat} {u : Nat → Bool} {k : Nat} (h : u k = true) : meV σ t f u k = miN := if_pos h
theorem me_o {σ : Sg} {t : Int32} {f : Option Nat} {u : Nat → Bool} {k : Nat} (h : opI σ k = 0) : meV σ t f u k = miN := by
  unfold meV
  by_cases c : u k = true
  · rw [if_pos c]
  · rw [if_neg c, if_pos h]
theorem me_l {σ : Sg} {t : Int32} {f : Option Nat} {u : Nat → Bool} {k : Nat} (h : laI σ k (t + wtV σ f k) = 0) : meV σ t f u k = miN := by
  unfold meV
  by_cases c : u k = true
  · rw [if_pos c]
  · rw [if_neg c]
    by_cases c2 : opI σ k = 0
    · rw [if_pos c2]
    · rw [if_neg c2, if_pos h]
theorem me_y {σ : Sg} {t : Int32} {f : Option Nat} {u : Nat → Bool} {k : Nat} (h1 : u k = false) (h2 : ¬ opI σ k = 0) (h3 : ¬ laI σ k (t + wtV σ f k) = 0) : meV σ t f u k = 100 * vt σ k 3 + thV σ k (t + wtV σ f k) / 10 - wtV σ f k := by
  unfold meV
  rw [if_neg (by rw [h1]; decide), if_neg h2, if_neg h3]
theorem la_no {σ : Sg} (hr : Rng σ) {k r : Nat} (hk : k < vn σ) (h : lnV σ ≤ r) (h9 : r < 2147483648) : laI σ k (nI r) = 0 := by
  unfold laI
  refine if_neg (fun z => ?_)
  obtain ⟨-, -, z3⟩ := z
  rw [nI_clamp h9] at z3
  unfold rnA at z3
  rw [if_neg (by omega)] at z3
  exact absurd (Int32.le_trans (hr.2.2.2.2.2.2.2.2 k hk).2.2.2.2.1.1 z3) (by decide)
theorem la_eq {σ : Sg} {k r : Nat} (h : r < 900) : laI σ k (nI r) = 0 ↔ nI (rnA σ k r) < vt σ k 5 := by
  unfold laI
  rw [nI_clamp (by omega)]
  constructor
  · intro z
    refine Int32.not_le.mp (fun q => bI_eq z ⟨nI_pos' (by omega), nI_lt h (by decide), q⟩)
  · intro z
    exact if_neg (fun q => absurd q.2.2 (Int32.not_le.mpr z))
/-- a visit of four numbers, laid into the plan's rows -/
def visS (T : HS) (v : Nat) (a b c d : Int32) : HS := sV (sV (sV (sV (sNew T v 31 4) 0 v a) 1 v b) 2 v c) 3 v d
theorem vis_ext {T : HS} {v : Nat} {a b c d : Int32} (hv : hK T v = 0) : ext T (visS T v a b c d) := fun x hx => by
  have hne : x ≠ v := fun z => hx (by rw [z]; exact hv)
  have e := (newAt.of (lab := 31) (n := 4) hv).2 x hne
  exact e.trans ⟨Eq.refl _, Eq.refl _, fun _ => Eq.refl _, fun _ => Eq.refl _, fun _ => (hV_na hne).trans ((hV_na hne).trans ((hV_na hne).trans (hV_na hne))), fun _ => Eq.refl _⟩
theorem vis_k {T : HS} {v : Nat} {a b c d : Int32} : hK (visS T v a b c d) v = 31 ∧ hN (visS T v a b c d) v = 4 := ⟨if_pos (Eq.refl _), if_pos (Eq.refl _)⟩
theorem vis_v {T : HS} {v : Nat} {a b c d : Int32} : hV (visS T v a b c d) 0 v = a ∧ hV (visS T v a b c d) 1 v = b ∧ hV (visS T v a b c d) 2 v = c ∧ hV (visS T v a b c d) 3 v = d :=
  ⟨(hV_nk (by decide)).trans ((hV_nk (by decide)).trans ((hV_nk (by decide)).trans (hV_same _ _ _ _))), (hV_nk (by decide)).trans ((hV_nk (by decide)).trans (hV_same _ _ _ _)), (hV_nk (by decide)).trans (hV_same _ _ _ _), hV_same _ _ _ _⟩
/-- the heap behind a taken visit -/
def tmS (T : HS) (y b q v : Nat) (p g : Nat) (a1 a2 a3 a4 : Int32) : HS := sV (sI (sVa (visS T v a1 a2 a3 a4) b (va_cpy (fun i => hV (visS T v a1 a2 a3 a4) i v) (fun i => hV (visS T v a1 a2 a3 a4) i b) 0 (4 * p) 4)) 24 y (nI (p + 1))) g q 1
theorem mp_step {y : Nat} {B : Nat → Nat} {σ : Sg} {S T : HS} {q v : Nat} {π : Pl} {g : Nat} {m : Int32} (hs : MShp y B S) (hr : Rng σ) (hq : hK S q = 0) (h : mpI y B σ S q π T) (ht : pT π < lnV σ) (hb : bsV σ (nI (pT π)) (pF π) (pU π) (vn σ) = (some g, m)) (hv : hK T v = 0) :
    mpI y B σ S q (tkV σ π g m) (tmS T y (B 25) q v (pS σ π) g (nI g) (nI (pT π) + wtV σ (pF π) g) (wtV σ (pF π) g) m) := by
  obtain ⟨f, ⟨q1, q2, q3⟩, h24, hrow, hf, hT⟩ := h
  obtain ⟨hg, -, -⟩ := bs_lt hb
  obtain ⟨hu, -, -⟩ := bs_open hb
  have hln := hr.ln
  have htk := tk_t (m := m) hr hg hf (show pT π ≤ 900 by omega)
  have hy0 : hK S y ≠ 0 := by rw [hs.ky]; decide
  have hb0 : hK S (B 25) ≠ 0 := by rw [hs.k 25 (Eq.refl _)]; decide
  have x1 : ext T (visS T v (nI g) (nI (pT π) + wtV σ (pF π) g) (wtV σ (pF π) g) m) := vis_ext hv
  have kT : hK T (B 25) = 30 := (f.2.2.1).trans (hs.k 25 (Eq.refl _))
  have f1 := f.ofE hy0 hb0 x1
  have f2 := ((f1.sVa (g := va_cpy (fun i => hV (visS T v (nI g) (nI (pT π) + wtV σ (pF π) g) (wtV σ (pF π) g) m) i v) (fun i => hV (visS T v (nI g) (nI (pT π) + wtV σ (pF π) g) (wtV σ (pF π) g) m) i (B 25)) 0 (4 * pS σ π) 4)).sI (v := nI (pS σ π + 1))).sV (q := q) (k := g) (v := 1) hq
  have nqb : q ≠ B 25 := hK_ne q1 kT (by decide)
  have nbq : B 25 ≠ q := fun z => nqb z.symm
  have sq := x1 q (by rw [q1]; decide)
  have sb := x1 (B 25) (by rw [kT]; decide)
  refine ⟨f2, ⟨sq.1.trans q1, sq.2.1.trans q2, fun k hk => ?_⟩, ?_, fun i hi j hj => ?_, fun g' e => ?_, by omega⟩
  · by_cases e : k = g
    · subst e
      exact (hV_same _ _ _ _).trans (show (1 : Int32) = zI (mkU (pU π) k k) by rw [show mkU (pU π) k k = true from if_pos (Eq.refl _)]; exact Eq.refl _)
    · refine (hV_nk e).trans (((if_neg nqb).trans ((sq.2.2.2.2.1 k).trans (q3 k hk))).trans ?_)
      show zI (pU π k) = zI (mkU (pU π) g k)
      rw [show mkU (pU π) g k = pU π k from if_neg e]
  · refine (hI_same _ 24 y (nI (pS σ π + 1))).trans ?_
    show nI (ctU (pU π) (vn σ) + 1) = nI (ctU (mkU (pU π) g) (vn σ))
    rw [ctU_mk hg hu]
  · have hi' : i < ctU (mkU (pU π) g) (vn σ) := hi
    rw [ctU_mk hg hu] at hi'
    have hi2 : i < pS σ π + 1 := hi'
    refine (hV_na nbq).trans ((if_pos (Eq.refl _)).trans ?_)
    show va_cpy _ _ 0 (4 * pS σ π) 4 (4 * i + j) = if i = pS σ π then rowV σ (nI (pT π)) (pF π) g m j else pR π i j
    unfold va_cpy
    by_cases e : i = pS σ π
    · rw [if_pos e, if_pos (by omega)]
      rw [show 0 + (4 * i + j - 4 * pS σ π) = j by omega]
      obtain ⟨v0, v1, v2, v3⟩ := vis_v (T := T) (v := v) (a := nI g) (b := nI (pT π) + wtV σ (pF π) g) (c := wtV σ (pF π) g) (d := m)
      unfold rowV
      rcases (show j = 0 ∨ j = 1 ∨ j = 2 ∨ j = 3 by omega) with rfl | rfl | rfl | rfl
      · exact v0
      · exact v1
      · exact v2
      · exact v3
    · rw [if_neg e, if_neg (by omega)]
      exact (sb.2.2.2.2.1 _).trans (hrow i (by omega) j hj)
  · cases e
    exact hg
