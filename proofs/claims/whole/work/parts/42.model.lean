/-! the model: its cells, its values, and what either side leaves to the other -/
def FrM (S T : HS) : Prop := (∀ a, hK S a ≠ 0 → hK S a ≤ 14 → same1 S T a) ∧ ∀ a, hK S a ≠ 0 → hK T a = hK S a
theorem FrM.rfl {S : HS} : FrM S S := ⟨fun _ _ _ => same1.rfl, fun _ _ => Eq.refl _⟩
theorem FrM.trans {S T U : HS} (h : FrM S T) (g : FrM T U) : FrM S U :=
  ⟨fun a h0 h14 => (h.1 a h0 h14).trans (g.1 a (by rw [h.2 a h0]; exact h0) (by rw [h.2 a h0]; exact h14)), fun a h0 => (g.2 a (by rw [h.2 a h0]; exact h0)).trans (h.2 a h0)⟩
theorem gt14 {S : HS} {a n : Nat} (h : hK S a = n) (h2 : n = 0 ∨ 14 < n) : hK S a = 0 ∨ 14 < hK S a := h.symm ▸ h2
theorem FrM.sI {S T : HS} {k a : Nat} {v : Int32} (h : FrM S T) (hk : hK T a = 0 ∨ 14 < hK T a) : FrM S (sI T k a v) := h.trans ⟨fun b h0 h14 => by
  have hne : b ≠ a := fun z => by rw [z] at h0 h14; omega
  exact ⟨Eq.refl _, Eq.refl _, fun _ => hI_na hne, fun _ => Eq.refl _, fun _ => Eq.refl _, fun _ => Eq.refl _⟩, fun _ _ => Eq.refl _⟩
theorem FrM.sV {S T : HS} {k a : Nat} {v : Int32} (h : FrM S T) (hk : hK T a = 0 ∨ 14 < hK T a) : FrM S (sV T k a v) := h.trans ⟨fun b h0 h14 => by
  have hne : b ≠ a := fun z => by rw [z] at h0 h14; omega
  exact ⟨Eq.refl _, Eq.refl _, fun _ => Eq.refl _, fun _ => Eq.refl _, fun _ => hV_na hne, fun _ => Eq.refl _⟩, fun _ _ => Eq.refl _⟩
theorem FrM.sVa {S T : HS} {a : Nat} {g : Nat → Int32} (h : FrM S T) (hk : hK T a = 0 ∨ 14 < hK T a) : FrM S (sVa T a g) := h.trans ⟨fun b h0 h14 => by
  have hne : b ≠ a := fun z => by rw [z] at h0 h14; omega
  exact ⟨Eq.refl _, Eq.refl _, fun _ => Eq.refl _, fun _ => Eq.refl _, fun _ => if_neg hne, fun _ => Eq.refl _⟩, fun _ _ => Eq.refl _⟩
theorem FrM.sP {S T : HS} {k a : Nat} {v : Option Nat} (h : FrM S T) (hk : hK T a = 0 ∨ 14 < hK T a) : FrM S (sP T k a v) := h.trans ⟨fun b h0 h14 => by
  have hne : b ≠ a := fun z => by rw [z] at h0 h14; omega
  exact ⟨Eq.refl _, Eq.refl _, fun _ => Eq.refl _, fun _ => hP_na hne, fun _ => Eq.refl _, fun _ => Eq.refl _⟩, fun _ _ => Eq.refl _⟩
theorem FrM.new {S T : HS} {q lab n : Nat} (h : FrM S T) (hq : hK T q = 0) : FrM S (sNew T q lab n) := h.trans ⟨fun _ h0 _ => (newAt.of hq).old h0, fun _ h0 => ((newAt.of hq).old h0).1⟩
theorem FrM.w {S : HS} {I V : Nat → Nat → Int32} (h1 : ∀ j a, hK S a ≤ 14 → I j a = hI S j a) (h2 : ∀ j a, hK S a ≤ 14 → V j a = hV S j a) : FrM S (wIV S I V) :=
  ⟨fun a _ h14 => ⟨Eq.refl _, Eq.refl _, fun k => h1 k a h14, fun _ => Eq.refl _, fun k => h2 k a h14, fun _ => Eq.refl _⟩, fun _ _ => Eq.refl _⟩
/-- the class doesn't see what the model does -/
theorem CI.frm {G : JG} {x : Nat} {A : Nat → Nat → Nat} {σ : Sg} {S T : HS} (h : CI G x A σ S) (f : FrM S T) : CI G x A σ T := by
  obtain ⟨hs, hv, hr, ho, hp⟩ := h
  have f1 : ∀ a, hK S a ≠ 0 ∧ hK S a ≤ 13 → same1 S T a := fun a ha => f.1 a ha.1 (by omega)
  have l1 : ∀ {a n}, hK S a = n → n ≠ 0 ∧ n ≤ 13 → same1 S T a := fun h1 h2 => f1 _ (by rw [h1]; exact h2)
  refine ⟨hs.off (fun a ha => ⟨(f1 a ha).1, (f1 a ha).2.1, (f1 a ha).2.2.2.1⟩), hv.off hs (fun a ha => ⟨(f1 a ha).2.2.1, (f1 a ha).2.2.2.2.1⟩), hr, fun k hk => ?_, ?_⟩
  · have eo := l1 (hs.ko hk) (by decide)
    have er := l1 (hs.kru hk) (by decide)
    rcases ho k hk with q | ⟨q1, q2, q3⟩
    · exact Or.inl ((eo.2.2.1 _).trans q)
    · exact Or.inr ⟨(eo.2.2.1 _).trans q1, fun j a b => (eo.2.2.1 _).trans (q2 j a b), fun i hi => (er.2.2.2.2.1 _).trans (q3 i hi)⟩
  · have ep := l1 hs.kp (by decide)
    rcases hp with q | ⟨q1, ⟨⟨p1, p2, p3, p4⟩, p5, p6⟩, q3⟩
    · exact Or.inl ((ep.2.2.1 _).trans q)
    · refine Or.inr ⟨(ep.2.2.1 _).trans q1, ⟨⟨(ep.2.2.2.1 _).trans p1, p2, fun k hk => ((l1 (hs.kg hk) (by decide)).2.2.1 _).trans (p3 k hk), (ep.2.2.1 _).trans p4⟩, (ep.2.2.1 _).trans p5, fun i hi j hj => ?_⟩, fun k hk => ((l1 (hs.ko hk) (by decide)).2.2.1 _).trans (q3 k hk)⟩
      have h20 : i < 20 := Nat.lt_of_lt_of_le hi (Nat.le_trans (ctU_le _ _) hs.n20)
      exact ((l1 (hs.krow h20) (by decide)).2.2.2.2.1 _).trans (p6 i hi j hj)
def mIn (j : Nat) : Bool := decide (j = 9) || (decide (11 ≤ j) && decide (j ≤ 20)) || decide (j = 22) || decide (j = 23) || decide (j = 25)
def mLab (j : Nat) : Nat := if j = 9 then 15 else if j = 22 then 28 else if j = 23 then 29 else if j = 25 then 30 else j + 7
def mLen (j : Nat) : Nat := if j = 9 then 900 else if j = 22 then 18000 else if j = 23 then 18000 else if j = 25 then 80 else 20
def MShp (y : Nat) (B : Nat → Nat) (S : HS) : Prop := hK S y = 17 ∧ ∀ j, mIn j = true → hP S j y = some (B j) ∧ hK S (B j) = mLab j ∧ hN S (B j) = mLen j
theorem MShp.ky {y : Nat} {B : Nat → Nat} {S : HS} (h : MShp y B S) : hK S y = 17 := h.1
theorem MShp.p {y : Nat} {B : Nat → Nat} {S : HS} (h : MShp y B S) (j : Nat) (hj : mIn j = true) : hP S j y = some (B j) := (h.2 j hj).1
theorem MShp.k {y : Nat} {B : Nat → Nat} {S : HS} (h : MShp y B S) (j : Nat) (hj : mIn j = true) : hK S (B j) = mLab j := (h.2 j hj).2.1
theorem MShp.n {y : Nat} {B : Nat → Nat} {S : HS} (h : MShp y B S) (j : Nat) (hj : mIn j = true) : hN S (B j) = mLen j := (h.2 j hj).2.2
theorem mLab_gt {j : Nat} (h : mIn j = true) : 14 < mLab j ∧ mLab j ≠ 17 := by
  unfold mIn at h
  simp only [Bool.or_eq_true, Bool.and_eq_true, decide_eq_true_eq] at h
  unfold mLab
  repeat' split
  all_goals omega
theorem mLab_inj {i j : Nat} (hi : mIn i = true) (hj : mIn j = true) (h : i ≠ j) : mLab i ≠ mLab j := by
  unfold mIn at hi hj
  simp only [Bool.or_eq_true, Bool.and_eq_true, decide_eq_true_eq] at hi hj
  unfold mLab
  repeat' split
  all_goals omega
theorem MShp.ne {y : Nat} {B : Nat → Nat} {S : HS} (h : MShp y B S) {i j : Nat} (hi : mIn i = true) (hj : mIn j = true) (hij : i ≠ j) : B i ≠ B j := hK_ne (h.k i hi) (h.k j hj) (mLab_inj hi hj hij)
theorem MShp.ney {y : Nat} {B : Nat → Nat} {S : HS} (h : MShp y B S) {j : Nat} (hj : mIn j = true) : B j ≠ y := hK_ne (h.k j hj) h.ky (mLab_gt hj).2
theorem mIn_f {j : Nat} (h : j < 10) : mIn (j + 11) = true := by
  unfold mIn
  simp only [Bool.or_eq_true, Bool.and_eq_true, decide_eq_true_eq]
  omega
theorem mLab_f {j : Nat} (h : j < 10) : mLab (j + 11) = j + 18 ∧ mLen (j + 11) = 20 := by
  constructor
  · unfold mLab
    repeat' split
    all_goals omega
  · unfold mLen
    repeat' split
    all_goals omega
/-- the model's values -/
def MVl (y : Nat) (B : Nat → Nat) (σ : Sg) (S : HS) : Prop :=
  (hI S 1 y = vg σ 3 ∧ hI S 2 y = vg σ 2 ∧ hI S 3 y = vg σ 0 ∧ hI S 4 y = vg σ 1 ∧ hI S 5 y = vg σ 4 ∧ hI S 6 y = vg σ 5 ∧ hI S 7 y = vg σ 6 ∧ hI S 8 y = nI (vc σ) ∧ hI S 10 y = nI (vn σ)) ∧
  (∀ t, t < 900 → hV S t (B 9) = zI (cldV σ (nI t))) ∧ (∀ k, k < vn σ → ∀ j, j < 10 → hV S k (B (j + 11)) = vt σ k j) ∧ (∀ k, vn σ ≤ k → k < 20 → hV S k (B 19) = 0) ∧ vc σ ≤ 8
/-- what is worked out -/
def MW (y : Nat) (B : Nat → Nat) (σ : Sg) (S : HS) : Prop :=
  (∀ k, k < vn σ → ∀ t, t < lnV σ → hV S (900 * k + t) (B 22) = thV σ k (nI t) ∧ hV S (900 * k + t) (B 23) = nI (rnA σ k t)) ∧ hI S 24 y = nI (pS σ (plV σ)) ∧ ∀ i, i < pS σ (plV σ) → ∀ j, j < 4 → hV S (4 * i + j) (B 25) = pR (plV σ) i j
def MI (y : Nat) (B : Nat → Nat) (σ : Sg) (S : HS) : Prop := MShp y B S ∧ MVl y B σ S ∧ Rng σ ∧ (hI S 21 y = 0 ∨ (hI S 21 y = 1 ∧ MW y B σ S))
theorem MShp.off {y : Nat} {B : Nat → Nat} {S T : HS} (h : MShp y B S) (f : ∀ a, 14 < hK S a → hK T a = hK S a ∧ hN T a = hN S a ∧ ∀ k, hP T k a = hP S k a) : MShp y B T := by
  have fy := f y (by rw [h.ky]; decide)
  refine ⟨fy.1.trans h.ky, fun j hj => ?_⟩
  have fj := f (B j) (by rw [h.k j hj]; exact (mLab_gt hj).1)
  exact ⟨(fy.2.2 j).trans (h.p j hj), fj.1.trans (h.k j hj), fj.2.1.trans (h.n j hj)⟩
/-- the model doesn't see what the class does -/
theorem MI.frc {y : Nat} {B : Nat → Nat} {σ : Sg} {S T : HS} (h : MI y B σ S) (f : FrC S T) : MI y B σ T := by
  obtain ⟨hs, ⟨⟨v1, v2, v3, v4, v5, v6, v7, v8, v10⟩, w9, wt, w19, wc⟩, hr, hw⟩ := h
  have fy := f.1 y (by rw [hs.ky]; decide)
  have fj : ∀ j, mIn j = true → same1 S T (B j) := fun j hj => f.1 (B j) (by rw [hs.k j hj]; have := (mLab_gt hj).1; omega)
  refine ⟨hs.off (fun a ha => ⟨(f.1 a (by omega)).1, (f.1 a (by omega)).2.1, (f.1 a (by omega)).2.2.2.1⟩), ⟨⟨(fy.2.2.1 _).trans v1, (fy.2.2.1 _).trans v2, (fy.2.2.1 _).trans v3, (fy.2.2.1 _).trans v4, (fy.2.2.1 _).trans v5, (fy.2.2.1 _).trans v6, (fy.2.2.1 _).trans v7, (fy.2.2.1 _).trans v8, (fy.2.2.1 _).trans v10⟩, fun t ht => ((fj 9 (Eq.refl _)).2.2.2.2.1 _).trans (w9 t ht), fun k hk j hj => ((fj (j + 11) (mIn_f hj)).2.2.2.2.1 _).trans (wt k hk j hj), fun k h1 h2 => ((fj 19 (Eq.refl _)).2.2.2.2.1 _).trans (w19 k h1 h2), wc⟩, hr, ?_⟩
  rcases hw with q | ⟨q, q1, q2, q3⟩
  · exact Or.inl ((fy.2.2.1 _).trans q)
  · exact Or.inr ⟨(fy.2.2.1 _).trans q, fun k hk t ht => ⟨((fj 22 (Eq.refl _)).2.2.2.2.1 _).trans (q1 k hk t ht).1, ((fj 23 (Eq.refl _)).2.2.2.2.1 _).trans (q1 k hk t ht).2⟩, (fy.2.2.1 _).trans q2, fun i hi j hj => ((fj 25 (Eq.refl _)).2.2.2.2.1 _).trans (q3 i hi j hj)⟩
theorem MShp.w {y : Nat} {B : Nat → Nat} {S : HS} (h : MShp y B S) (I V : Nat → Nat → Int32) : MShp y B (wIV S I V) := h
theorem MShp.sI {y : Nat} {B : Nat → Nat} {S : HS} {k a : Nat} {v : Int32} (h : MShp y B S) : MShp y B (sI S k a v) := h
theorem MShp.sV {y : Nat} {B : Nat → Nat} {S : HS} {k a : Nat} {v : Int32} (h : MShp y B S) : MShp y B (sV S k a v) := h
/-- a field of the model that holds no value of the state: 0 thrown 21 isWorkedOut 24 planned -/
theorem MVl.sI {y : Nat} {B : Nat → Nat} {σ : Sg} {S : HS} {k : Nat} {v : Int32} (h : MVl y B σ S) (hk : k = 0 ∨ k = 21 ∨ k = 24) : MVl y B σ (sI S k y v) := by
  obtain ⟨⟨v1, v2, v3, v4, v5, v6, v7, v8, v10⟩, r⟩ := h
  exact ⟨⟨(hI_nk (by omega)).trans v1, (hI_nk (by omega)).trans v2, (hI_nk (by omega)).trans v3, (hI_nk (by omega)).trans v4, (hI_nk (by omega)).trans v5, (hI_nk (by omega)).trans v6, (hI_nk (by omega)).trans v7, (hI_nk (by omega)).trans v8, (hI_nk (by omega)).trans v10⟩, r⟩
theorem MI.thr {y : Nat} {B : Nat → Nat} {σ : Sg} {S : HS} {v : Int32} (h : MI y B σ S) : MI y B σ (sI S 0 y v) := by
  obtain ⟨hs, hv, hr, hw⟩ := h
  refine ⟨hs.sI, hv.sI (Or.inl (Eq.refl _)), hr, ?_⟩
  rcases hw with q | ⟨q, q1, q2, q3⟩
  · exact Or.inl ((hI_nk (by decide)).trans q)
  · exact Or.inr ⟨(hI_nk (by decide)).trans q, q1, (hI_nk (by decide)).trans q2, q3⟩
theorem frm_thr {y : Nat} {B : Nat → Nat} {S T : HS} {v : Int32} {k : Nat} (f : FrM S T) (h : MShp y B T) : FrM S (sI T k y v) := f.sI (gt14 h.ky (Or.inr (by decide)))
theorem MVl.t {y : Nat} {B : Nat → Nat} {σ : Sg} {S : HS} (h : MVl y B σ S) {k j : Nat} (hk : k < vn σ) (hj : j < 10) : hV S k (B (j + 11)) = vt σ k j := h.2.2.1 k hk j hj
/-- is it a target's number: the model's way of asking -/
theorem isTg_m {n : Nat} {t : Int32} (hn : n ≤ 20) : (0 ≤ t ∧ t ≤ nI n - 1) ↔ isTg n t := by
  rw [isTg_iff hn]
  constructor
  · rintro ⟨h1, h2⟩
    refine ⟨h1, ?_⟩
    obtain ⟨j, hj, rfl⟩ := nI_of (Int32.not_lt.mpr h1)
    cases n with
    | zero => exact absurd (Int32.le_trans h1 h2) (by decide)
    | succ m =>
      rw [nI_pred] at h2
      have := (nI_leI hj (show m < 2147483648 by omega)).mp h2
      exact nI_lt (by omega) (by omega)
  · rintro ⟨h1, h2⟩
    refine ⟨h1, ?_⟩
    obtain ⟨j, hj, rfl⟩ := nI_of (Int32.not_lt.mpr h1)
    have := (nI_ltI hj (show n < 2147483648 by omega)).mp h2
    cases n with
    | zero => omega
    | succ m =>
      rw [nI_pred]
      exact (nI_leI hj (show m < 2147483648 by omega)).mpr (by omega)
