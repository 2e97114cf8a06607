/-! the model's setters: the heap -/
def MX (y : Nat) (B : Nat → Nat) (σ : Sg) (S T : HS) (c : Int32) : Prop := MI y B σ T ∧ FrM S T ∧ hI T 0 y = c
theorem m_comp {y s s' g g' : Nat} {σ : Sg} {S : HS} {v : Int32} (h : hI S s' y = vg σ g') (e : s' = s ↔ g' = g) : hI (sI S s y v) s' y = vg (setG σ g v) g' := by
  by_cases c : s' = s
  · have c2 := e.mp c
    subst c c2
    exact (hI_same _ _ _ _).trans (setG_same _ _ _).symm
  · exact (hI_nk c).trans (h.trans (setG_ne (fun z => c (e.mpr z))).symm)
theorem mvl_setg {y : Nat} {B : Nat → Nat} {σ : Sg} {S : HS} {s g : Nat} {v : Int32} (h : MVl y B σ S) (hg : (s = 1 ∧ g = 3) ∨ (s = 2 ∧ g = 2) ∨ (s = 3 ∧ g = 0) ∨ (s = 4 ∧ g = 1) ∨ (s = 5 ∧ g = 4) ∨ (s = 6 ∧ g = 5) ∨ (s = 7 ∧ g = 6)) : MVl y B (setG σ g v) (sI S s y v) := by
  obtain ⟨⟨v1, v2, v3, v4, v5, v6, v7, v8, v10⟩, r⟩ := h
  exact ⟨⟨m_comp v1 (by omega), m_comp v2 (by omega), m_comp v3 (by omega), m_comp v4 (by omega), m_comp v5 (by omega), m_comp v6 (by omega), m_comp v7 (by omega), (hI_nk (by omega)).trans v8, (hI_nk (by omega)).trans v10⟩, r⟩
theorem MI.of0 {y : Nat} {B : Nat → Nat} {σ : Sg} {S : HS} (hs : MShp y B S) (hv : MVl y B σ S) (hr : Rng σ) : MI y B σ (sI S 21 y 0) := ⟨hs.sI, hv.sI (Or.inr (Or.inl rfl)), hr, Or.inl (hI_same _ _ _ _)⟩
theorem MVl.cong {y : Nat} {B : Nat → Nat} {σ σ' : Sg} {S : HS} (h : MVl y B σ S) (h1 : ∀ i, i < 7 → vg σ' i = vg σ i) (h2 : vn σ' = vn σ) (h3 : vc σ' = vc σ) (h4 : ∀ t, t < 900 → cldV σ' (nI t) = cldV σ (nI t)) (h5 : ∀ k, k < vn σ → ∀ j, j < 10 → vt σ' k j = vt σ k j) : MVl y B σ' S := by
  obtain ⟨⟨v1, v2, v3, v4, v5, v6, v7, v8, v10⟩, w9, wt, w19, wc⟩ := h
  refine ⟨⟨v1.trans (h1 3 (by decide)).symm, v2.trans (h1 2 (by decide)).symm, v3.trans (h1 0 (by decide)).symm, v4.trans (h1 1 (by decide)).symm, v5.trans (h1 4 (by decide)).symm, v6.trans (h1 5 (by decide)).symm, v7.trans (h1 6 (by decide)).symm, v8.trans (by rw [h3]), v10.trans (by rw [h2])⟩, fun t ht => (w9 t ht).trans (by rw [h4 t ht]), fun k hk j hj => ?_, fun k a b => w19 k (by rw [h2] at a; exact a) b, by rw [h3]; exact wc⟩
  rw [h2] at hk
  exact (wt k hk j hj).trans (h5 k hk j hj).symm
/-- only places of the model's arrays differ: what they hold -/
def mU (S : HS) (y : Nat) (B : Nat → Nat) (Vf : Nat → Nat → Int32) (T : HS) : Prop := MShp y B T ∧ FrM S T ∧ (∀ j, hI T j y = hI S j y) ∧ ∀ i, mIn i = true → ∀ k, hV T k (B i) = Vf k i
theorem mU.rfl {S : HS} {y : Nat} {B : Nat → Nat} (h : MShp y B S) : mU S y B (fun k i => hV S k (B i)) S := ⟨h, FrM.rfl, fun _ => Eq.refl _, fun _ _ _ => Eq.refl _⟩
theorem mU.sV {S T : HS} {y : Nat} {B : Nat → Nat} {Vf : Nat → Nat → Int32} {n i : Nat} {v : Int32} (h : mU S y B Vf T) (hi : mIn i = true) : mU S y B (up2 Vf n i v) (sV T n (B i) v) := by
  obtain ⟨h1, h2, h3, h4⟩ := h
  refine ⟨h1.sV, h2.sV (gt14 (h1.k i hi) (Or.inr (mLab_gt hi).1)), h3, fun j hj k => ?_⟩
  by_cases c : k = n ∧ j = i
  · obtain ⟨c1, c2⟩ := c
    subst c1 c2
    rw [up2_same]
    exact hV_same _ _ _ _
  · have e : up2 Vf n i v k j = Vf k j := if_neg c
    rw [e, ← h4 j hj k]
    by_cases c1 : j = i
    · exact hV_nk (fun z => c ⟨z, c1⟩)
    · exact hV_na (h1.ne hj hi c1)
theorem mU.vl {S T : HS} {y : Nat} {B : Nat → Nat} {Vf : Nat → Nat → Int32} {σ σ' : Sg} (h : mU S y B Vf T) (hv : MVl y B σ S) (h1 : ∀ i, i < 7 → vg σ' i = vg σ i) (h2 : vn σ' = vn σ) (h3 : vc σ' = vc σ) (h9 : ∀ t, t < 900 → Vf t 9 = zI (cldV σ' (nI t))) (h4 : ∀ k, k < vn σ → ∀ j, j < 10 → Vf k (j + 11) = vt σ' k j) (h5 : ∀ k, vn σ ≤ k → k < 20 → Vf k 19 = 0) : MVl y B σ' T := by
  obtain ⟨u1, u2, u3, u4⟩ := h
  obtain ⟨⟨v1, v2, v3, v4, v5, v6, v7, v8, v10⟩, w9, wt, w19, wc⟩ := hv
  refine ⟨⟨(u3 _).trans (v1.trans (h1 3 (by decide)).symm), (u3 _).trans (v2.trans (h1 2 (by decide)).symm), (u3 _).trans (v3.trans (h1 0 (by decide)).symm), (u3 _).trans (v4.trans (h1 1 (by decide)).symm), (u3 _).trans (v5.trans (h1 4 (by decide)).symm), (u3 _).trans (v6.trans (h1 5 (by decide)).symm), (u3 _).trans (v7.trans (h1 6 (by decide)).symm), (u3 _).trans (v8.trans (by rw [h3])), (u3 _).trans (v10.trans (by rw [h2]))⟩, fun t ht => (u4 9 (Eq.refl _) t).trans (h9 t ht), fun k hk j hj => ?_, fun k a b => (u4 19 (Eq.refl _) k).trans (h5 k (by rw [h2] at a; exact a) b), by rw [h3]; exact wc⟩
  rw [h2] at hk
  exact (u4 (j + 11) (mIn_f hj) k).trans (h4 k hk j hj)
/-- clouds more -/
theorem cld_add (σ : Sg) (v w : Int32) (t : Int32) : cldV (addC σ v w) t = (cldV σ t || (decide (v ≤ t) && decide (t ≤ w))) := by
  unfold cldV
  show cvB (fun i => if i = vc σ then v else vf σ i) (fun i => if i = vc σ then w else vo σ i) (vc σ + 1) t = _
  rw [cvB, if_pos rfl, if_pos rfl]
  rw [cvB_congr (m := vc σ) (t := t) (ff := fun i => if i = vc σ then v else vf σ i) (tt := fun i => if i = vc σ then w else vo σ i) (ff' := vf σ) (tt' := vo σ) (fun i hi => ⟨if_neg (by omega), if_neg (by omega)⟩)]
theorem cld_clr (σ : Sg) (t : Int32) : cldV (clrC σ) t = false := rfl
theorem cld_setG (σ : Sg) (i : Nat) (v t : Int32) : cldV (setG σ i v) t = cldV σ t := rfl
/-- .. what has no label aside -/
theorem FrM.ofE {S T : HS} (h : ext S T) : FrM S T := ⟨fun a h0 _ => h a h0, fun a h0 => (h a h0).1⟩
theorem MI.ofE {y : Nat} {B : Nat → Nat} {σ : Sg} {S T : HS} (h : MI y B σ S) (f : ext S T) : MI y B σ T := by
  obtain ⟨hs, ⟨⟨v1, v2, v3, v4, v5, v6, v7, v8, v10⟩, w9, wt, w19, wc⟩, hr, hw⟩ := h
  have fy := f y (by rw [hs.ky]; decide)
  have fj : ∀ j, mIn j = true → same1 S T (B j) := fun j hj => f (B j) (by rw [hs.k j hj]; have := (mLab_gt hj).1; omega)
  refine ⟨hs.off (fun a ha => ⟨(f a (by omega)).1, (f a (by omega)).2.1, (f a (by omega)).2.2.2.1⟩), ⟨⟨(fy.2.2.1 _).trans v1, (fy.2.2.1 _).trans v2, (fy.2.2.1 _).trans v3, (fy.2.2.1 _).trans v4, (fy.2.2.1 _).trans v5, (fy.2.2.1 _).trans v6, (fy.2.2.1 _).trans v7, (fy.2.2.1 _).trans v8, (fy.2.2.1 _).trans v10⟩, fun t ht => ((fj 9 (Eq.refl _)).2.2.2.2.1 _).trans (w9 t ht), fun k hk j hj => ((fj (j + 11) (mIn_f hj)).2.2.2.2.1 _).trans (wt k hk j hj), fun k h1 h2 => ((fj 19 (Eq.refl _)).2.2.2.2.1 _).trans (w19 k h1 h2), wc⟩, hr, ?_⟩
  rcases hw with q | ⟨q, q1, q2, q3⟩
  · exact Or.inl ((fy.2.2.1 _).trans q)
  · exact Or.inr ⟨(fy.2.2.1 _).trans q, fun k hk t ht => ⟨((fj 22 (Eq.refl _)).2.2.2.2.1 _).trans (q1 k hk t ht).1, ((fj 23 (Eq.refl _)).2.2.2.2.1 _).trans (q1 k hk t ht).2⟩, (fy.2.2.1 _).trans q2, fun i hi j hj => ((fj 25 (Eq.refl _)).2.2.2.2.1 _).trans (q3 i hi j hj)⟩
/-- the plan's rows name the targets in it, each once; their minutes together -/
def smV (σ : Sg) (π : Pl) : Nat → Int32
  | 0 => 0
  | i + 1 => smV σ π i + vt σ (pR π i 0).toNatClampNeg 5
def PW (σ : Sg) (π : Pl) : Prop := (∀ i, i < pS σ π → ∃ g, g < vn σ ∧ pR π i 0 = nI g ∧ pU π g = true) ∧ (∀ i i', i < pS σ π → i' < pS σ π → pR π i 0 = pR π i' 0 → i = i') ∧ (∀ g, g < vn σ → pU π g = true → ∃ i, i < pS σ π ∧ pR π i 0 = nI g) ∧ pM π = smV σ π (pS σ π)
theorem smV_congr {σ : Sg} {π π' : Pl} : ∀ {n : Nat}, (∀ i, i < n → pR π' i 0 = pR π i 0) → smV σ π' n = smV σ π n
  | 0, _ => rfl
  | n + 1, h => by rw [smV, smV, smV_congr (n := n) (fun i hi => h i (by omega)), h n (by omega)]
theorem PW.tk {σ : Sg} (hr : Rng σ) {π : Pl} {g : Nat} {m : Int32} (h : PW σ π) (hg : g < vn σ) (hu : pU π g = false) : PW σ (tkV σ π g m) := by
  obtain ⟨h1, h2, h3, h4⟩ := h
  have n20 : vn σ ≤ 20 := hr.2.2.2.2.2.2.2.1
  have hp : pS σ (tkV σ π g m) = pS σ π + 1 := ctU_mk hg hu
  have rn : pR (tkV σ π g m) (pS σ π) 0 = nI g := (if_pos rfl)
  have ro : ∀ i, i < pS σ π → pR (tkV σ π g m) i 0 = pR π i 0 := fun i hi => if_neg (by omega)
  have un : pU (tkV σ π g m) g = true := if_pos rfl
  have uo : ∀ k, k ≠ g → pU (tkV σ π g m) k = pU π k := fun k hk => if_neg hk
  refine ⟨fun i hi => ?_, fun i i' hi hi' e => ?_, fun k hk hku => ?_, ?_⟩
  · by_cases c : i = pS σ π
    · subst c; exact ⟨g, hg, rn, un⟩
    · obtain ⟨g', q1, q2, q3⟩ := h1 i (by omega)
      refine ⟨g', q1, (ro i (by omega)).trans q2, ?_⟩
      rw [uo g' (fun z => by rw [z, hu] at q3; exact absurd q3 (by decide))]
      exact q3
  · by_cases c : i = pS σ π
    · by_cases c' : i' = pS σ π
      · omega
      · rw [c, rn, ro i' (by omega)] at e
        obtain ⟨g', q1, q2, q3⟩ := h1 i' (by omega)
        rw [q2] at e
        have := nI_inj (by omega) (by omega) e
        rw [← this, hu] at q3
        exact absurd q3 (by decide)
    · by_cases c' : i' = pS σ π
      · rw [c', rn, ro i (by omega)] at e
        obtain ⟨g', q1, q2, q3⟩ := h1 i (by omega)
        rw [q2] at e
        have := nI_inj (by omega) (by omega) e
        rw [this, hu] at q3
        exact absurd q3 (by decide)
      · rw [ro i (by omega), ro i' (by omega)] at e
        exact h2 i i' (by omega) (by omega) e
  · by_cases c : k = g
    · subst c; exact ⟨pS σ π, by omega, rn⟩
    · rw [uo k c] at hku
      obtain ⟨i, q1, q2⟩ := h3 k hk hku
      exact ⟨i, by omega, (ro i q1).trans q2⟩
  · rw [hp, smV, smV_congr ro, rn, nI_clamp (by omega), ← h4]
    rfl
theorem PW.pl {σ : Sg} (hr : Rng σ) : ∀ (n : Nat) (π : Pl), PW σ π → PW σ (plF σ n π)
  | 0, π, h => h
  | n + 1, π, h => by
    rw [plF]
    by_cases c : pT π < lnV σ
    · rw [if_pos c]
      refine PW.pl hr n _ ?_
      unfold stV
      rcases hb : bsV σ (nI (pT π)) (pF π) (pU π) (vn σ) with ⟨_ | g, mb⟩
      · obtain ⟨h1, h2, h3, h4⟩ := h
        show PW σ (pT π + 1, π.2)
        exact ⟨h1, h2, h3, h4.trans (smV_congr (π := π) (π' := (pT π + 1, π.2)) (fun _ _ => rfl)).symm⟩
      · exact h.tk hr (bs_lt hb).1 (bs_open hb).1
    · rw [if_neg c]
      exact h
theorem PW.v {σ : Sg} (hr : Rng σ) : PW σ (plV σ) := by
  refine PW.pl hr _ _ ?_
  have c0 : ∀ n, ctU (pU π0) n = 0 := fun n => by
    induction n with
    | zero => rfl
    | succ n ih => unfold ctU; rw [ih, if_neg (show ¬ pU π0 n = true from Bool.false_ne_true)]
  have p0 : pS σ π0 = 0 := c0 _
  refine ⟨fun i hi => absurd hi (by omega), fun i i' hi => absurd hi (by omega), fun g _ hu => absurd hu Bool.false_ne_true, by rw [p0]; rfl⟩
