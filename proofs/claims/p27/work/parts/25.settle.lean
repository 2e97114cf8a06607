/-! making the plan: what changes, what stays -/
/-- only outlooks, runs, the plan, its rows and the marks of the targets differ -/
def FrP (S T : HS) : Prop := (∀ a, hK T a = hK S a) ∧ (∀ a, hN T a = hN S a) ∧ (∀ k a, hL T k a = hL S k a) ∧ (∀ k a, (hK S a = 4 → k ≠ 4) → hP T k a = hP S k a) ∧ (∀ j a, hK S a ≠ 3 → hK S a ≠ 4 → (hK S a = 6 → j ≠ 11) → hI T j a = hI S j a) ∧ (∀ j a, hK S a ≠ 10 → hK S a ≠ 11 → hV T j a = hV S j a)
theorem FrP.rfl {S : HS} : FrP S S := ⟨fun _ => Eq.refl _, fun _ => Eq.refl _, fun _ _ => Eq.refl _, fun _ _ _ => Eq.refl _, fun _ _ _ _ _ => Eq.refl _, fun _ _ _ _ => Eq.refl _⟩
theorem FrP.trans {S T U : HS} (h : FrP S T) (g : FrP T U) : FrP S U := by
  obtain ⟨h1, h2, h3, h4, h5, h6⟩ := h
  obtain ⟨g1, g2, g3, g4, g5, g6⟩ := g
  refine ⟨fun a => (g1 a).trans (h1 a), fun a => (g2 a).trans (h2 a), fun k a => (g3 k a).trans (h3 k a), fun k a q => (g4 k a (by rw [h1]; exact q)).trans (h4 k a q), fun j a q1 q2 q3 => (g5 j a (by rw [h1]; exact q1) (by rw [h1]; exact q2) (by rw [h1]; exact q3)).trans (h5 j a q1 q2 q3), fun j a q1 q2 => (g6 j a (by rw [h1]; exact q1) (by rw [h1]; exact q2)).trans (h6 j a q1 q2)⟩
theorem FrP.shp {G : JG} {x n : Nat} {A : Nat → Nat → Nat} {S T : HS} (hs : Shp G x A n S) (h : FrP S T) (hp : ∀ q, hP T 4 (A 0 7) = some q → ∃ k, k < n ∧ q = A 1 k) : Shp G x A n T := by
  obtain ⟨h1, h2, -, h4, -, -⟩ := h
  have pp : ∀ {k a n v}, hK S a = n → n ≠ 4 → hP S k a = v → hP T k a = v := fun q1 q2 q3 => (h4 _ _ (fun z => absurd (q1.symm.trans z) q2)).trans q3
  have pk : ∀ {k a v}, k ≠ 4 → hP S k a = v → hP T k a = v := fun q1 q3 => (h4 _ _ (fun _ => q1)).trans q3
  refine ⟨⟨(h1 _).trans hs.kx, pk (by decide) hs.pz, (h1 _).trans hs.kz, pk (by decide) hs.pm, (h1 _).trans hs.km⟩, ⟨pk (by decide) hs.pc, (h1 _).trans hs.kc, pk (by decide) hs.pf, (h1 _).trans hs.kf, (h2 _).trans hs.nf, pk (by decide) hs.pt, (h1 _).trans hs.kt, (h2 _).trans hs.nt⟩,
    ⟨pk (by decide) hs.pl, (h1 _).trans hs.kl, pk (by decide) hs.pe, hs.n20, ?_⟩, ⟨pk (by decide) hs.pp, (h1 _).trans hs.kp, pk (by decide) hs.pr, (h1 _).trans hs.kr, (h2 _).trans hs.nr⟩, fun i hi => ⟨pp hs.kr (by decide) (hs.row hi), (h1 _).trans (hs.krow hi), (h2 _).trans (hs.nrow hi)⟩, fun i j hi hj e => hs.irow hi hj e,
    fun k hk => ⟨pp (hs.ked hk) (by decide) (hs.pg hk), (h1 _).trans (hs.kg hk), pk (by decide) (hs.ppt hk), (h1 _).trans (hs.kpt hk), pk (by decide) (hs.po hk), (h1 _).trans (hs.ko hk), pk (by decide) (hs.pru hk), (h1 _).trans (hs.kru hk), (h2 _).trans (hs.nru hk)⟩, fun i j hi hj e => hs.inj hi hj e, hp⟩
  rcases hs.ed with q | ⟨q1, q2, q3⟩
  · exact Or.inl q
  · refine Or.inr ⟨(h1 _).trans q1, by rw [h2]; exact q2, by rw [h2]; exact q3⟩
theorem FrP.vl {G : JG} {x : Nat} {A : Nat → Nat → Nat} {σ : Sg} {S T : HS} (hs : Shp G x A (vn σ) S) (hv : Vl x A σ S) (h : FrP S T) : Vl x A σ T := by
  obtain ⟨-, -, -, -, h5, h6⟩ := h
  exact Vl.w (I := hI T) (V := hV T) hs hv h5 h6
def OutOK (A : Nat → Nat → Nat) (σ : Sg) (k : Nat) (T : HS) : Prop := (∀ j, 2 ≤ j → j < 8 → hI T j (A 3 k) = oF σ k (lnV σ) (lnV σ) j) ∧ (∀ i, i < 900 → hV T i (A 4 k) = nI (rnA σ k i))
def PlOK (A : Nat → Nat → Nat) (σ : Sg) (π : Pl) (T : HS) : Prop := PlR A σ (pF π) (pU π) T ∧ hI T 3 (A 0 7) = pM π ∧ ∀ i, i < pS σ π → ∀ j, j < 4 → hV T j (A 5 i) = pR π i j
/-- on the way through the night -/
def stI (A : Nat → Nat → Nat) (σ : Sg) (S : HS) (π : Pl) (T : HS) : Prop := FrP S T ∧ PlOK A σ π T ∧ (∀ k, k < vn σ → hI T 1 (A 3 k) = 1 ∧ OutOK A σ k T) ∧ pT π ≤ 1100
theorem PlOK.pnt {A : Nat → Nat → Nat} {σ : Sg} {π : Pl} {T : HS} (h : PlOK A σ π T) : ∀ q, hP T 4 (A 0 7) = some q → ∃ k, k < vn σ ∧ q = A 1 k := by
  intro q e
  obtain ⟨⟨h1, h2, -, -⟩, -, -⟩ := h
  rw [h1] at e
  cases ef : pF π with
  | none => rw [ef] at e; cases e
  | some g => rw [ef] at e; cases e; exact ⟨g, h2 g ef, Eq.refl _⟩
/-- a target is taken: the heap and the plan keep together -/
theorem tk_step {G : JG} {x : Nat} {A : Nat → Nat → Nat} {σ : Sg} {S T : HS} {π : Pl} (hs : Shp G x A (vn σ) S) (hv : Vl x A σ S) (hr : Rng σ) (h : stI A σ S π T) {g : Nat} {m : Int32} (ht : pT π < lnV σ) (hb : bsV σ (nI (pT π)) (pF π) (pU π) (vn σ) = (some g, m)) : stI A σ S (tkV σ π g m) (tkS A T g (nI (pT π)) (wtV σ (pF π) g) m) := by
  obtain ⟨hF, hP0, hO, hT⟩ := h
  have hsT := hF.shp hs hP0.pnt
  have hvT := hF.vl hs hv
  obtain ⟨⟨p1, p2, p3, p4⟩, p5, p6⟩ := hP0
  obtain ⟨hg, -, -⟩ := bs_lt hb
  obtain ⟨hu, -, -⟩ := bs_open hb
  have hc := ctU_lt hg hu
  have n20 := hs.n20
  have hidx : (hI T 2 (A 0 7)).toNatClampNeg = ctU (pU π) (vn σ) := by rw [p4, nI_clamp (by omega)]
  have hln := hr.ln
  have htk := tk_t (m := m) hr hg p2 (show pT π ≤ 900 by omega)
  obtain ⟨q1, q2, q3⟩ := htk
  have tg := hvT.tg hg
  have kp := hsT.kp
  have kg := hsT.kg hg
  have krow : ∀ {i}, i < 20 → hK T (A 5 i) = 11 := fun hi => hsT.krow hi
  -- the frame
  have hFr : FrP T (tkS A T g (nI (pT π)) (wtV σ (pF π) g) m) := by
    unfold tkS
    rw [hidx]
    refine ⟨fun _ => Eq.refl _, fun _ => Eq.refl _, fun _ _ => Eq.refl _, fun k a q => ?_, fun j a r1 r2 r3 => ?_, fun j a r1 r2 => ?_⟩
    · rw [hP_sP]
      refine (if_neg (fun z => ?_)).trans (Eq.refl _)
      exact q (by rw [z.2]; exact kp) z.1
    · rw [hI_sP, hI_sI, if_neg (fun z => r3 (by rw [z.2]; exact kg) z.1), hI_sI, if_neg (fun z => r2 (by rw [z.2]; exact kp)), hI_sI, if_neg (fun z => r2 (by rw [z.2]; exact kp))]; exact Eq.refl _
    · have hne : a ≠ A 5 (ctU (pU π) (vn σ)) := fun z => r2 (by rw [z]; exact krow (by omega))
      rw [hV_sP, hV_sI, hV_sI, hV_sI, hV_na hne, hV_na hne, hV_na hne, hV_na hne]
  refine ⟨hF.trans hFr, ⟨⟨?_, ?_, fun k hk => ?_, ?_⟩, ?_, fun i hi j hj => ?_⟩, fun k hk => ?_, by omega⟩
  · show hP (sP _ 4 (A 0 7) (some (A 1 g))) 4 (A 0 7) = _
    rw [hP_same]; exact Eq.refl _
  · intro g' e
    cases e
    exact hg
  · show hI (sI _ 11 (A 1 g) 1) 11 (A 1 k) = zI (mkU (pU π) g k)
    by_cases e : k = g
    · subst e
      rw [hI_same, show mkU (pU π) k k = true from if_pos (Eq.refl _)]; exact Eq.refl _
    · rw [hI_na (fun z => e (hsT.inj hk hg (Or.inl z))), show mkU (pU π) g k = pU π k from if_neg e]
      exact p3 k hk
  · show hI (sI (sI (sI _ 2 (A 0 7) (hI T 2 (A 0 7) + 1)) 3 (A 0 7) (hI T 3 (A 0 7) + hI T 4 (A 1 g))) 11 (A 1 g) 1) 2 (A 0 7) = nI (ctU (mkU (pU π) g) (vn σ))
    rw [hI_nk (by decide), hI_nk (by decide), hI_same, p4, ctU_mk hg hu, nI_1]
  · show hI (sI (sI _ 3 (A 0 7) (hI T 3 (A 0 7) + hI T 4 (A 1 g))) 11 (A 1 g) 1) 3 (A 0 7) = pM π + vt σ g 5
    rw [hI_nk (by decide), hI_same, p5, tg.2.2.2.1]
  · have hi' : i < ctU (mkU (pU π) g) (vn σ) := hi
    rw [ctU_mk hg hu] at hi'
    show hV (sV (sV (sV (sV T 0 (A 5 (hI T 2 (A 0 7)).toNatClampNeg) (hI T 0 (A 1 g))) 1 (A 5 (hI T 2 (A 0 7)).toNatClampNeg) (nI (pT π) + wtV σ (pF π) g)) 2 (A 5 (hI T 2 (A 0 7)).toNatClampNeg) (wtV σ (pF π) g)) 3 (A 5 (hI T 2 (A 0 7)).toNatClampNeg) m) j (A 5 i) = (if i = pS σ π then rowV σ (nI (pT π)) (pF π) g m j else pR π i j)
    rw [hidx]
    by_cases e : i = pS σ π
    · rw [if_pos e]
      unfold pS at e
      rw [e]
      rcases (show j = 0 ∨ j = 1 ∨ j = 2 ∨ j = 3 by omega) with rfl | rfl | rfl | rfl
      · rw [hV_nk (by decide), hV_nk (by decide), hV_nk (by decide), hV_same, tg.1]; exact Eq.refl _
      · rw [hV_nk (by decide), hV_nk (by decide), hV_same]; exact Eq.refl _
      · rw [hV_nk (by decide), hV_same]; exact Eq.refl _
      · rw [hV_same]; exact Eq.refl _
    · rw [if_neg e]
      unfold pS at e
      have hne : A 5 i ≠ A 5 (ctU (pU π) (vn σ)) := fun z => e (hsT.irow (by omega) (by omega) z)
      rw [hV_na hne, hV_na hne, hV_na hne, hV_na hne]
      exact p6 i (by unfold pS; omega) j hj
  · obtain ⟨o1, o2, o3⟩ := hO k hk
    have ko := hsT.ko hk
    have n1 : A 3 k ≠ A 0 7 := hK_ne ko kp (by decide)
    have n2 : A 3 k ≠ A 1 g := hK_ne ko kg (by decide)
    have n3 : A 4 k ≠ A 5 (ctU (pU π) (vn σ)) := hK_ne (hsT.kru hk) (krow (by omega)) (by decide)
    have eI : ∀ j, hI (tkS A T g (nI (pT π)) (wtV σ (pF π) g) m) j (A 3 k) = hI T j (A 3 k) := fun j => by
      show hI (sI (sI (sI _ 2 (A 0 7) _) 3 (A 0 7) _) 11 (A 1 g) 1) j (A 3 k) = _
      rw [hI_na n2, hI_na n1, hI_na n1]; exact Eq.refl _
    refine ⟨(eI 1).trans o1, fun j h2 h8 => (eI j).trans (o2 j h2 h8), fun i hi => ?_⟩
    rw [← o3 i hi]
    show hV (sV (sV (sV (sV T 0 (A 5 (hI T 2 (A 0 7)).toNatClampNeg) _) 1 (A 5 (hI T 2 (A 0 7)).toNatClampNeg) _) 2 (A 5 (hI T 2 (A 0 7)).toNatClampNeg) _) 3 (A 5 (hI T 2 (A 0 7)).toNatClampNeg) m) i (A 4 k) = _
    rw [hidx, hV_na n3, hV_na n3, hV_na n3, hV_na n3]
/-- a turn of the night's loop -/
theorem st_step {G : JG} {x : Nat} {A : Nat → Nat → Nat} {σ : Sg} {S T T' : HS} {π : Pl} {r : Int32} (hs : Shp G x A (vn σ) S) (hv : Vl x A σ S) (hr : Rng σ) (h : stI A σ S π T) (ht : pT π < lnV σ)
    (e : ((bsV σ (nI (pT π)) (pF π) (pU π) (vn σ)).1 = none ∧ r = nI (pT π) ∧ T' = T) ∨ ∃ g m, bsV σ (nI (pT π)) (pF π) (pU π) (vn σ) = (some g, m) ∧ r = nI (pT π) + wtV σ (pF π) g + vt σ g 5 ∧ T' = tkS A T g (nI (pT π)) (wtV σ (pF π) g) m) :
    stI A σ S (stV σ π) T' ∧ (if nI (pT π) + 1 < r then r else nI (pT π) + 1) = nI (pT (stV σ π)) ∧ pT π < pT (stV σ π) := by
  have hln := hr.ln
  unfold stV
  rcases e with ⟨e1, e2, e3⟩ | ⟨g, m, e1, e2, e3⟩
  · rcases hb : bsV σ (nI (pT π)) (pF π) (pU π) (vn σ) with ⟨b, mb⟩
    rw [hb] at e1
    replace e1 : b = none := e1
    subst e1
    rw [e3, e2]
    obtain ⟨h1, h2, h3, h4⟩ := h
    refine ⟨⟨h1, h2, h3, show pT π + 1 ≤ 1100 by omega⟩, ?_, show pT π < pT π + 1 by omega⟩
    rw [nI_1, if_neg (nI_nlt (by omega) (by omega))]
  · rw [e1, e3]
    have htk := tk_t (m := m) hr (bs_lt e1).1 h.2.1.1.2.1 (show pT π ≤ 900 by omega)
    refine ⟨tk_step hs hv hr h ht e1, ?_, show pT π < pT (tkV σ π g m) by omega⟩
    rw [e2, htk.2.2, nI_1, if_pos (nI_lt (by omega) (by omega))]
/-- caches: an outlook that stands is right -/
def OcI (A : Nat → Nat → Nat) (σ : Sg) (T : HS) : Prop := ∀ k, k < vn σ → hI T 1 (A 3 k) = 0 ∨ (hI T 1 (A 3 k) = 1 ∧ OutOK A σ k T)
/-- the first targets are surveyed -/
def svI (A : Nat → Nat → Nat) (σ : Sg) (S : HS) (i : Nat) (T : HS) : Prop := FrP S T ∧ hP T 4 (A 0 7) = none ∧ hI T 2 (A 0 7) = 0 ∧ hI T 3 (A 0 7) = 0 ∧ (∀ k, k < i → hI T 11 (A 1 k) = 0 ∧ hI T 1 (A 3 k) = 1) ∧ OcI A σ T
theorem sv_frp {G : JG} {x : Nat} {A : Nat → Nat → Nat} {n k : Nat} {T : HS} (hs : Shp G x A n T) (hk : k < n) {I V : Nat → Nat → Int32} (h1 : ∀ j a, a ≠ A 3 k → I j a = hI T j a) (h2 : ∀ j a, a ≠ A 4 k → V j a = hV T j a) : FrP T (wIV T I V) :=
  ⟨fun _ => Eq.refl _, fun _ => Eq.refl _, fun _ _ => Eq.refl _, fun _ _ _ => Eq.refl _, fun j a q1 _ _ => h1 j a (fun z => q1 (by rw [z]; exact hs.ko hk)), fun j a q1 _ => h2 j a (fun z => q1 (by rw [z]; exact hs.kru hk))⟩
theorem mark_frp {G : JG} {x : Nat} {A : Nat → Nat → Nat} {n k : Nat} {T : HS} (hs : Shp G x A n T) (hk : k < n) {v : Int32} : FrP T (sI T 11 (A 1 k) v) :=
  ⟨fun _ => Eq.refl _, fun _ => Eq.refl _, fun _ _ => Eq.refl _, fun _ _ _ => Eq.refl _, fun j a _ _ q3 => by rw [hI_sI, if_neg (fun z => q3 (by rw [z.2]; exact hs.kg hk) z.1)], fun _ _ _ _ => Eq.refl _⟩
theorem clear_frp {G : JG} {x : Nat} {A : Nat → Nat → Nat} {n : Nat} {T : HS} (hs : Shp G x A n T) : FrP T (sP (sI (sI T 2 (A 0 7) 0) 3 (A 0 7) 0) 4 (A 0 7) none) :=
  ⟨fun _ => Eq.refl _, fun _ => Eq.refl _, fun _ _ => Eq.refl _, fun k a q => by rw [hP_sP, if_neg (fun z => q (by rw [z.2]; exact hs.kp) z.1)]; exact Eq.refl _, fun j a _ q2 _ => by
    have hne : a ≠ A 0 7 := fun z => q2 (by rw [z]; exact hs.kp)
    rw [hI_sP, hI_na hne, hI_na hne], fun _ _ _ _ => Eq.refl _⟩
/-- marking k: everything else as it was -/
theorem mark_step {G : JG} {x : Nat} {A : Nat → Nat → Nat} {σ : Sg} {S T : HS} {i : Nat} (hsT : Shp G x A (vn σ) T) (hi : i < vn σ) (h : svI A σ S i T) : FrP S (sI T 11 (A 1 i) 0) ∧ hP (sI T 11 (A 1 i) 0) 4 (A 0 7) = none ∧ hI (sI T 11 (A 1 i) 0) 2 (A 0 7) = 0 ∧ hI (sI T 11 (A 1 i) 0) 3 (A 0 7) = 0 ∧ (∀ k, k < i → hI (sI T 11 (A 1 i) 0) 11 (A 1 k) = 0 ∧ hI (sI T 11 (A 1 i) 0) 1 (A 3 k) = 1) ∧ hI (sI T 11 (A 1 i) 0) 11 (A 1 i) = 0 ∧ OcI A σ (sI T 11 (A 1 i) 0) := by
  obtain ⟨h1, h2, h3, h4, h5, h6⟩ := h
  refine ⟨h1.trans (mark_frp hsT hi), h2, (hI_nk (by decide)).trans h3, (hI_nk (by decide)).trans h4, fun k hk => ⟨?_, (hI_nk (by decide)).trans (h5 k hk).2⟩, hI_same _ _ _ _, fun k hk => ?_⟩
  · by_cases e : k = i
    · omega
    · rw [hI_na (fun z => e (hsT.inj (by omega) hi (Or.inl z)))]; exact (h5 k hk).1
  · have eI : ∀ j, hI (sI T 11 (A 1 i) 0) j (A 3 k) = hI T j (A 3 k) := fun j => hI_na (hK_ne (hsT.ko hk) (hsT.kg hi) (by decide))
    rcases h6 k hk with q | ⟨q1, q2, q3⟩
    · exact Or.inl ((eI 1).trans q)
    · exact Or.inr ⟨(eI 1).trans q1, fun j h2 h8 => (eI j).trans (q2 j h2 h8), fun j hj => q3 j hj⟩
/-- .. and surveying it -/
theorem survey_step {G : JG} {x : Nat} {A : Nat → Nat → Nat} {σ : Sg} {S T : HS} {i : Nat} {I V : Nat → Nat → Int32} (hsT : Shp G x A (vn σ) T) (hi : i < vn σ)
    (h : FrP S T ∧ hP T 4 (A 0 7) = none ∧ hI T 2 (A 0 7) = 0 ∧ hI T 3 (A 0 7) = 0 ∧ (∀ k, k < i → hI T 11 (A 1 k) = 0 ∧ hI T 1 (A 3 k) = 1) ∧ hI T 11 (A 1 i) = 0 ∧ OcI A σ T)
    (h1 : ∀ j a, a ≠ A 3 i → I j a = hI T j a) (h2 : I 1 (A 3 i) = 1) (h3 : ∀ j, 2 ≤ j → j < 8 → I j (A 3 i) = oF σ i (lnV σ) (lnV σ) j) (h4 : ∀ j a, a ≠ A 4 i → V j a = hV T j a) (h5 : ∀ j, j < 900 → V j (A 4 i) = nI (rnA σ i j)) : svI A σ S (i + 1) (wIV T I V) := by
  obtain ⟨q1, q2, q3, q4, q5, q6, q7⟩ := h
  have np : A 0 7 ≠ A 3 i := hK_ne hsT.kp (hsT.ko hi) (by decide)
  refine ⟨q1.trans (sv_frp hsT hi h1 h4), q2, (h1 2 _ np).trans q3, (h1 3 _ np).trans q4, fun k hk => ?_, fun k hk => ?_⟩
  · have ng : A 1 k ≠ A 3 i := hK_ne (hsT.kg (show k < vn σ by omega)) (hsT.ko hi) (by decide)
    by_cases e : k = i
    · subst e
      exact ⟨(h1 11 _ ng).trans q6, h2⟩
    · exact ⟨(h1 11 _ ng).trans (q5 k (by omega)).1, (h1 1 _ (fun z => e (hsT.inj (by omega) hi (Or.inr (Or.inl z))))).trans (q5 k (by omega)).2⟩
  · by_cases e : k = i
    · subst e
      exact Or.inr ⟨h2, h3, h5⟩
    · have n3 : A 3 k ≠ A 3 i := fun z => e (hsT.inj hk hi (Or.inr (Or.inl z)))
      have n4 : A 4 k ≠ A 4 i := fun z => e (hsT.inj hk hi (Or.inr (Or.inr z)))
      rcases q7 k hk with q | ⟨w1, w2, w3⟩
      · exact Or.inl ((h1 1 _ n3).trans q)
      · exact Or.inr ⟨(h1 1 _ n3).trans w1, fun j a b => (h1 j _ n3).trans (w2 j a b), fun j a => (h4 j _ n4).trans (w3 j a)⟩
theorem sv_done {A : Nat → Nat → Nat} {σ : Sg} {S T : HS} (h : svI A σ S (vn σ) T) : stI A σ S π0 T := by
  obtain ⟨h1, h2, h3, h4, h5, h6⟩ := h
  have c0 : ∀ n, ctU (pU π0) n = 0 := fun n => by induction n with
    | zero => exact Eq.refl _
    | succ n ih => unfold ctU; rw [ih, if_neg (show ¬ pU π0 n = true from Bool.false_ne_true)]
  refine ⟨h1, ⟨⟨h2, fun g e => (by cases e), fun k hk => (h5 k hk).1, (by rw [c0]; exact h3)⟩, h4, fun i hi => (by unfold pS at hi; rw [c0] at hi; omega)⟩, fun k hk => ⟨(h5 k hk).2, ?_⟩, show 0 ≤ 1100 by omega⟩
  rcases h6 k hk with q | q
  · exact absurd ((h5 k hk).2.symm.trans q) (by decide)
  · exact q.2
