/-! counts, what is observed, the digest -/
def cnV (σ : Sg) (j : Nat) : Nat → Int32
  | 0 => 0
  | k + 1 => cnV σ j k + shV σ k j
/-- the nights passed one by one -/
def nxN (σ : Sg) : Nat → Sg
  | 0 => σ
  | n + 1 => nxt (nxN σ n)
theorem nxN_n (σ : Sg) : ∀ n, vn (nxN σ n) = vn σ
  | 0 => rfl
  | n + 1 => (nxN_n σ n)
theorem nxN_3 (σ : Sg) : ∀ n, vg (nxN σ n) 3 = vg σ 3 + nI n
  | 0 => (Int32.add_zero _).symm
  | n + 1 => by
    rw [nxN]
    show vg (nxN σ n) 3 + 1 = _
    rw [nxN_3 σ n, Int32.add_assoc, nI_1]
/-- the targets behind an observed night, the first n of them -/
def obsV (σ : Sg) (n : Nat) : Sg := (σ.1, fun k j => if k < n ∧ pU (plV σ) k = true then (if j = 8 then vt σ k 8 + 1 else if j = 9 then vg σ 3 else vt σ k j) else vt σ k j, σ.2.2)
theorem obsV_0 (σ : Sg) : obsV σ 0 = σ := by
  unfold obsV
  have e : (fun (k j : Nat) => if k < 0 ∧ pU (plV σ) k = true then (if j = 8 then vt σ k 8 + 1 else if j = 9 then vg σ 3 else vt σ k j) else vt σ k j) = σ.2.1 := by
    funext k j
    exact if_neg (fun z => Nat.not_lt_zero k z.1)
  rw [e]
theorem obsV_old {σ : Sg} {n : Nat} (h : pU (plV σ) n = false) : obsV σ (n + 1) = obsV σ n := by
  unfold obsV
  have e : (fun (k j : Nat) => if k < n + 1 ∧ pU (plV σ) k = true then (if j = 8 then vt σ k 8 + 1 else if j = 9 then vg σ 3 else vt σ k j) else vt σ k j) = (fun (k j : Nat) => if k < n ∧ pU (plV σ) k = true then (if j = 8 then vt σ k 8 + 1 else if j = 9 then vg σ 3 else vt σ k j) else vt σ k j) := by
    funext k j
    by_cases e : k = n
    · subst e
      rw [if_neg (fun z => by rw [h] at z; exact absurd z.2 (by decide)), if_neg (fun z => by rw [h] at z; exact absurd z.2 (by decide))]
    · have : k < n + 1 ↔ k < n := by omega
      simp only [this]
  rw [e]
def obF (σ : Sg) (n : Nat) : Nat → Int32 := fun j => if j = 8 then vt (obsV σ n) n 8 + 1 else if j = 9 then vg σ 3 else vt (obsV σ n) n j
theorem obsV_self (σ : Sg) (n j : Nat) : vt (obsV σ n) n j = vt σ n j := if_neg (fun z => Nat.lt_irrefl n z.1)
theorem obsV_new {σ : Sg} {n : Nat} (h : pU (plV σ) n = true) : obsV σ (n + 1) = upT (obsV σ n) n (obF σ n) := by
  unfold upT obF
  have e : (fun (k j : Nat) => if k < n + 1 ∧ pU (plV σ) k = true then (if j = 8 then vt σ k 8 + 1 else if j = 9 then vg σ 3 else vt σ k j) else vt σ k j) = (fun (k j : Nat) => if k = n then (if j = 8 then vt (obsV σ n) n 8 + 1 else if j = 9 then vg σ 3 else vt (obsV σ n) n j) else vt (obsV σ n) k j) := by
    funext k j
    by_cases e : k = n
    · subst e
      rw [if_pos ⟨by omega, h⟩, if_pos rfl, obsV_self, obsV_self]
    · rw [if_neg e]
      show _ = (if k < n ∧ pU (plV σ) k = true then (if j = 8 then vt σ k 8 + 1 else if j = 9 then vg σ 3 else vt σ k j) else vt σ k j)
      have : k < n + 1 ↔ k < n := by omega
      simp only [this]
  show (σ.1, _, σ.2.2) = _
  rw [e]
  rfl
theorem obs_had {σ : Sg} (hr : Rng σ) {k : Nat} (hk : k < vn σ) : (vt σ k 8 + 1).toInt = (vt σ k 8).toInt + 1 ∧ (vg σ 3 + 1).toInt = (vg σ 3).toInt + 1 ∧ 0 ≤ (vt σ k 8).toInt ∧ (vt σ k 8).toInt ≤ (vg σ 3).toInt := by
  obtain ⟨-, -, -, ⟨r3, r3'⟩, -, -, -, -, r8⟩ := hr
  obtain ⟨-, -, -, -, -, ⟨a1, a2⟩, -⟩ := r8 k hk
  have b1 := Int32.le_iff_toInt_le.mp a1
  have b2 := Int32.le_iff_toInt_le.mp a2
  have b3 := Int32.le_iff_toInt_le.mp r3'
  rw [show (0 : Int32).toInt = 0 by decide] at b1
  rw [show (60 : Int32).toInt = 60 by decide] at b3
  have e1 : (1 : Int32).toInt = 1 := by decide
  refine ⟨?_, ?_, b1, b2⟩
  · rw [fb_addI (by rw [e1]; omega) (by rw [e1]; omega), e1]
  · rw [fb_addI (by rw [e1]; omega) (by rw [e1]; omega), e1]
/-- the state behind observe -/
def obN (σ : Sg) : Sg := nxt (obsV σ (vn σ))
theorem obN_rng {σ : Sg} (hr : Rng σ) (h : vg σ 3 < 60) : Rng (obN σ) := by
  have hn := nxt_rng hr h
  have h0 := hr
  obtain ⟨r0, r1, r2, r3, r4, r5, r6, r7, r8⟩ := hn
  refine ⟨r0, r1, r2, r3, r4, r5, r6, r7, fun k hk => ?_⟩
  have hk' : k < vn σ := hk
  obtain ⟨a0, a1, a2, a3, a5, a8, a9⟩ := r8 k hk
  by_cases c : pU (plV σ) k = true
  · have e : ∀ j, vt (obN σ) k j = if j = 8 then vt σ k 8 + 1 else if j = 9 then vg σ 3 else vt σ k j := fun j => if_pos ⟨hk', c⟩
    rw [e, e, e, e, e, e, e]
    obtain ⟨q1, q2, q3, q4⟩ := obs_had h0 hk'
    obtain ⟨-, -, -, ⟨s3, -⟩, -⟩ := h0
    refine ⟨a0, a1, a2, a3, a5, ⟨?_, ?_⟩, ?_⟩
    · refine Int32.le_iff_toInt_le.mpr ?_
      show (0 : Int32).toInt ≤ (vt σ k 8 + 1).toInt
      rw [q1, show (0 : Int32).toInt = 0 by decide]; omega
    · refine Int32.le_iff_toInt_le.mpr ?_
      show (vt σ k 8 + 1).toInt ≤ (vg σ 3 + 1).toInt
      rw [q1, q2]; omega
    · show vt σ k 8 + 1 = 0 ↔ vg σ 3 = -1
      constructor
      · intro z
        have : (vt σ k 8 + 1).toInt = (0 : Int32).toInt := by rw [z]
        rw [q1, show (0 : Int32).toInt = 0 by decide] at this
        omega
      · intro z
        rw [z] at s3
        exact absurd s3 (by decide)
  · have e : ∀ j, vt (obN σ) k j = vt σ k j := fun j => if_neg (fun z => c z.2)
    rw [e, e, e, e, e, e, e]
    exact ⟨a0, a1, a2, a3, a5, a8, a9⟩
/-- takeVisit, in the heap -/
theorem take_step {G : JG} {x : Nat} {A : Nat → Nat → Nat} {σ : Sg} {T : HS} {i : Nat} (hs : Shp G x A (vn σ) T) (hv : Vl x A (obsV σ i) T) (hi : i < vn σ) (hu : ∀ k, k < vn σ → hI T 11 (A 1 k) = zI (pU (plV σ) k)) {U : HS} (e : U = if hI T 11 (A 1 i) = 0 then T else sI (sI T 9 (A 1 i) (hI T 9 (A 1 i) + 1)) 10 (A 1 i) (vg σ 3)) :
    Shp G x A (vn σ) U ∧ Vl x A (obsV σ (i + 1)) U ∧ (∀ k, k < vn σ → hI U 11 (A 1 k) = zI (pU (plV σ) k)) ∧ FrC T U := by
  have e11 := hu i hi
  by_cases c : pU (plV σ) i = true
  · rw [c] at e11
    rw [e11, if_neg (show ¬ zI true = 0 by decide)] at e
    subst e
    rw [obsV_new c]
    have tg := Vl.tg (σ := obsV σ i) hv hi
    refine ⟨hs.sI.sI, ?_, fun k hk => ?_, (FrC.rfl.sI (lt14 (hs.kg hi) (by decide))).sI (lt14 (hs.sI.kg hi) (by decide))⟩
    · refine Vl.tgt (σ := obsV σ i) hs hv hi (fun _ _ q => (hI_na q).trans (hI_na q)) (fun _ _ => rfl) ((hI_nk (by decide)).trans (hI_nk (by decide))) ((hI_nk (by decide)).trans (hI_nk (by decide))) ((hI_nk (by decide)).trans (hI_nk (by decide))) ((hI_nk (by decide)).trans (hI_nk (by decide))) ?_ ?_ ?_ ?_ (hI_same _ _ _ _) rfl rfl rfl rfl rfl
      · exact ((hI_nk (by decide)).trans (hI_nk (by decide))).trans tg.2.2.2.2.1
      · exact ((hI_nk (by decide)).trans (hI_nk (by decide))).trans tg.2.2.2.2.2.1
      · exact ((hI_nk (by decide)).trans (hI_nk (by decide))).trans tg.2.2.2.2.2.2.1
      · refine ((hI_nk (by decide)).trans (hI_same _ _ _ _)).trans ?_
        rw [tg.2.2.2.2.2.2.2.1]; rfl
    · exact ((hI_nk (by decide)).trans (hI_nk (by decide))).trans (hu k hk)
  · have c' : pU (plV σ) i = false := by cases h : pU (plV σ) i <;> first | rfl | exact (c h).elim
    rw [c'] at e11
    rw [e11, if_pos (show zI false = 0 by decide)] at e
    subst e
    rw [obsV_old c']
    exact ⟨hs, hv, hu, FrC.rfl⟩
def bl (d : Int64) (v : Int32) : Int64 := d * 31 + v.toInt64
def blN (f : Nat → Int32) (d : Int64) : Nat → Int64
  | 0 => d
  | n + 1 => bl (blN f d n) (f n)
/-- the targets' part, and the plan's -/
def blT (σ : Sg) (d : Int64) : Nat → Int64
  | 0 => d
  | k + 1 => blN (wnV σ k) (blN (vt σ k) (blT σ d k) 10) 5
def blP (π : Pl) (d : Int64) : Nat → Int64
  | 0 => d
  | i + 1 => blN (pR π i) (blP π d i) 4
def dg7 (σ : Sg) : Int64 := bl (bl (bl (bl (bl (bl (bl 347 (vg σ 3)) (vg σ 2)) (vg σ 0)) (vg σ 1)) (vg σ 4)) (vg σ 5)) (vg σ 6)
def dgT (σ : Sg) (d : Int64) : Int64 := blT σ (bl d (nI (vn σ))) (vn σ)
def dgP (σ : Sg) (d : Int64) : Int64 := blP (plV σ) (bl d (nI (pS σ (plV σ)))) (pS σ (plV σ))
def dgV (σ : Sg) : Int64 := dgP σ (dgT σ (dg7 σ))
