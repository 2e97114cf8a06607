/-! the class's values: what the cells hold, by the planner's state -/
def Vl (x : Nat) (A : Nat → Nat → Nat) (σ : Sg) (S : HS) : Prop :=
  (hI S 0 (A 0 0) = vg σ 1 ∧ hI S 1 (A 0 0) = vg σ 0 ∧ hI S 2 (A 0 0) = sn (vg σ 0) ∧ hI S 3 (A 0 0) = sn (vg σ 0 + 90)) ∧
  (hI S 0 (A 0 1) = vg σ 4 ∧ hI S 1 (A 0 1) = vg σ 5 ∧ hI S 2 (A 0 1) = sn (vg σ 5) ∧ hI S 3 (A 0 1) = sn (vg σ 5 + 90)) ∧
  (hI S 2 x = vg σ 6 ∧ hI S 3 x = vg σ 2 ∧ hI S 4 x = vg σ 3) ∧
  (hI S 2 (A 0 2) = nI (vc σ) ∧ vc σ ≤ 8 ∧ ∀ i, i < vc σ → hV S i (A 0 3) = vf σ i ∧ hV S i (A 0 4) = vo σ i) ∧
  hI S 2 (A 0 5) = nI (vn σ) ∧
  (∀ k, k < vn σ → hI S 0 (A 1 k) = nI k ∧ hI S 2 (A 1 k) = vt σ k 2 ∧ hI S 3 (A 1 k) = vt σ k 3 ∧ hI S 4 (A 1 k) = vt σ k 5 ∧ hI S 6 (A 1 k) = vt σ k 4 ∧ hI S 7 (A 1 k) = vt σ k 6 ∧ hI S 8 (A 1 k) = vt σ k 7 ∧ hI S 9 (A 1 k) = vt σ k 8 ∧ hI S 10 (A 1 k) = vt σ k 9 ∧
    hI S 0 (A 2 k) = vt σ k 0 ∧ hI S 1 (A 2 k) = vt σ k 1 ∧ hI S 2 (A 2 k) = sn (vt σ k 1) ∧ hI S 3 (A 2 k) = sn (vt σ k 1 + 90))
/-- what the setters let through -/
def Rng (σ : Sg) : Prop := (-90 ≤ vg σ 0 ∧ vg σ 0 ≤ 90) ∧ (0 ≤ vg σ 1 ∧ vg σ 1 ≤ 1439) ∧ (60 ≤ vg σ 2 ∧ vg σ 2 ≤ 900) ∧ (0 ≤ vg σ 3 ∧ vg σ 3 ≤ 60) ∧ (0 ≤ vg σ 4 ∧ vg σ 4 ≤ 1439) ∧ (-90 ≤ vg σ 5 ∧ vg σ 5 ≤ 90) ∧ (0 ≤ vg σ 6 ∧ vg σ 6 ≤ 29) ∧ vn σ ≤ 20 ∧
  ∀ k, k < vn σ → (0 ≤ vt σ k 0 ∧ vt σ k 0 ≤ 1439) ∧ (-90 ≤ vt σ k 1 ∧ vt σ k 1 ≤ 90) ∧ (0 ≤ vt σ k 2 ∧ vt σ k 2 ≤ 3) ∧ (1 ≤ vt σ k 3 ∧ vt σ k 3 ≤ 9) ∧ (5 ≤ vt σ k 5 ∧ vt σ k 5 ≤ 120) ∧ (0 ≤ vt σ k 8 ∧ vt σ k 8 ≤ vg σ 3) ∧ (vt σ k 8 = 0 ↔ vt σ k 9 = -1)
theorem cvB_congr {ff tt ff' tt' : Nat → Int32} {m : Nat} {t : Int32} (h : ∀ i, i < m → ff i = ff' i ∧ tt i = tt' i) : cvB ff tt m t = cvB ff' tt' m t := by
  induction m with
  | zero => rfl
  | succ m ih => rw [cvB, cvB, ih (fun i hi => h i (by omega)), (h m (by omega)).1, (h m (by omega)).2]
/-- a contract with its answer under another name -/
theorem Ct.eqI {G : JG} {y : MethodName} {cc : ByteArray} {nL : Nat} {ret : Option FieldType} {fr lo mc ms : Nat} {as : List Value} {S : HS} {u v : Int32} {RX : String → HS → Prop} (h : Ct G y cc nL ret fr lo mc ms as S (rI (fun r S' => r = u ∧ S' = S)) RX) (e : u = v) : Ct G y cc nL ret fr lo mc ms as S (rI (fun r S' => r = v ∧ S' = S)) RX := by subst e; exact h
theorem c_cld {G : JG} {x : Nat} {A : Nat → Nat → Nat} {σ : Sg} {S : HS} (hs : Shp G x A (vn σ) S) (hv : Vl x A σ S) (t : Int32) : Ct G yX0_cover cX0_cover 3 (some .boolean) 0 0 0 0 [.ref (A 0 2), .int t] S (rI (fun r S' => r = zI (cldV σ t) ∧ S' = S)) noX :=
  (c_X0_cover S (A 0 2) (A 0 3) (A 0 4) (vc σ) t hs.kc hs.pf hs.kf hs.nf hs.pt hs.kt hs.nt hv.2.2.2.1.1 hv.2.2.2.1.2.1).eqI (by unfold cldV; rw [cvB_congr (fun i hi => hv.2.2.2.1.2.2 i hi)])
theorem c_hT {G : JG} {x : Nat} {A : Nat → Nat → Nat} {σ : Sg} {S : HS} (hs : Shp G x A (vn σ) S) (hv : Vl x A σ S) (k : Nat) (hk : k < vn σ) (t : Int32) : Ct G yX5_heightOf cX5_heightOf 5 (some .int) 2 60 0 0 [.ref x, .ref (A 2 k), .int t] S (rI (fun r S' => r = thV σ k t ∧ S' = S)) noX :=
  (c_X5_heightOf S x (A 0 0) (A 2 k) t hs.kx hs.pz hs.kz (hs.kpt hk)).eqI (by
    obtain ⟨⟨z0, z1, z2, z3⟩, -, ⟨-, -, x4⟩, -, -, ht⟩ := hv
    obtain ⟨-, -, -, -, -, -, -, -, -, p0, p1, p2, p3⟩ := ht k hk
    rw [z0, z2, z3, x4, p0, p2, p3]; rfl)
theorem c_hM {G : JG} {x : Nat} {A : Nat → Nat → Nat} {σ : Sg} {S : HS} (hs : Shp G x A (vn σ) S) (hv : Vl x A σ S) (t : Int32) : Ct G yX5_heightOf cX5_heightOf 5 (some .int) 2 60 0 0 [.ref x, .ref (A 0 1), .int t] S (rI (fun r S' => r = mhV σ t ∧ S' = S)) noX :=
  (c_X5_heightOf S x (A 0 0) (A 0 1) t hs.kx hs.pz hs.kz hs.km).eqI (by
    obtain ⟨⟨z0, z1, z2, z3⟩, ⟨m0, m1, m2, m3⟩, ⟨-, -, x4⟩, -, -, -⟩ := hv
    rw [z0, z2, z3, x4, m0, m2, m3]; rfl)
theorem c_nM {G : JG} {x : Nat} {A : Nat → Nat → Nat} {σ : Sg} {S : HS} (hs : Shp G x A (vn σ) S) (hv : Vl x A σ S) (k : Nat) (hk : k < vn σ) : Ct G yX5_nearnessOf cX5_nearnessOf 3 (some .int) 2 60 0 0 [.ref (A 2 k), .ref (A 0 1)] S (rI (fun r S' => r = mnV σ k ∧ S' = S)) noX :=
  (c_X5_nearnessOf S (A 2 k) (A 0 1) (hs.kpt hk) hs.km).eqI (by
    obtain ⟨-, ⟨m0, m1, m2, m3⟩, -, -, -, ht⟩ := hv
    obtain ⟨-, -, -, -, -, -, -, -, -, p0, p1, p2, p3⟩ := ht k hk
    rw [m0, m2, m3, p0, p2, p3]; rfl)
theorem c_nT {G : JG} {x : Nat} {A : Nat → Nat → Nat} {σ : Sg} {S : HS} (hs : Shp G x A (vn σ) S) (hv : Vl x A σ S) (k j : Nat) (hk : k < vn σ) (hj : j < vn σ) : Ct G yX5_nearnessOf cX5_nearnessOf 3 (some .int) 2 60 0 0 [.ref (A 2 k), .ref (A 2 j)] S (rI (fun r S' => r = nearV (vt σ k 0) (vt σ k 1) (vt σ j 0) (vt σ j 1) ∧ S' = S)) noX :=
  (c_X5_nearnessOf S (A 2 k) (A 2 j) (hs.kpt hk) (hs.kpt hj)).eqI (by
    obtain ⟨-, -, -, -, -, ht⟩ := hv
    obtain ⟨-, -, -, -, -, -, -, -, -, p0, p1, p2, p3⟩ := ht k hk
    obtain ⟨-, -, -, -, -, -, -, -, -, q0, q1, q2, q3⟩ := ht j hj
    rw [q0, q2, q3, p0, p2, p3]; rfl)
theorem c_li {G : JG} {x : Nat} {A : Nat → Nat → Nat} {σ : Sg} {S : HS} (hs : Shp G x A (vn σ) S) (hv : Vl x A σ S) : Ct G yX5_moonLight cX5_moonLight 1 (some .int) 2 60 0 0 [.ref x] S (rI (fun r S' => r = liV σ ∧ S' = S)) noX :=
  (c_X5_moonLight S x hs.kx).eqI (by rw [hv.2.2.1.1]; rfl)
theorem Vl.tg {x : Nat} {A : Nat → Nat → Nat} {σ : Sg} {S : HS} (hv : Vl x A σ S) {k : Nat} (hk : k < vn σ) : hI S 0 (A 1 k) = nI k ∧ hI S 2 (A 1 k) = vt σ k 2 ∧ hI S 3 (A 1 k) = vt σ k 3 ∧ hI S 4 (A 1 k) = vt σ k 5 ∧ hI S 6 (A 1 k) = vt σ k 4 ∧ hI S 7 (A 1 k) = vt σ k 6 ∧ hI S 8 (A 1 k) = vt σ k 7 ∧ hI S 9 (A 1 k) = vt σ k 8 ∧ hI S 10 (A 1 k) = vt σ k 9 ∧
    hI S 0 (A 2 k) = vt σ k 0 ∧ hI S 1 (A 2 k) = vt σ k 1 ∧ hI S 2 (A 2 k) = sn (vt σ k 1) ∧ hI S 3 (A 2 k) = sn (vt σ k 1 + 90) := hv.2.2.2.2.2 k hk
theorem J_astoreN_n {X : JX} {G : JG} {Q : State → Prop} {nL cs ss pc : Nat} {lv lv' : List (Nat × Value)} {st : List Value} {S : HS} {own : String} {cc : ByteArray} {ret : Option FieldType} {fr lo mc ms i : Nat} {f : Fin 4} (hC : JC X G own cc nL ret fr lo mc ms) (d : decode cc pc = .ok (.astore_n f, 1)) (hi : (f : Nat) = i) (hn : i < nL) (h : (i, Value.null) :: lv.filter (fun q => !(q.1 == i) && !(q.1 + 1 == i && q.2.category == 2)) = lv')
    (k : J X G Q nL cs ss (pc + 1) lv' st S) : J X G Q nL cs ss pc lv (.null :: st) S := by
  intro H locs ls hR hS hl
  exact lv_astore_nN hC.1 hC.2.1 d hi hl hn h (fun ls' hl' => k H locs ls' hR hS hl')
theorem J_aloadN_n {X : JX} {G : JG} {Q : State → Prop} {nL cs ss pc : Nat} {lv : List (Nat × Value)} {st : List Value} {S : HS} {own : String} {cc : ByteArray} {ret : Option FieldType} {fr lo mc ms i : Nat} {f : Fin 4} (j : Nat) (hC : JC X G own cc nL ret fr lo mc ms) (d : decode cc pc = .ok (.aload_n f, 1)) (hi : (f : Nat) = i) (h : lv[j]? = some (i, .null))
    (k : J X G Q nL cs ss (pc + 1) lv (.null :: st) S) : J X G Q nL cs ss pc lv st S := by
  intro H locs ls hR hS hl
  exact lv_aload_nN hC.1 hC.2.1 d hi (lv_at hl j h) (k H locs ls hR hS hl)
theorem bI_ne {c : Prop} [Decidable c] (h : ¬ bI c = 0) : c := by
  unfold bI at h
  by_cases hc : c
  · exact hc
  · rw [if_neg hc] at h; exact (h rfl).elim
theorem bI_eq {c : Prop} [Decidable c] (h : bI c = 0) : ¬ c := by
  unfold bI at h
  intro hc
  rw [if_pos hc] at h
  exact absurd h (by decide)
theorem zI_ne {b : Bool} (h : ¬ zI b = 0) : b = true := by cases b <;> first | rfl | exact (h rfl).elim
theorem zI_eq {b : Bool} (h : zI b = 0) : ¬ b = true := by cases b <;> first | (intro e; cases e; done) | exact absurd h (by decide)
theorem Rng.ln {σ : Sg} (h : Rng σ) : vg σ 2 = nI (lnV σ) ∧ 60 ≤ lnV σ ∧ lnV σ ≤ 900 := by
  obtain ⟨-, -, ⟨h1, h2⟩, -⟩ := h
  have h0 : ¬ vg σ 2 < 0 := fun z => absurd (Int32.le_trans h1 (Int32.le_of_lt z)) (by decide)
  obtain ⟨j, hj, e⟩ := nI_of h0
  unfold lnV
  rw [e] at h1 h2 ⊢
  rw [nI_clamp hj]
  exact ⟨rfl, (nI_leI (by decide) hj).mp h1, (nI_leI hj (by decide)).mp h2⟩
/-- how many of the first minutes have no clouds -/
def clN (σ : Sg) : Nat → Int32
  | 0 => 0
  | t + 1 => clN σ t + (if cldV σ (nI t) = true then 0 else 1)
def opP (σ : Sg) (k : Nat) : Prop := vt σ k 8 < vt σ k 6 ∧ (vt σ k 8 = 0 ∨ vt σ k 7 ≤ vg σ 3 - vt σ k 9)
theorem opP_dec (σ : Sg) (k : Nat) : opP σ k ↔ (vt σ k 8 < vt σ k 6 ∧ (vt σ k 8 = 0 ∨ vt σ k 7 ≤ vg σ 3 - vt σ k 9)) := Iff.rfl
def opI (σ : Sg) (k : Nat) : Int32 := bI (vt σ k 8 < vt σ k 6 ∧ (vt σ k 8 = 0 ∨ vt σ k 7 ≤ vg σ 3 - vt σ k 9))
def shV (σ : Sg) (k j : Nat) : Int32 := if j = 0 then 1 else if j = 1 then opI σ k else if j = 2 then bI (vt σ k 6 ≤ vt σ k 8) else vt σ k 8
theorem c_op {G : JG} {x : Nat} {A : Nat → Nat → Nat} {σ : Sg} {S : HS} (hs : Shp G x A (vn σ) S) (hv : Vl x A σ S) (k : Nat) (hk : k < vn σ) : Ct G yX4_isOpenOn cX4_isOpenOn 2 (some .boolean) 0 0 0 0 [.ref (A 1 k), .int (hI S 4 x)] S (rI (fun r S' => r = opI σ k ∧ S' = S)) noX :=
  (c_X4_isOpenOn S (A 1 k) (hI S 4 x) (hs.kg hk)).eqI (by
    obtain ⟨-, -, -, -, -, t6, t7, t8, t9, -⟩ := hv.tg hk
    rw [t6, t7, t8, t9, hv.2.2.1.2.2]; rfl)
