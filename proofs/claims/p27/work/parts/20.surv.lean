/-! the notes of a night, over the heap -/
theorem rnD_m {σ : Sg} {k L m : Nat} (hm : m < L) : rnD σ k L (L - m) = if rsnV σ k (nI m) = 0 then rnD σ k L (L - (m + 1)) + 1 else 0 := by
  rw [show L - m = (L - (m + 1)) + 1 by omega, rnD, show L - (L - (m + 1) + 1) = m by omega]
theorem oF_m {σ : Sg} {k L m : Nat} (hm : m < L) (j : Nat) : oF σ k L (L - m) j =
    if j = 5 then (if oF σ k L (L - (m + 1)) 5 < 0 ∨ oF σ k L (L - (m + 1)) 6 ≤ thV σ k (nI m) then nI m else oF σ k L (L - (m + 1)) 5)
    else if j = 6 then (if oF σ k L (L - (m + 1)) 5 < 0 ∨ oF σ k L (L - (m + 1)) 6 ≤ thV σ k (nI m) then thV σ k (nI m) else oF σ k L (L - (m + 1)) 6)
    else if 0 < rnD σ k L (L - m) then
      (if j = 2 then nI m else if j = 3 then (if oF σ k L (L - (m + 1)) 3 < 0 then nI m else oF σ k L (L - (m + 1)) 3) else if j = 4 then oF σ k L (L - (m + 1)) 4 + 1 else if j = 7 then (if vt σ k 5 ≤ nI (rnD σ k L (L - m)) then nI m else oF σ k L (L - (m + 1)) 7) else oF σ k L (L - (m + 1)) j)
    else oF σ k L (L - (m + 1)) j := by
  have e : L - m = (L - (m + 1)) + 1 := by omega
  have e2 : L - (L - (m + 1) + 1) = m := by omega
  rw [e, oF]
  simp only [e2]
theorem Vl.w {G : JG} {x : Nat} {A : Nat → Nat → Nat} {σ : Sg} {S : HS} (hs : Shp G x A (vn σ) S) (hv : Vl x A σ S) {I V : Nat → Nat → Int32}
    (h1 : ∀ j a, hK S a ≠ 3 → hK S a ≠ 4 → (hK S a = 6 → j ≠ 11) → I j a = hI S j a) (h2 : ∀ j a, hK S a ≠ 10 → hK S a ≠ 11 → V j a = hV S j a) : Vl x A σ (wIV S I V) := by
  have n3 : ∀ {a n : Nat}, hK S a = n → n ≠ 3 → hK S a ≠ 3 := fun h1 h2 z => h2 (h1.symm.trans z)
  have kk : ∀ {a n j : Nat}, hK S a = n → (n ≠ 3 ∧ n ≠ 4 ∧ n ≠ 6) → I j a = hI S j a := fun {a n j} h ⟨q1, q2, q3⟩ => h1 j a (fun z => q1 (h.symm.trans z)) (fun z => q2 (h.symm.trans z)) (fun z => (q3 (h.symm.trans z)).elim)
  have kt : ∀ {a j : Nat}, hK S a = 6 → j ≠ 11 → I j a = hI S j a := fun {a j} h q => h1 j a (fun z => absurd (h.symm.trans z) (by decide)) (fun z => absurd (h.symm.trans z) (by decide)) (fun _ => q)
  have kv : ∀ {a n j : Nat}, hK S a = n → (n ≠ 10 ∧ n ≠ 11) → V j a = hV S j a := fun {a n j} h ⟨q1, q2⟩ => h2 j a (fun z => q1 (h.symm.trans z)) (fun z => q2 (h.symm.trans z))
  obtain ⟨⟨z0, z1, z2, z3⟩, ⟨m0, m1, m2, m3⟩, ⟨x2, x3, x4⟩, ⟨c2, c8, cc⟩, l2, ht⟩ := hv
  refine ⟨⟨(kk hs.kz (by decide)).trans z0, (kk hs.kz (by decide)).trans z1, (kk hs.kz (by decide)).trans z2, (kk hs.kz (by decide)).trans z3⟩, ⟨(kk hs.km (by decide)).trans m0, (kk hs.km (by decide)).trans m1, (kk hs.km (by decide)).trans m2, (kk hs.km (by decide)).trans m3⟩,
    ⟨(kk hs.kx (by decide)).trans x2, (kk hs.kx (by decide)).trans x3, (kk hs.kx (by decide)).trans x4⟩, ⟨(kk hs.kc (by decide)).trans c2, c8, fun i hi => ⟨(kv hs.kf (by decide)).trans (cc i hi).1, (kv hs.kt (by decide)).trans (cc i hi).2⟩⟩, (kk hs.kl (by decide)).trans l2, fun k hk => ?_⟩
  obtain ⟨t0, t1, t2, t3, t4, t5, t6, t7, t8, p0, p1, p2, p3⟩ := ht k hk
  have hg := hs.kg hk
  have hp := hs.kpt hk
  exact ⟨(kt hg (by decide)).trans t0, (kt hg (by decide)).trans t1, (kt hg (by decide)).trans t2, (kt hg (by decide)).trans t3, (kt hg (by decide)).trans t4, (kt hg (by decide)).trans t5, (kt hg (by decide)).trans t6, (kt hg (by decide)).trans t7, (kt hg (by decide)).trans t8,
    (kk hp (by decide)).trans p0, (kk hp (by decide)).trans p1, (kk hp (by decide)).trans p2, (kk hp (by decide)).trans p3⟩
theorem nhW {S S' : HS} {I V : Nat → Nat → Int32} {o : Nat} {t w : Int32} (e : S' = if hI (wIV S I V) 5 o < 0 ∨ hI (wIV S I V) 6 o ≤ w then sI (sI (wIV S I V) 5 o t) 6 o w else wIV S I V) :
    ∃ I1, S' = wIV S I1 V ∧ I1 5 o = (if I 5 o < 0 ∨ I 6 o ≤ w then t else I 5 o) ∧ I1 6 o = (if I 5 o < 0 ∨ I 6 o ≤ w then w else I 6 o) ∧ ∀ j a, (a ≠ o ∨ (j ≠ 5 ∧ j ≠ 6)) → I1 j a = I j a := by
  replace e : S' = if I 5 o < 0 ∨ I 6 o ≤ w then sI (sI (wIV S I V) 5 o t) 6 o w else wIV S I V := e
  by_cases c : I 5 o < 0 ∨ I 6 o ≤ w
  · rw [if_pos c] at e
    refine ⟨up2 (up2 I 5 o t) 6 o w, e, ?_, ?_, fun j a h => ?_⟩
    · rw [if_pos c, up2_nk (by decide), up2_same]
    · rw [if_pos c, up2_same]
    · rcases h with h | ⟨h1, h2⟩
      · rw [up2_na h, up2_na h]
      · rw [up2_nk h2, up2_nk h1]
  · rw [if_neg c] at e
    exact ⟨I, e, by rw [if_neg c], by rw [if_neg c], fun _ _ _ => rfl⟩
theorem nrW {S S' : HS} {I V : Nat → Nat → Int32} {o r i : Nat} {t w m : Int32} (hi : t.toNatClampNeg = i) (e : S' = if 0 < w then sI (sI (sI (sI (sV (wIV S I V) t.toNatClampNeg r w) 2 o t) 3 o (if hI (wIV S I V) 3 o < 0 then t else hI (wIV S I V) 3 o)) 4 o (hI (wIV S I V) 4 o + 1)) 7 o (if m ≤ w then t else hI (wIV S I V) 7 o) else wIV S I V) :
    ∃ I1 V1, S' = wIV S I1 V1 ∧ I1 2 o = (if 0 < w then t else I 2 o) ∧ I1 3 o = (if 0 < w then (if I 3 o < 0 then t else I 3 o) else I 3 o) ∧ I1 4 o = (if 0 < w then I 4 o + 1 else I 4 o) ∧ I1 7 o = (if 0 < w then (if m ≤ w then t else I 7 o) else I 7 o) ∧
      (∀ j a, (a ≠ o ∨ (j ≠ 2 ∧ j ≠ 3 ∧ j ≠ 4 ∧ j ≠ 7)) → I1 j a = I j a) ∧ V1 i r = (if 0 < w then w else V i r) ∧ ∀ j a, (a ≠ r ∨ j ≠ i) → V1 j a = V j a := by
  simp only [hI_wIV, hi] at e
  by_cases c : 0 < w
  · rw [if_pos c] at e
    refine ⟨up2 (up2 (up2 (up2 I 2 o t) 3 o (if I 3 o < 0 then t else I 3 o)) 4 o (I 4 o + 1)) 7 o (if m ≤ w then t else I 7 o), up2 V i r w, e, ?_, ?_, ?_, ?_, fun j a h => ?_, ?_, fun j a h => ?_⟩
    · rw [if_pos c, up2_nk (by decide), up2_nk (by decide), up2_nk (by decide), up2_same]
    · rw [if_pos c, up2_nk (by decide), up2_nk (by decide), up2_same]
    · rw [if_pos c, up2_nk (by decide), up2_same]
    · rw [if_pos c, up2_same]
    · rcases h with h | ⟨h1, h2, h3, h4⟩
      · rw [up2_na h, up2_na h, up2_na h, up2_na h]
      · rw [up2_nk h4, up2_nk h3, up2_nk h2, up2_nk h1]
    · rw [if_pos c, up2_same]
    · rcases h with h | h
      · rw [up2_na h]
      · rw [up2_nk h]
  · rw [if_neg c] at e
    exact ⟨I, V, e, by rw [if_neg c], by rw [if_neg c], by rw [if_neg c], by rw [if_neg c], fun _ _ _ => rfl, by rw [if_neg c], fun _ _ _ => rfl⟩
/-- the notes of target k as far as the minute m -/
def sInv (A : Nat → Nat → Nat) (σ : Sg) (S : HS) (k L m : Nat) (I V : Nat → Nat → Int32) : Prop :=
  (∀ j a, a ≠ A 3 k → I j a = hI S j a) ∧ I 1 (A 3 k) = hI S 1 (A 3 k) ∧ (∀ j, 2 ≤ j → j < 8 → I j (A 3 k) = oF σ k L (L - m) j) ∧
  (∀ j a, a ≠ A 4 k → V j a = hV S j a) ∧ (∀ i, i < 900 → V i (A 4 k) = if m ≤ i ∧ i < L then nI (rnD σ k L (L - i)) else 0)
theorem nI_lt0 {n : Nat} (h : n < 2147483648) : (0 < nI n) ↔ 0 < n := by
  rw [← nI_0]
  exact nI_ltI (by decide) h
theorem sInv_step {A : Nat → Nat → Nat} {σ : Sg} {S : HS} {k L m : Nat} {I V I1 I2 V2 : Nat → Nat → Int32} (hL : L ≤ 900) (hm : m < L) (h : sInv A σ S k L (m + 1) I V)
    (q5 : I1 5 (A 3 k) = (if I 5 (A 3 k) < 0 ∨ I 6 (A 3 k) ≤ thV σ k (nI m) then nI m else I 5 (A 3 k))) (q6 : I1 6 (A 3 k) = (if I 5 (A 3 k) < 0 ∨ I 6 (A 3 k) ≤ thV σ k (nI m) then thV σ k (nI m) else I 6 (A 3 k))) (qo : ∀ j a, (a ≠ A 3 k ∨ (j ≠ 5 ∧ j ≠ 6)) → I1 j a = I j a)
    (w2 : I2 2 (A 3 k) = (if 0 < nI (rnD σ k L (L - m)) then nI m else I1 2 (A 3 k))) (w3 : I2 3 (A 3 k) = (if 0 < nI (rnD σ k L (L - m)) then (if I1 3 (A 3 k) < 0 then nI m else I1 3 (A 3 k)) else I1 3 (A 3 k))) (w4 : I2 4 (A 3 k) = (if 0 < nI (rnD σ k L (L - m)) then I1 4 (A 3 k) + 1 else I1 4 (A 3 k))) (w7 : I2 7 (A 3 k) = (if 0 < nI (rnD σ k L (L - m)) then (if vt σ k 5 ≤ nI (rnD σ k L (L - m)) then nI m else I1 7 (A 3 k)) else I1 7 (A 3 k)))
    (wo : ∀ j a, (a ≠ A 3 k ∨ (j ≠ 2 ∧ j ≠ 3 ∧ j ≠ 4 ∧ j ≠ 7)) → I2 j a = I1 j a) (wv : V2 m (A 4 k) = (if 0 < nI (rnD σ k L (L - m)) then nI (rnD σ k L (L - m)) else V m (A 4 k))) (wu : ∀ j a, (a ≠ A 4 k ∨ j ≠ m) → V2 j a = V j a) : sInv A σ S k L m I2 V2 := by
  obtain ⟨h1, h2, h3, h4, h5⟩ := h
  have hr := rnD_le σ k L (L - m)
  have e0 : (0 < nI (rnD σ k L (L - m))) ↔ 0 < rnD σ k L (L - m) := nI_lt0 (by omega)
  refine ⟨fun j a ha => (wo j a (Or.inl ha)).trans ((qo j a (Or.inl ha)).trans (h1 j a ha)), (wo 1 _ (Or.inr (by decide))).trans ((qo 1 _ (Or.inr (by decide))).trans h2), fun j h2j h8j => ?_, fun j a ha => (wu j a (Or.inl ha)).trans (h4 j a ha), fun i hi => ?_⟩
  · rw [oF_m hm]
    rcases (show j = 2 ∨ j = 3 ∨ j = 4 ∨ j = 5 ∨ j = 6 ∨ j = 7 by omega) with rfl | rfl | rfl | rfl | rfl | rfl
    · rw [w2, qo 2 _ (Or.inr (by decide)), h3 2 (by decide) (by decide)]
      simp only [e0]; rfl
    · rw [w3, qo 3 _ (Or.inr (by decide)), h3 3 (by decide) (by decide)]
      simp only [e0]; rfl
    · rw [w4, qo 4 _ (Or.inr (by decide)), h3 4 (by decide) (by decide)]
      simp only [e0]; rfl
    · rw [wo 5 _ (Or.inr (by decide)), q5, h3 5 (by decide) (by decide), h3 6 (by decide) (by decide)]; rfl
    · rw [wo 6 _ (Or.inr (by decide)), q6, h3 5 (by decide) (by decide), h3 6 (by decide) (by decide)]; rfl
    · rw [w7, qo 7 _ (Or.inr (by decide)), h3 7 (by decide) (by decide)]
      simp only [e0]; rfl
  · by_cases e : i = m
    · subst e
      rw [wv, h5 i hi, if_neg (show ¬ (i + 1 ≤ i ∧ i < L) by omega), if_pos (show i ≤ i ∧ i < L by omega)]
      by_cases c : 0 < rnD σ k L (L - i)
      · rw [if_pos (e0.mpr c)]
      · rw [if_neg (fun z => c (e0.mp z)), show rnD σ k L (L - i) = 0 by omega]; rfl
    · rw [wu i _ (Or.inr e), h5 i hi]
      by_cases c : m ≤ i ∧ i < L
      · rw [if_pos c, if_pos (show m + 1 ≤ i ∧ i < L by omega)]
      · rw [if_neg c, if_neg (show ¬ (m + 1 ≤ i ∧ i < L) by omega)]
/-- the top of the stack by another name -/
theorem J_topI {X : JX} {G : JG} {Q : State → Prop} {nL cs ss pc : Nat} {lv : List (Nat × Value)} {st : List Value} {S : HS} {v w : Int32} (h : v = w) (k : J X G Q nL cs ss pc lv (.int w :: st) S) : J X G Q nL cs ss pc lv (.int v :: st) S := h ▸ k
