/-! the law's cases: printed by wip/whole/law2.py -/
theorem co_setSite {σ σ' : Sg} {y : Nat} {B : Nat → Nat} {S S' : HS} {kc rv r : Int32} {v w : Int32} (n20 : vn σ ≤ 20) (hP : P_setSite σ v w kc rv σ') (hM : (((-90 ≤ v ∧ v ≤ 90) ∧ (0 ≤ w ∧ w ≤ 1439)) ∧ r = vg σ 0 ∧ MX y B (setG (setG σ 0 v) 1 w) S S' 0) ∨ (¬ ((-90 ≤ v ∧ v ≤ 90) ∧ (0 ≤ w ∧ w ≤ 1439)) ∧ MX y B σ S S' 1)) : MX y B σ' S S' kc ∧ (kc = 0 → rv = r) := by
  rcases hP with ⟨rfl, rfl, p⟩ | ⟨rfl, rfl, p⟩ <;> rcases hM with m | m
  · exact ⟨m.2.2, fun _ => p.2.trans m.2.1.symm⟩
  · exact absurd p.1 m.1
  · exact absurd m.1 p
  · exact ⟨m.2, (fun z => absurd z (by decide))⟩

theorem co_setLength {σ σ' : Sg} {y : Nat} {B : Nat → Nat} {S S' : HS} {kc rv r : Int32} {v : Int32} (n20 : vn σ ≤ 20) (hP : P_setLength σ v kc rv σ') (hM : ((60 ≤ v ∧ v ≤ 900) ∧ r = vg σ 2 ∧ MX y B (setG σ 2 v) S S' 0) ∨ (¬ (60 ≤ v ∧ v ≤ 900) ∧ MX y B σ S S' 1)) : MX y B σ' S S' kc ∧ (kc = 0 → rv = r) := by
  rcases hP with ⟨rfl, rfl, p⟩ | ⟨rfl, rfl, p⟩ <;> rcases hM with m | m
  · exact ⟨m.2.2, fun _ => p.2.trans m.2.1.symm⟩
  · exact absurd p.1 m.1
  · exact absurd m.1 p
  · exact ⟨m.2, (fun z => absurd z (by decide))⟩

theorem co_setMoon {σ σ' : Sg} {y : Nat} {B : Nat → Nat} {S S' : HS} {kc rv r : Int32} {u v w : Int32} (n20 : vn σ ≤ 20) (hP : P_setMoon σ u v w kc rv σ') (hM : ((((0 ≤ u ∧ u ≤ 1439) ∧ (-90 ≤ v ∧ v ≤ 90)) ∧ (0 ≤ w ∧ w ≤ 29)) ∧ r = lightV w ∧ MX y B (setG (setG (setG σ 4 u) 5 v) 6 w) S S' 0) ∨ (¬ (((0 ≤ u ∧ u ≤ 1439) ∧ (-90 ≤ v ∧ v ≤ 90)) ∧ (0 ≤ w ∧ w ≤ 29)) ∧ MX y B σ S S' 1)) : MX y B σ' S S' kc ∧ (kc = 0 → rv = r) := by
  rcases hP with ⟨rfl, rfl, p⟩ | ⟨rfl, rfl, p⟩ <;> rcases hM with m | m
  · exact ⟨m.2.2, fun _ => p.2.trans m.2.1.symm⟩
  · exact absurd p.1 m.1
  · exact absurd m.1 p
  · exact ⟨m.2, (fun z => absurd z (by decide))⟩

theorem co_addClouds {σ σ' : Sg} {y : Nat} {B : Nat → Nat} {S S' : HS} {kc rv r : Int32} {v w : Int32} (n20 : vn σ ≤ 20) (hP : P_addClouds σ v w kc rv σ') (hM : ((0 ≤ v ∧ v ≤ w ∧ w < vg σ 2) ∧ vc σ < 8 ∧ r = clN (addC σ v w) (lnV σ) ∧ MX y B (addC σ v w) S S' 0) ∨ (¬ (0 ≤ v ∧ v ≤ w ∧ w < vg σ 2) ∧ MX y B σ S S' 1) ∨ ((0 ≤ v ∧ v ≤ w ∧ w < vg σ 2) ∧ vc σ = 8 ∧ MX y B σ S S' 2)) : MX y B σ' S S' kc ∧ (kc = 0 → rv = r) := by
  rcases hP with ⟨rfl, rfl, p⟩ | ⟨rfl, rfl, p⟩ | ⟨rfl, rfl, p⟩ <;> rcases hM with m | m | m
  · exact ⟨m.2.2.2, fun _ => p.2.2.trans m.2.2.1.symm⟩
  · exact absurd p.1 m.1
  · exact absurd m.2.1 (by have := p.2.1; omega)
  · exact absurd m.1 p
  · exact ⟨m.2, (fun z => absurd z (by decide))⟩
  · exact absurd m.1 p
  · exact absurd p.2 (by have := m.2.1; omega)
  · exact absurd p.1 m.1
  · exact ⟨m.2.2, (fun z => absurd z (by decide))⟩

theorem co_sine {σ σ' : Sg} {y : Nat} {B : Nat → Nat} {S S' : HS} {kc rv r : Int32} {d : Int32} (n20 : vn σ ≤ 20) (hP : P_sine σ d kc rv σ') (hM : ((-10000 ≤ d ∧ d ≤ 10000) ∧ r = sn d ∧ MX y B σ S S' 0) ∨ (¬ (-10000 ≤ d ∧ d ≤ 10000) ∧ MX y B σ S S' 1)) : MX y B σ' S S' kc ∧ (kc = 0 → rv = r) := by
  rcases hP with ⟨rfl, rfl, p⟩ | ⟨rfl, rfl, p⟩ <;> rcases hM with m | m
  · exact ⟨m.2.2, fun _ => p.2.trans m.2.1.symm⟩
  · exact absurd p.1 m.1
  · exact absurd m.1 p
  · exact ⟨m.2, (fun z => absurd z (by decide))⟩

theorem co_addTarget {σ σ' : Sg} {y : Nat} {B : Nat → Nat} {S S' : HS} {kc rv r : Int32} {u v f w m : Int32} (n20 : vn σ ≤ 20) (hP : P_addTarget σ u v f w m kc rv σ') (hM : ((((0 ≤ u ∧ u ≤ 1439) ∧ (-90 ≤ v ∧ v ≤ 90)) ∧ (0 ≤ f ∧ f ≤ 3) ∧ (1 ≤ w ∧ w ≤ 9) ∧ (5 ≤ m ∧ m ≤ 120)) ∧ vn σ < 20 ∧ r = nI (vn σ) ∧ MX y B (addT σ u v f w m) S S' 0) ∨ (¬ (((0 ≤ u ∧ u ≤ 1439) ∧ (-90 ≤ v ∧ v ≤ 90)) ∧ (0 ≤ f ∧ f ≤ 3) ∧ (1 ≤ w ∧ w ≤ 9) ∧ (5 ≤ m ∧ m ≤ 120)) ∧ MX y B σ S S' 1) ∨ ((((0 ≤ u ∧ u ≤ 1439) ∧ (-90 ≤ v ∧ v ≤ 90)) ∧ (0 ≤ f ∧ f ≤ 3) ∧ (1 ≤ w ∧ w ≤ 9) ∧ (5 ≤ m ∧ m ≤ 120)) ∧ vn σ = 20 ∧ MX y B σ S S' 2)) : MX y B σ' S S' kc ∧ (kc = 0 → rv = r) := by
  rcases hP with ⟨rfl, rfl, p⟩ | ⟨rfl, rfl, p⟩ | ⟨rfl, rfl, p⟩ <;> rcases hM with m | m | m
  · exact ⟨m.2.2.2, fun _ => p.2.2.trans m.2.2.1.symm⟩
  · exact absurd p.1 m.1
  · exact absurd m.2.1 (by have := p.2.1; omega)
  · exact absurd m.1 p
  · exact ⟨m.2, (fun z => absurd z (by decide))⟩
  · exact absurd m.1 p
  · exact absurd p.2 (by have := m.2.1; omega)
  · exact absurd p.1 m.1
  · exact ⟨m.2.2, (fun z => absurd z (by decide))⟩

theorem co_want {σ σ' : Sg} {y : Nat} {B : Nat → Nat} {S S' : HS} {kc rv r : Int32} {t u v w : Int32} (n20 : vn σ ≤ 20) (hP : P_want σ t u v w kc rv σ') (hM : (((-1000 ≤ u ∧ u ≤ 1000) ∧ (1 ≤ v ∧ v ≤ 10) ∧ (1 ≤ w ∧ w ≤ 20)) ∧ ∃ k, k < vn σ ∧ t = nI k ∧ r = vt σ k 6 ∧ MX y B (upT σ k (wnF σ k u v w)) S S' 0) ∨ (¬ isTg (vn σ) t ∧ MX y B σ S S' 1) ∨ (isTg (vn σ) t ∧ ¬ ((-1000 ≤ u ∧ u ≤ 1000) ∧ (1 ≤ v ∧ v ≤ 10) ∧ (1 ≤ w ∧ w ≤ 20)) ∧ MX y B σ S S' 2)) : MX y B σ' S S' kc ∧ (kc = 0 → rv = r) := by
  rcases hP with ⟨rfl, p⟩ | ⟨rfl, rfl, p⟩ | ⟨rfl, rfl, p⟩ <;> rcases hM with m | m | m
  · obtain ⟨c, k, hk, ht, hσ, e1⟩ := p
    obtain ⟨c2, k2, hk2, ht2, e2, mx⟩ := m
    have ek : k = k2 := nI_inj (by omega) (by omega) (ht.symm.trans ht2)
    subst ek
    subst hσ
    exact ⟨mx, fun _ => e1.trans e2.symm⟩
  · obtain ⟨c, k, hk, ht, -⟩ := p
    exact absurd ⟨k, hk, ht⟩ m.1
  · exact absurd p.1 m.2.1
  · obtain ⟨c, k, hk, ht, -⟩ := m
    exact absurd ⟨k, hk, ht⟩ p
  · exact ⟨m.2, (fun z => absurd z (by decide))⟩
  · exact absurd m.1 p
  · exact absurd m.1 p.2
  · exact absurd p.1 m.1
  · exact ⟨m.2.2, (fun z => absurd z (by decide))⟩

theorem co_target {σ σ' : Sg} {y : Nat} {B : Nat → Nat} {S S' : HS} {kc rv r : Int32} {t w : Int32} (n20 : vn σ ≤ 20) (hP : P_target σ t w kc rv σ') (hM : (∃ k j, k < vn σ ∧ j < 10 ∧ t = nI k ∧ w = nI j ∧ r = vt σ k j ∧ MX y B σ S S' 0) ∨ (¬ (isTg (vn σ) t ∧ 0 ≤ w ∧ w < 10) ∧ MX y B σ S S' 1)) : MX y B σ' S S' kc ∧ (kc = 0 → rv = r) := by
  rcases hP with ⟨rfl, rfl, p⟩ | ⟨rfl, rfl, p⟩ <;> rcases hM with m | m
  · obtain ⟨k, j, hk, hj, ht, hw, e1⟩ := p
    obtain ⟨k2, j2, hk2, hj2, ht2, hw2, e2, mx⟩ := m
    have ek : k = k2 := nI_inj (by omega) (by omega) (ht.symm.trans ht2)
    have ej : j = j2 := nI_inj (by omega) (by omega) (hw.symm.trans hw2)
    subst ek ej
    exact ⟨mx, fun _ => e1.trans e2.symm⟩
  · obtain ⟨k, j, hk, hj, ht, hw, e1⟩ := p
    have q := (isTg_iff (n := 10) (by decide)).mp ⟨j, hj, hw⟩
    exact absurd ⟨⟨k, hk, ht⟩, q.1, q.2⟩ m.1
  · obtain ⟨k, j, hk, hj, ht, hw, e1⟩ := m
    have q := (isTg_iff (n := 10) (by decide)).mp ⟨j, hj, hw⟩
    exact absurd ⟨⟨k, hk, ht⟩, q.1, q.2⟩ p
  · exact ⟨m.2, (fun z => absurd z (by decide))⟩

theorem co_height {σ σ' : Sg} {y : Nat} {B : Nat → Nat} {S S' : HS} {kc rv r : Int32} {t u : Int32} (n20 : vn σ ≤ 20) (hP : P_height σ t u kc rv σ') (hM : ((0 ≤ u ∧ u ≤ vg σ 2 - 1) ∧ ∃ k, k < vn σ ∧ t = nI k ∧ r = thV σ k u ∧ MX y B σ S S' 0) ∨ (¬ isTg (vn σ) t ∧ MX y B σ S S' 1) ∨ (isTg (vn σ) t ∧ ¬ (0 ≤ u ∧ u ≤ vg σ 2 - 1) ∧ MX y B σ S S' 2)) : MX y B σ' S S' kc ∧ (kc = 0 → rv = r) := by
  rcases hP with ⟨rfl, rfl, p⟩ | ⟨rfl, rfl, p⟩ | ⟨rfl, rfl, p⟩ <;> rcases hM with m | m | m
  · obtain ⟨c, k, hk, ht, e1⟩ := p
    obtain ⟨c2, k2, hk2, ht2, e2, mx⟩ := m
    have ek : k = k2 := nI_inj (by omega) (by omega) (ht.symm.trans ht2)
    subst ek
    exact ⟨mx, fun _ => e1.trans e2.symm⟩
  · obtain ⟨c, k, hk, ht, -⟩ := p
    exact absurd ⟨k, hk, ht⟩ m.1
  · exact absurd p.1 m.2.1
  · obtain ⟨c, k, hk, ht, -⟩ := m
    exact absurd ⟨k, hk, ht⟩ p
  · exact ⟨m.2, (fun z => absurd z (by decide))⟩
  · exact absurd m.1 p
  · exact absurd m.1 p.2
  · exact absurd p.1 m.1
  · exact ⟨m.2.2, (fun z => absurd z (by decide))⟩

theorem co_nearness {σ σ' : Sg} {y : Nat} {B : Nat → Nat} {S S' : HS} {kc rv r : Int32} {t u : Int32} (n20 : vn σ ≤ 20) (hP : P_nearness σ t u kc rv σ') (hM : (∃ k j, k < vn σ ∧ j < vn σ ∧ t = nI k ∧ u = nI j ∧ r = nearV (vt σ k 0) (vt σ k 1) (vt σ j 0) (vt σ j 1) ∧ MX y B σ S S' 0) ∨ (¬ (isTg (vn σ) t ∧ isTg (vn σ) u) ∧ MX y B σ S S' 1)) : MX y B σ' S S' kc ∧ (kc = 0 → rv = r) := by
  rcases hP with ⟨rfl, rfl, p⟩ | ⟨rfl, rfl, p⟩ <;> rcases hM with m | m
  · obtain ⟨k, j, hk, hj, ht, hw, e1⟩ := p
    obtain ⟨k2, j2, hk2, hj2, ht2, hw2, e2, mx⟩ := m
    have ek : k = k2 := nI_inj (by omega) (by omega) (ht.symm.trans ht2)
    have ej : j = j2 := nI_inj (by omega) (by omega) (hw.symm.trans hw2)
    subst ek ej
    exact ⟨mx, fun _ => e1.trans e2.symm⟩
  · obtain ⟨k, j, hk, hj, ht, hw, e1⟩ := p
    exact absurd ⟨⟨k, hk, ht⟩, ⟨j, hj, hw⟩⟩ m.1
  · obtain ⟨k, j, hk, hj, ht, hw, e1⟩ := m
    exact absurd ⟨⟨k, hk, ht⟩, ⟨j, hj, hw⟩⟩ p
  · exact ⟨m.2, (fun z => absurd z (by decide))⟩

theorem co_moonNearness {σ σ' : Sg} {y : Nat} {B : Nat → Nat} {S S' : HS} {kc rv r : Int32} {t : Int32} (n20 : vn σ ≤ 20) (hP : P_moonNearness σ t kc rv σ') (hM : (∃ k, k < vn σ ∧ t = nI k ∧ r = mnV σ k ∧ MX y B σ S S' 0) ∨ (¬ isTg (vn σ) t ∧ MX y B σ S S' 1)) : MX y B σ' S S' kc ∧ (kc = 0 → rv = r) := by
  rcases hP with ⟨rfl, rfl, p⟩ | ⟨rfl, rfl, p⟩ <;> rcases hM with m | m
  · obtain ⟨k, hk, ht, e1⟩ := p
    obtain ⟨k2, hk2, ht2, e2, mx⟩ := m
    have ek : k = k2 := nI_inj (by omega) (by omega) (ht.symm.trans ht2)
    subst ek
    exact ⟨mx, fun _ => e1.trans e2.symm⟩
  · obtain ⟨k, hk, ht, e1⟩ := p
    exact absurd ⟨k, hk, ht⟩ m.1
  · obtain ⟨k, hk, ht, e1⟩ := m
    exact absurd ⟨k, hk, ht⟩ p
  · exact ⟨m.2, (fun z => absurd z (by decide))⟩

theorem co_moonHeight {σ σ' : Sg} {y : Nat} {B : Nat → Nat} {S S' : HS} {kc rv r : Int32} {u : Int32} (n20 : vn σ ≤ 20) (hP : P_moonHeight σ u kc rv σ') (hM : ((0 ≤ u ∧ u ≤ vg σ 2 - 1) ∧ r = mhV σ u ∧ MX y B σ S S' 0) ∨ (¬ (0 ≤ u ∧ u ≤ vg σ 2 - 1) ∧ MX y B σ S S' 1)) : MX y B σ' S S' kc ∧ (kc = 0 → rv = r) := by
  rcases hP with ⟨rfl, rfl, p⟩ | ⟨rfl, rfl, p⟩ <;> rcases hM with m | m
  · exact ⟨m.2.2, fun _ => p.2.trans m.2.1.symm⟩
  · exact absurd p.1 m.1
  · exact absurd m.1 p
  · exact ⟨m.2, (fun z => absurd z (by decide))⟩

theorem co_reason {σ σ' : Sg} {y : Nat} {B : Nat → Nat} {S S' : HS} {kc rv r : Int32} {t u : Int32} (n20 : vn σ ≤ 20) (hP : P_reason σ t u kc rv σ') (hM : ((0 ≤ u ∧ u ≤ vg σ 2 - 1) ∧ ∃ k, k < vn σ ∧ t = nI k ∧ r = rsnV σ k u ∧ MX y B σ S S' 0) ∨ (¬ isTg (vn σ) t ∧ MX y B σ S S' 1) ∨ (isTg (vn σ) t ∧ ¬ (0 ≤ u ∧ u ≤ vg σ 2 - 1) ∧ MX y B σ S S' 2)) : MX y B σ' S S' kc ∧ (kc = 0 → rv = r) := by
  rcases hP with ⟨rfl, rfl, p⟩ | ⟨rfl, rfl, p⟩ | ⟨rfl, rfl, p⟩ <;> rcases hM with m | m | m
  · obtain ⟨c, k, hk, ht, e1⟩ := p
    obtain ⟨c2, k2, hk2, ht2, e2, mx⟩ := m
    have ek : k = k2 := nI_inj (by omega) (by omega) (ht.symm.trans ht2)
    subst ek
    exact ⟨mx, fun _ => e1.trans e2.symm⟩
  · obtain ⟨c, k, hk, ht, -⟩ := p
    exact absurd ⟨k, hk, ht⟩ m.1
  · exact absurd p.1 m.2.1
  · obtain ⟨c, k, hk, ht, -⟩ := m
    exact absurd ⟨k, hk, ht⟩ p
  · exact ⟨m.2, (fun z => absurd z (by decide))⟩
  · exact absurd m.1 p
  · exact absurd m.1 p.2
  · exact absurd p.1 m.1
  · exact ⟨m.2.2, (fun z => absurd z (by decide))⟩

theorem co_window {σ σ' : Sg} {y : Nat} {B : Nat → Nat} {S S' : HS} {kc rv r : Int32} {t w : Int32} (n20 : vn σ ≤ 20) (hP : P_window σ t w kc rv σ') (hM : (∃ k j, k < vn σ ∧ j < 5 ∧ t = nI k ∧ w = nI j ∧ r = wnV σ k j ∧ MX y B σ S S' 0) ∨ (¬ (isTg (vn σ) t ∧ 0 ≤ w ∧ w < 5) ∧ MX y B σ S S' 1)) : MX y B σ' S S' kc ∧ (kc = 0 → rv = r) := by
  rcases hP with ⟨rfl, rfl, p⟩ | ⟨rfl, rfl, p⟩ <;> rcases hM with m | m
  · obtain ⟨k, j, hk, hj, ht, hw, e1⟩ := p
    obtain ⟨k2, j2, hk2, hj2, ht2, hw2, e2, mx⟩ := m
    have ek : k = k2 := nI_inj (by omega) (by omega) (ht.symm.trans ht2)
    have ej : j = j2 := nI_inj (by omega) (by omega) (hw.symm.trans hw2)
    subst ek ej
    exact ⟨mx, fun _ => e1.trans e2.symm⟩
  · obtain ⟨k, j, hk, hj, ht, hw, e1⟩ := p
    have q := (isTg_iff (n := 5) (by decide)).mp ⟨j, hj, hw⟩
    exact absurd ⟨⟨k, hk, ht⟩, q.1, q.2⟩ m.1
  · obtain ⟨k, j, hk, hj, ht, hw, e1⟩ := m
    have q := (isTg_iff (n := 5) (by decide)).mp ⟨j, hj, hw⟩
    exact absurd ⟨⟨k, hk, ht⟩, q.1, q.2⟩ p
  · exact ⟨m.2, (fun z => absurd z (by decide))⟩

theorem co_isOpen {σ σ' : Sg} {y : Nat} {B : Nat → Nat} {S S' : HS} {kc rv r : Int32} {t : Int32} (n20 : vn σ ≤ 20) (hP : P_isOpen σ t kc rv σ') (hM : (∃ k, k < vn σ ∧ t = nI k ∧ r = opI σ k ∧ MX y B σ S S' 0) ∨ (¬ isTg (vn σ) t ∧ MX y B σ S S' 1)) : MX y B σ' S S' kc ∧ (kc = 0 → rv = r) := by
  rcases hP with ⟨rfl, rfl, p⟩ | ⟨rfl, rfl, p⟩ <;> rcases hM with m | m
  · obtain ⟨k, hk, ht, e1⟩ := p
    obtain ⟨k2, hk2, ht2, e2, mx⟩ := m
    have ek : k = k2 := nI_inj (by omega) (by omega) (ht.symm.trans ht2)
    subst ek
    exact ⟨mx, fun _ => e1.trans e2.symm⟩
  · obtain ⟨k, hk, ht, e1⟩ := p
    exact absurd ⟨k, hk, ht⟩ m.1
  · obtain ⟨k, hk, ht, e1⟩ := m
    exact absurd ⟨k, hk, ht⟩ p
  · exact ⟨m.2, (fun z => absurd z (by decide))⟩

theorem co_count {σ σ' : Sg} {y : Nat} {B : Nat → Nat} {S S' : HS} {kc rv r : Int32} {w : Int32} (n20 : vn σ ≤ 20) (hP : P_count σ w kc rv σ') (hM : (∃ j, j < 4 ∧ w = nI j ∧ r = cnV σ j (vn σ) ∧ MX y B σ S S' 0) ∨ (¬ (0 ≤ w ∧ w < 4) ∧ MX y B σ S S' 1)) : MX y B σ' S S' kc ∧ (kc = 0 → rv = r) := by
  rcases hP with ⟨rfl, rfl, p⟩ | ⟨rfl, rfl, p⟩ <;> rcases hM with m | m
  · obtain ⟨j, hj, hw, e1⟩ := p
    obtain ⟨j2, hj2, hw2, e2, mx⟩ := m
    have ej : j = j2 := nI_inj (by omega) (by omega) (hw.symm.trans hw2)
    subst ej
    exact ⟨mx, fun _ => e1.trans e2.symm⟩
  · obtain ⟨j, hj, hw, e1⟩ := p
    have q := (isTg_iff (n := 4) (by decide)).mp ⟨j, hj, hw⟩
    exact absurd ⟨q.1, q.2⟩ m.1
  · obtain ⟨j, hj, hw, e1⟩ := m
    have q := (isTg_iff (n := 4) (by decide)).mp ⟨j, hj, hw⟩
    exact absurd ⟨q.1, q.2⟩ p
  · exact ⟨m.2, (fun z => absurd z (by decide))⟩

theorem co_visit {σ σ' : Sg} {y : Nat} {B : Nat → Nat} {S S' : HS} {kc rv r : Int32} {i w : Int32} (n20 : vn σ ≤ 20) (hP : P_visit σ i w kc rv σ') (hM : (∃ k j, k < pS σ (plV σ) ∧ j < 4 ∧ i = nI k ∧ w = nI j ∧ r = pR (plV σ) k j ∧ MX y B σ S S' 0) ∨ (¬ (isTg (pS σ (plV σ)) i ∧ 0 ≤ w ∧ w < 4) ∧ MX y B σ S S' 1)) : MX y B σ' S S' kc ∧ (kc = 0 → rv = r) := by
  have hb : pS σ (plV σ) ≤ 20 := Nat.le_trans (ctU_le _ _) n20
  rcases hP with ⟨rfl, rfl, p⟩ | ⟨rfl, rfl, p⟩ <;> rcases hM with m | m
  · obtain ⟨k, j, hk, hj, ht, hw, e1⟩ := p
    obtain ⟨k2, j2, hk2, hj2, ht2, hw2, e2, mx⟩ := m
    have ek : k = k2 := nI_inj (by omega) (by omega) (ht.symm.trans ht2)
    have ej : j = j2 := nI_inj (by omega) (by omega) (hw.symm.trans hw2)
    subst ek ej
    exact ⟨mx, fun _ => e1.trans e2.symm⟩
  · obtain ⟨k, j, hk, hj, ht, hw, e1⟩ := p
    have q := (isTg_iff (n := 4) (by decide)).mp ⟨j, hj, hw⟩
    exact absurd ⟨⟨k, hk, ht⟩, q.1, q.2⟩ m.1
  · obtain ⟨k, j, hk, hj, ht, hw, e1⟩ := m
    have q := (isTg_iff (n := 4) (by decide)).mp ⟨j, hj, hw⟩
    exact absurd ⟨⟨k, hk, ht⟩, q.1, q.2⟩ p
  · exact ⟨m.2, (fun z => absurd z (by decide))⟩

theorem co_observe {σ σ' : Sg} {y : Nat} {B : Nat → Nat} {S S' : HS} {kc rv r : Int32} (n20 : vn σ ≤ 20) (hP : P_observe σ kc rv σ') (hM : (vg σ 3 < 60 ∧ r = nI (pS σ (plV σ)) ∧ MX y B (obN σ) S S' 0) ∨ (¬ vg σ 3 < 60 ∧ MX y B σ S S' 1)) : MX y B σ' S S' kc ∧ (kc = 0 → rv = r) := by
  rcases hP with ⟨rfl, rfl, p⟩ | ⟨rfl, rfl, p⟩ <;> rcases hM with m | m
  · exact ⟨m.2.2, fun _ => p.2.trans m.2.1.symm⟩
  · exact absurd p.1 m.1
  · exact absurd m.1 p
  · exact ⟨m.2, (fun z => absurd z (by decide))⟩

theorem co_pass {σ σ' : Sg} {y : Nat} {B : Nat → Nat} {S S' : HS} {kc rv r : Int32} {w : Int32} (n20 : vn σ ≤ 20) (hP : P_pass σ w kc rv σ') (hM : ((1 ≤ w ∧ w ≤ 60 - vg σ 3) ∧ ∃ m, w = nI m ∧ m ≤ 60 ∧ r = vg σ 3 + nI m ∧ MX y B (nxN σ m) S S' 0) ∨ (¬ (1 ≤ w ∧ w ≤ 60 - vg σ 3) ∧ MX y B σ S S' 1)) : MX y B σ' S S' kc ∧ (kc = 0 → rv = r) := by
  rcases hP with ⟨rfl, p⟩ | ⟨rfl, rfl, p⟩ <;> rcases hM with m | m
  · obtain ⟨c, j, hj, h6, hσ, e1⟩ := p
    obtain ⟨c2, j2, hj2, h62, e2, mx⟩ := m
    have ej : j = j2 := nI_inj (by omega) (by omega) (hj.symm.trans hj2)
    subst ej
    subst hσ
    exact ⟨mx, fun _ => e1.trans e2.symm⟩
  · exact absurd p.1 m.1
  · exact absurd m.1 p
  · exact ⟨m.2, (fun z => absurd z (by decide))⟩

theorem CSo {y o : Nat} {B : Nat → Nat} {σ : Sg} {T U : HS} {k : Int32} (m : MX y B σ T U k) (ko : hK T o = 14) : hK U o = 14 := (m.2.1.1 o (by rw [ko]; decide) (by rw [ko]; decide)).1.trans ko
theorem CSn {y o : Nat} {B : Nat → Nat} {σ : Sg} {T U : HS} {k : Int32} (m : MX y B σ T U k) (ko : hK T o = 14) (no : hN T o = 1) : hN U o = 1 := (m.2.1.1 o (by rw [ko]; decide) (by rw [ko]; decide)).2.1.trans no
