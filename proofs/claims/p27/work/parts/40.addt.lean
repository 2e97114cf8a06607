/-! a target more -/
def ntF (ri de fi ra mi : Int32) (j : Nat) : Int32 := if j = 0 then ri else if j = 1 then de else if j = 2 then fi else if j = 3 then ra else if j = 4 then 300 else if j = 5 then mi else if j = 6 then 1 else if j = 7 then 1 else if j = 8 then 0 else -1
def addT (σ : Sg) (ri de fi ra mi : Int32) : Sg := (σ.1, fun k j => if k = vn σ then ntF ri de fi ra mi j else vt σ k j, vn σ + 1, σ.2.2.2)
def nA (A : Nat → Nat → Nat) (n e g q o r : Nat) : Nat → Nat → Nat := fun i j => if i = 0 then (if j = 6 then e else A 0 j) else if i = 5 then A 5 j else if j = n then (if i = 1 then g else if i = 2 then q else if i = 3 then o else r) else A i j
theorem addT_rng {σ : Sg} {ri de fi ra mi : Int32} (hr : Rng σ) (hn : vn σ < 20) (h : ((0 ≤ ri ∧ ri ≤ 1439) ∧ (-90 ≤ de ∧ de ≤ 90)) ∧ (0 ≤ fi ∧ fi ≤ 3) ∧ (1 ≤ ra ∧ ra ≤ 9) ∧ (5 ≤ mi ∧ mi ≤ 120)) : Rng (addT σ ri de fi ra mi) := by
  obtain ⟨r0, r1, r2, r3, r4, r5, r6, r7, r8⟩ := hr
  refine ⟨r0, r1, r2, r3, r4, r5, r6, (by show vn σ + 1 ≤ 20; omega), fun k hk => ?_⟩
  have hk' : k < vn σ + 1 := hk
  by_cases e : k = vn σ
  · have ev : ∀ j, vt (addT σ ri de fi ra mi) k j = ntF ri de fi ra mi j := fun j => if_pos e
    rw [ev, ev, ev, ev, ev, ev, ev]
    exact ⟨h.1.1, h.1.2, h.2.1, h.2.2.1, h.2.2.2, ⟨Int32.le_refl _, r3.1⟩, ⟨fun _ => rfl, fun _ => rfl⟩⟩
  · have ev : ∀ j, vt (addT σ ri de fi ra mi) k j = vt σ k j := fun j => if_neg e
    rw [ev, ev, ev, ev, ev, ev, ev]
    exact r8 k (by omega)
theorem newT {G : JG} {x : Nat} {A : Nat → Nat → Nat} {σ : Sg} {S T : HS} {e g q o r N : Nat} {ri de fi ra mi : Int32} (hc : CI G x A σ S) (hn : vn σ < 20) (hr' : Rng (addT σ ri de fi ra mi))
    (hs1 : ∀ a, a ≠ A 0 5 → a ≠ A 0 7 → hK S a ≠ 12 → hK S a ≠ 0 → same1 S T a) (hl : hK T (A 0 5) = 1 ∧ hP T 1 (A 0 5) = some e ∧ hI T 2 (A 0 5) = nI (vn σ + 1))
    (he : hK T e = 12 ∧ hN T e = N ∧ (N = 10 ∨ N = 15 ∨ N = 22) ∧ vn σ < N ∧ (∀ k, k < vn σ → hP T k e = hP S k (A 0 6)) ∧ hP T (vn σ) e = some g)
    (hp : hK T (A 0 7) = 4 ∧ (∀ k, hP T k (A 0 7) = hP S k (A 0 7)) ∧ hI T 1 (A 0 7) = 0)
    (hg : hK S g = 0 ∧ hK T g = 6 ∧ hP T 1 g = some q ∧ hP T 5 g = some o ∧ hI T 0 g = nI (vn σ) ∧ hI T 2 g = fi ∧ hI T 3 g = ra ∧ hI T 4 g = mi ∧ hI T 6 g = 300 ∧ hI T 7 g = 1 ∧ hI T 8 g = 1 ∧ hI T 9 g = 0 ∧ hI T 10 g = -1)
    (hq : ptP q ri de T) (ho : hK S o = 0 ∧ hK T o = 3 ∧ hP T 0 o = some r ∧ hI T 1 o = 0) (hr : hK S r = 0 ∧ hK T r = 10 ∧ hN T r = 900) : CI G x (nA A (vn σ) e g q o r) (addT σ ri de fi ra mi) T := by
  obtain ⟨hs, hv, -, hoc, hpc⟩ := hc
  have s1 : ∀ {a m}, hK S a = m → m ≠ 0 → m ≠ 1 → m ≠ 4 → m ≠ 12 → same1 S T a := fun {a m} q1 q2 q3 q4 q5 => hs1 a (fun z => q3 (by rw [← q1, z]; exact hs.kl)) (fun z => q4 (by rw [← q1, z]; exact hs.kp)) (by rw [q1]; exact q5) (by rw [q1]; exact q2)
  have ex := s1 hs.kx (by decide) (by decide) (by decide) (by decide)
  have ez := s1 hs.kz (by decide) (by decide) (by decide) (by decide)
  have em := s1 hs.km (by decide) (by decide) (by decide) (by decide)
  have ec := s1 hs.kc (by decide) (by decide) (by decide) (by decide)
  have ef := s1 hs.kf (by decide) (by decide) (by decide) (by decide)
  have et := s1 hs.kt (by decide) (by decide) (by decide) (by decide)
  have er := s1 hs.kr (by decide) (by decide) (by decide) (by decide)
  have erow := fun {i} (hi : i < 20) => s1 (hs.krow hi) (by decide) (by decide) (by decide) (by decide)
  have eg := fun {k} (hk : k < vn σ) => s1 (hs.kg hk) (by decide) (by decide) (by decide) (by decide)
  have ept := fun {k} (hk : k < vn σ) => s1 (hs.kpt hk) (by decide) (by decide) (by decide) (by decide)
  have eo := fun {k} (hk : k < vn σ) => s1 (hs.ko hk) (by decide) (by decide) (by decide) (by decide)
  have eru := fun {k} (hk : k < vn σ) => s1 (hs.kru hk) (by decide) (by decide) (by decide) (by decide)
  have a0 : ∀ {j}, j ≠ 6 → nA A (vn σ) e g q o r 0 j = A 0 j := fun {j} hj => (if_pos rfl).trans (if_neg hj)
  have a06 : nA A (vn σ) e g q o r 0 6 = e := (if_pos rfl).trans (if_pos rfl)
  have a5 : ∀ {j}, nA A (vn σ) e g q o r 5 j = A 5 j := (if_neg (by decide)).trans (if_pos rfl)
  have an : ∀ {i}, i ≠ 0 → i ≠ 5 → nA A (vn σ) e g q o r i (vn σ) = (if i = 1 then g else if i = 2 then q else if i = 3 then o else r) := fun {i} h0 h5 => (if_neg h0).trans ((if_neg h5).trans (if_pos rfl))
  have ak : ∀ {i k}, i ≠ 0 → i ≠ 5 → k ≠ vn σ → nA A (vn σ) e g q o r i k = A i k := fun {i k} h0 h5 hk => (if_neg h0).trans ((if_neg h5).trans (if_neg hk))
  have a1n : nA A (vn σ) e g q o r 1 (vn σ) = g := an (by decide) (by decide)
  have a2n : nA A (vn σ) e g q o r 2 (vn σ) = q := an (by decide) (by decide)
  have a3n : nA A (vn σ) e g q o r 3 (vn σ) = o := an (by decide) (by decide)
  have a4n : nA A (vn σ) e g q o r 4 (vn σ) = r := an (by decide) (by decide)
  obtain ⟨e1, e2, e3, e4, e5, e6⟩ := he
  obtain ⟨g0, g1, g2, g3, g4⟩ := hg
  obtain ⟨o0, o1, o2, o3⟩ := ho
  obtain ⟨r0, r1, r2⟩ := hr
  have hS : Shp G x (nA A (vn σ) e g q o r) (vn σ + 1) T := by
    unfold Shp
    simp only [a0 (show 0 ≠ 6 by decide), a0 (show 1 ≠ 6 by decide), a0 (show 2 ≠ 6 by decide), a0 (show 3 ≠ 6 by decide), a0 (show 4 ≠ 6 by decide), a0 (show 5 ≠ 6 by decide), a0 (show 7 ≠ 6 by decide), a0 (show 8 ≠ 6 by decide), a06, a5]
    refine ⟨⟨ex.1.trans hs.kx, (ex.2.2.2.1 _).trans hs.pz, ez.1.trans hs.kz, (ex.2.2.2.1 _).trans hs.pm, em.1.trans hs.km⟩, ⟨(ex.2.2.2.1 _).trans hs.pc, ec.1.trans hs.kc, (ec.2.2.2.1 _).trans hs.pf, ef.1.trans hs.kf, ef.2.1.trans hs.nf, (ec.2.2.2.1 _).trans hs.pt, et.1.trans hs.kt, et.2.1.trans hs.nt⟩,
      ⟨(ex.2.2.2.1 _).trans hs.pl, hl.1, hl.2.1, by omega, Or.inr ⟨e1, by rw [e2]; omega, by rw [e2]; exact e3⟩⟩, ⟨(ex.2.2.2.1 _).trans hs.pp, hp.1, (hp.2.1 _).trans hs.pr, er.1.trans hs.kr, er.2.1.trans hs.nr⟩, fun i hi => ⟨(er.2.2.2.1 _).trans (hs.row hi), (erow hi).1.trans (hs.krow hi), (erow hi).2.1.trans (hs.nrow hi)⟩, fun i j hi hj z => hs.irow hi hj z, fun k hk => ?_, fun i j hi hj z => ?_, fun q' z => ?_⟩
    · by_cases c : k = vn σ
      · subst c
        rw [a1n, a2n, a3n, a4n]
        exact ⟨e6, g1, g2, hq.1, g3, o1, o2, r1, r2⟩
      · have hk' : k < vn σ := by omega
        rw [ak (by decide) (by decide) c, ak (by decide) (by decide) c, ak (by decide) (by decide) c, ak (by decide) (by decide) c]
        exact ⟨(e5 k hk').trans (hs.pg hk'), (eg hk').1.trans (hs.kg hk'), ((eg hk').2.2.2.1 _).trans (hs.ppt hk'), (ept hk').1.trans (hs.kpt hk'), ((eg hk').2.2.2.1 _).trans (hs.po hk'), (eo hk').1.trans (hs.ko hk'), ((eo hk').2.2.2.1 _).trans (hs.pru hk'), (eru hk').1.trans (hs.kru hk'), (eru hk').2.1.trans (hs.nru hk')⟩
    · have nz : ∀ {k}, k < vn σ → A 1 k ≠ g ∧ A 3 k ≠ o ∧ A 4 k ≠ r := fun {k} hk => ⟨nqz g0 (hs.kg hk) (by decide), nqz o0 (hs.ko hk) (by decide), nqz r0 (hs.kru hk) (by decide)⟩
      by_cases ci : i = vn σ
      · by_cases cj : j = vn σ
        · omega
        · subst ci
          have hj' : j < vn σ := by omega
          rw [a1n, a3n, a4n, ak (by decide) (by decide) cj, ak (by decide) (by decide) cj, ak (by decide) (by decide) cj] at z
          obtain ⟨z1, z2, z3⟩ := nz hj'
          rcases z with z | z | z
          · exact (z1 z.symm).elim
          · exact (z2 z.symm).elim
          · exact (z3 z.symm).elim
      · have hi' : i < vn σ := by omega
        by_cases cj : j = vn σ
        · subst cj
          rw [a1n, a3n, a4n, ak (by decide) (by decide) ci, ak (by decide) (by decide) ci, ak (by decide) (by decide) ci] at z
          obtain ⟨z1, z2, z3⟩ := nz hi'
          rcases z with z | z | z
          · exact (z1 z).elim
          · exact (z2 z).elim
          · exact (z3 z).elim
        · rw [ak (by decide) (by decide) ci, ak (by decide) (by decide) ci, ak (by decide) (by decide) ci, ak (by decide) (by decide) cj, ak (by decide) (by decide) cj, ak (by decide) (by decide) cj] at z
          exact hs.inj hi' (by omega) z
    · rw [hp.2.1] at z
      obtain ⟨k, hk, rfl⟩ := hs.pnt z
      exact ⟨k, by omega, (ak (by decide) (by decide) (by omega)).symm⟩
  have hV0 : Vl x (nA A (vn σ) e g q o r) (addT σ ri de fi ra mi) T := by
    obtain ⟨⟨z0, z1, z2, z3⟩, ⟨m0, m1, m2, m3⟩, ⟨x2, x3, x4⟩, ⟨c2, c8, cc⟩, -, ht⟩ := hv
    unfold Vl
    simp only [a0 (show 0 ≠ 6 by decide), a0 (show 1 ≠ 6 by decide), a0 (show 2 ≠ 6 by decide), a0 (show 3 ≠ 6 by decide), a0 (show 4 ≠ 6 by decide), a0 (show 5 ≠ 6 by decide)]
    refine ⟨⟨(ez.2.2.1 _).trans z0, (ez.2.2.1 _).trans z1, (ez.2.2.1 _).trans z2, (ez.2.2.1 _).trans z3⟩, ⟨(em.2.2.1 _).trans m0, (em.2.2.1 _).trans m1, (em.2.2.1 _).trans m2, (em.2.2.1 _).trans m3⟩, ⟨(ex.2.2.1 _).trans x2, (ex.2.2.1 _).trans x3, (ex.2.2.1 _).trans x4⟩, ⟨(ec.2.2.1 _).trans c2, c8, fun i hi => ⟨(ef.2.2.2.2.1 _).trans (cc i hi).1, (et.2.2.2.2.1 _).trans (cc i hi).2⟩⟩, hl.2.2, fun k hk => ?_⟩
    have hk1 : k < vn σ + 1 := hk
    by_cases c : k = vn σ
    · subst c
      have ev : ∀ j, vt (addT σ ri de fi ra mi) (vn σ) j = ntF ri de fi ra mi j := fun j => if_pos rfl
      rw [a1n, a2n, ev, ev, ev, ev, ev, ev, ev, ev, ev, ev]
      obtain ⟨h4, h5, h6, h7, h8, h9, h10, h11, h12⟩ := g4
      obtain ⟨-, y0, y1, y2, y3⟩ := hq
      exact ⟨h4, h5, h6, h7, h8, h9, h10, h11, h12, y0, y1, y2, y3⟩
    · have hk' : k < vn σ := by omega
      have ev : ∀ j, vt (addT σ ri de fi ra mi) k j = vt σ k j := fun j => if_neg c
      rw [ak (by decide) (by decide) c, ak (by decide) (by decide) c, ev, ev, ev, ev, ev, ev, ev, ev, ev, ev]
      obtain ⟨t0, t1, t2, t3, t4, t5, t6, t7, t8, p0, p1, p2, p3⟩ := ht k hk'
      exact ⟨((eg hk').2.2.1 _).trans t0, ((eg hk').2.2.1 _).trans t1, ((eg hk').2.2.1 _).trans t2, ((eg hk').2.2.1 _).trans t3, ((eg hk').2.2.1 _).trans t4, ((eg hk').2.2.1 _).trans t5, ((eg hk').2.2.1 _).trans t6, ((eg hk').2.2.1 _).trans t7, ((eg hk').2.2.1 _).trans t8, ((ept hk').2.2.1 _).trans p0, ((ept hk').2.2.1 _).trans p1, ((ept hk').2.2.1 _).trans p2, ((ept hk').2.2.1 _).trans p3⟩
  refine ⟨hS, hV0, hr', fun k hk => ?_, Or.inl ?_⟩
  · have hk1 : k < vn σ + 1 := hk
    by_cases c : k = vn σ
    · subst c
      rw [a3n]
      exact Or.inl o3
    · have hk' : k < vn σ := by omega
      unfold OutOK
      rw [ak (by decide) (by decide) c, ak (by decide) (by decide) c]
      rcases hoc k hk' with w | ⟨w1, w2⟩
      · exact Or.inl (((eo hk').2.2.1 _).trans w)
      · exact Or.inr ⟨((eo hk').2.2.1 _).trans w1, OutOK.agr (A := A) (σ := σ) (σ' := addT σ ri de fi ra mi) w2 rfl rfl (fun j => if_neg c) (eo hk').2.2.1 (eru hk').2.2.2.2.1⟩
  · rw [a0 (by decide)]
    exact hp.2.2
