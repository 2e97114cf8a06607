/-! numbers: quotients, remainders, how large sine and nearness are (fb_rng .. fb_mulI, fb_negI: out of kit/laws/COUNTS) -/
theorem fb_rng (x : Int32) : -2147483648 ≤ x.toInt ∧ x.toInt < 2147483648 := by
  have h1 := Int32.le_toInt x
  have h2 := Int32.toInt_lt x
  omega
theorem fb_bmod {z : Int} (h1 : -2147483648 ≤ z) (h2 : z < 2147483648) : z.bmod (2 ^ 32) = z := by
  rw [Int.bmod_eq_of_le (by omega) (by omega)]
theorem fb_addI {x y : Int32} (h1 : -2147483648 ≤ x.toInt + y.toInt) (h2 : x.toInt + y.toInt < 2147483648) : (x + y).toInt = x.toInt + y.toInt := by
  rw [Int32.toInt_add, fb_bmod h1 h2]
theorem fb_subI {x y : Int32} (h1 : -2147483648 ≤ x.toInt - y.toInt) (h2 : x.toInt - y.toInt < 2147483648) : (x - y).toInt = x.toInt - y.toInt := by
  rw [Int32.toInt_sub, fb_bmod h1 h2]
theorem fb_mulI {x y : Int32} (h1 : -2147483648 ≤ x.toInt * y.toInt) (h2 : x.toInt * y.toInt < 2147483648) : (x * y).toInt = x.toInt * y.toInt := by
  rw [Int32.toInt_mul, fb_bmod h1 h2]
theorem fb_negI {x : Int32} (h : x.toInt ≠ -2147483648) : (-x).toInt = -x.toInt := by
  have := fb_rng x
  rw [Int32.toInt_neg, fb_bmod (by omega) (by omega)]
theorem tm_sign {a m : Int} (hm : 0 < m) : (0 ≤ a → 0 ≤ a.tmod m ∧ a.tmod m ≤ a ∧ 0 ≤ a.tdiv m) ∧ (a ≤ 0 → a.tmod m ≤ 0 ∧ a ≤ a.tmod m ∧ a.tdiv m ≤ 0) ∧ a = m * a.tdiv m + a.tmod m ∧ -m < a.tmod m ∧ a.tmod m < m := by
  have e : a = m * a.tdiv m + a.tmod m := by have := Int.tmod_def a m; omega
  obtain ⟨b1, b2⟩ := tmod_bounds (a := a) hm
  have key : ∀ b : Int, 0 ≤ b → 0 ≤ b.tmod m ∧ b.tmod m ≤ b ∧ 0 ≤ b.tdiv m := by
    intro b hb
    rw [Int.tmod_eq_emod_of_nonneg hb, Int.tdiv_eq_ediv_of_nonneg hb]
    have h1 := Int.emod_nonneg b (show m ≠ 0 by omega)
    have h2 := Int.ediv_nonneg hb (Int.le_of_lt hm)
    have h3 := Int.mul_ediv_add_emod b m
    have h4 := Int.mul_nonneg (Int.le_of_lt hm) h2
    exact ⟨h1, by omega, h2⟩
  refine ⟨key a, fun ha => ?_, e, b1, b2⟩
  obtain ⟨k1, k2, k3⟩ := key (-a) (by omega)
  rw [Int.neg_tmod] at k1 k2
  rw [Int.neg_tdiv] at k3
  omega
theorem divI {x y : Int32} (hy : 0 < y.toInt) : (x / y).toInt = x.toInt.tdiv y.toInt := by
  obtain ⟨h1, h2⟩ := fb_rng x
  obtain ⟨p, n, e, b1, b2⟩ := tm_sign (a := x.toInt) hy
  have hb : -2147483648 ≤ x.toInt.tdiv y.toInt ∧ x.toInt.tdiv y.toInt < 2147483648 := by
    rcases Int.le_total 0 x.toInt with h | h
    · obtain ⟨q1, q2, q3⟩ := p h
      have := Int.mul_le_mul_of_nonneg_right (show (1 : Int) ≤ y.toInt by omega) q3
      omega
    · obtain ⟨q1, q2, q3⟩ := n h
      have := Int.mul_le_mul_of_nonneg_right (show (1 : Int) ≤ y.toInt by omega) (show (0 : Int) ≤ -x.toInt.tdiv y.toInt by omega)
      rw [Int.mul_neg, Int.mul_neg] at this
      omega
  rw [Int32.toInt_div, fb_bmod hb.1 hb.2]
theorem imI {x y : Int32} (hy : 0 < y.toInt) : (im x y).toInt = x.toInt.tmod y.toInt := by
  obtain ⟨h1, h2⟩ := fb_rng x
  obtain ⟨p, n, e, b1, b2⟩ := tm_sign (a := x.toInt) hy
  obtain ⟨y1, y2⟩ := fb_rng y
  unfold im
  have em : y.toInt * x.toInt.tdiv y.toInt = x.toInt.tdiv y.toInt * y.toInt := Int.mul_comm _ _
  have hb : -2147483648 ≤ x.toInt.tdiv y.toInt * y.toInt ∧ x.toInt.tdiv y.toInt * y.toInt < 2147483648 ∧ -2147483648 ≤ x.toInt - x.toInt.tdiv y.toInt * y.toInt ∧ x.toInt - x.toInt.tdiv y.toInt * y.toInt < 2147483648 := by
    rcases Int.le_total 0 x.toInt with h | h
    · obtain ⟨q1, q2, q3⟩ := p h
      omega
    · obtain ⟨q1, q2, q3⟩ := n h
      omega
  have hm : (x / y * y).toInt = x.toInt.tdiv y.toInt * y.toInt := by rw [fb_mulI (by rw [divI hy]; exact hb.1) (by rw [divI hy]; exact hb.2.1), divI hy]
  rw [fb_subI (by rw [hm]; exact hb.2.2.1) (by rw [hm]; exact hb.2.2.2), hm]
  omega
theorem im_nn {x : Int32} {m : Nat} (hx : 0 ≤ x.toInt) (hm : 0 < m) (hm2 : m < 2147483648) : ∃ j, j < m ∧ im x (nI m) = nI j := by
  have hi := imI (x := x) (y := nI m) (by rw [nI_toInt hm2]; omega)
  rw [nI_toInt hm2] at hi
  obtain ⟨p, -, -, b1, b2⟩ := tm_sign (a := x.toInt) (m := (m : Int)) (by omega)
  obtain ⟨q1, q2, q3⟩ := p hx
  refine ⟨(x.toInt.tmod m).toNat, by omega, Int32.toInt_inj.mp ?_⟩
  rw [hi, nI_toInt (by omega)]
  omega
theorem snT_in (d : Int32) : ∃ j, j < 360 ∧ snT d = nI j := by
  refine im_nn (m := 360) ?_ (by decide) (by decide)
  have hi := imI (x := d) (y := 360) (by decide)
  obtain ⟨-, -, -, b1, b2⟩ := tm_sign (a := d.toInt) (m := 360) (by decide)
  rw [show (360 : Int32).toInt = 360 by decide] at hi
  rw [fb_addI (by rw [hi, show (360 : Int32).toInt = 360 by decide]; omega) (by rw [hi, show (360 : Int32).toInt = 360 by decide]; omega), hi, show (360 : Int32).toInt = 360 by decide]
  omega
def snJ (t : Int32) : Int32 := if 180 ≤ t then -(if 40500 - im t 180 * (180 - im t 180) ≤ 0 then 0 else 4000 * (im t 180 * (180 - im t 180)) / (40500 - im t 180 * (180 - im t 180))) else (if 40500 - im t 180 * (180 - im t 180) ≤ 0 then 0 else 4000 * (im t 180 * (180 - im t 180)) / (40500 - im t 180 * (180 - im t 180)))
theorem sn_J (d : Int32) : sn d = snJ (snT d) := rfl
theorem snJ_le : ∀ j, j < 360 → -1000 ≤ (snJ (nI j)).toInt ∧ (snJ (nI j)).toInt ≤ 1000 := fun j hj => co_dec (N := 360) (P := fun j => -1000 ≤ (snJ (nI j)).toInt ∧ (snJ (nI j)).toInt ≤ 1000) (by decide +kernel) hj
theorem sn_le (d : Int32) : -1000 ≤ (sn d).toInt ∧ (sn d).toInt ≤ 1000 := by
  obtain ⟨j, hj, e⟩ := snT_in d
  rw [sn_J, e]
  exact snJ_le j hj
def dcl (j : Nat) : Int32 := Int32.ofInt ((j : Int) - 90)
theorem dcl_of {d : Int32} (h1 : -90 ≤ d) (h2 : d ≤ 90) : ∃ j, j < 181 ∧ d = dcl j := by
  have a1 := Int32.le_iff_toInt_le.mp h1
  have a2 := Int32.le_iff_toInt_le.mp h2
  rw [show (-90 : Int32).toInt = -90 by decide] at a1
  rw [show (90 : Int32).toInt = 90 by decide] at a2
  refine ⟨(d.toInt + 90).toNat, by omega, ?_⟩
  unfold dcl
  rw [show (((d.toInt + 90).toNat : Int) - 90) = d.toInt by omega, Int32.ofInt_toInt]
theorem sc_le : ∀ j, j < 181 → (sn (dcl j)).toInt * (sn (dcl j)).toInt + (sn (dcl j + 90)).toInt * (sn (dcl j + 90)).toInt ≤ 1005000 := fun j hj => co_dec (N := 181) (P := fun j => (sn (dcl j)).toInt * (sn (dcl j)).toInt + (sn (dcl j + 90)).toInt * (sn (dcl j + 90)).toInt ≤ 1005000) (by decide +kernel) hj
theorem sq_nn (x : Int) : 0 ≤ x * x := by
  rcases Int.le_total 0 x with h | h
  · exact Int.mul_nonneg h h
  · have := Int.mul_nonneg (show 0 ≤ -x by omega) (show 0 ≤ -x by omega)
    rwa [Int.neg_mul_neg] at this
theorem two_le (x y : Int) : 2 * (x * y) ≤ x * x + y * y ∧ -(x * x + y * y) ≤ 2 * (x * y) := by
  have h1 := sq_nn (x - y)
  have h2 := sq_nn (x + y)
  rw [Int.sub_mul, Int.mul_sub, Int.mul_sub, Int.mul_comm y x] at h1
  rw [Int.add_mul, Int.mul_add, Int.mul_add, Int.mul_comm y x] at h2
  omega
theorem prod_le {x y a b : Int} (hx : -a ≤ x ∧ x ≤ a) (hy : -b ≤ y ∧ y ≤ b) (ha : 0 ≤ a) : -(a * b) ≤ x * y ∧ x * y ≤ a * b := by
  rcases Int.le_total 0 x with h | h
  · have h1 := Int.mul_le_mul_of_nonneg_left hy.2 h
    have h2 := Int.mul_le_mul_of_nonneg_left hy.1 h
    have h3 := Int.mul_le_mul_of_nonneg_right hx.2 (show 0 ≤ b by omega)
    rw [Int.mul_neg] at h2
    omega
  · have h1 := Int.mul_le_mul_of_nonneg_left hy.2 (show 0 ≤ -x by omega)
    have h2 := Int.mul_le_mul_of_nonneg_left hy.1 (show 0 ≤ -x by omega)
    have h3 := Int.mul_le_mul_of_nonneg_right (show -x ≤ a by omega) (show 0 ≤ b by omega)
    rw [Int.neg_mul, Int.neg_mul] at h1
    rw [Int.mul_neg, Int.neg_mul, Int.neg_mul] at h2
    rw [Int.neg_mul] at h3
    omega
/-- the nearness of two points of the sky, and a height, in bounds -/
theorem mx_le {d1 d2 w : Int32} (h1 : -90 ≤ d1) (h2 : d1 ≤ 90) (h3 : -90 ≤ d2) (h4 : d2 ≤ 90) : -1005 ≤ (mx d1 d2 w).toInt ∧ (mx d1 d2 w).toInt ≤ 1005 := by
  obtain ⟨j1, g1, rfl⟩ := dcl_of h1 h2
  obtain ⟨j2, g2, rfl⟩ := dcl_of h3 h4
  have q1 := sc_le j1 g1
  have q2 := sc_le j2 g2
  unfold mx cl4
  have b1 := sn_le (dcl j1)
  have b2 := sn_le (dcl j2)
  have b3 := sn_le (dcl j1 + 90)
  have b4 := sn_le (dcl j2 + 90)
  have b5 := sn_le (w + 90)
  generalize sn (dcl j1) = s1 at *
  generalize sn (dcl j2) = s2 at *
  generalize sn (dcl j1 + 90) = c1 at *
  generalize sn (dcl j2 + 90) = c2 at *
  generalize sn (w + 90) = u at *
  have t1 := two_le s1.toInt s2.toInt
  have t2 := two_le c1.toInt c2.toInt
  have m1 : (s1 * s2).toInt = s1.toInt * s2.toInt := fb_mulI (by omega) (by omega)
  have m2 : (c1 * c2).toInt = c1.toInt * c2.toInt := fb_mulI (by omega) (by omega)
  have k1 : (1000 : Int32).toInt = 1000 := by decide
  have m3 : (c1 * c2 / 1000).toInt = (c1.toInt * c2.toInt).tdiv 1000 := by rw [divI (by decide), m2, k1]
  obtain ⟨p, n, e, f1, f2⟩ := tm_sign (a := c1.toInt * c2.toInt) (m := 1000) (by decide)
  have kk : ∃ K : Int, 0 ≤ K ∧ -K ≤ (c1.toInt * c2.toInt).tdiv 1000 ∧ (c1.toInt * c2.toInt).tdiv 1000 ≤ K ∧ (K * 1000 ≤ c1.toInt * c2.toInt ∨ K * 1000 ≤ -(c1.toInt * c2.toInt)) := by
    rcases Int.le_total 0 (c1.toInt * c2.toInt) with h | h
    · obtain ⟨y1, y2, y3⟩ := p h
      exact ⟨_, y3, by omega, by omega, Or.inl (by omega)⟩
    · obtain ⟨y1, y2, y3⟩ := n h
      exact ⟨-(c1.toInt * c2.toInt).tdiv 1000, by omega, by omega, by omega, Or.inr (by omega)⟩
  obtain ⟨K, K0, K1, K2, K3⟩ := kk
  have pr := prod_le (x := (c1.toInt * c2.toInt).tdiv 1000) (y := u.toInt) (a := K) (b := 1000) ⟨K1, K2⟩ b5 K0
  have m4 : (c1 * c2 / 1000 * u).toInt = (c1.toInt * c2.toInt).tdiv 1000 * u.toInt := by rw [fb_mulI (by rw [m3]; omega) (by rw [m3]; omega), m3]
  have m5 : (s1 * s2 + c1 * c2 / 1000 * u).toInt = s1.toInt * s2.toInt + (c1.toInt * c2.toInt).tdiv 1000 * u.toInt := by rw [fb_addI (by rw [m1, m4]; omega) (by rw [m1, m4]; omega), m1, m4]
  rw [divI (by decide), m5, k1]
  obtain ⟨p', n', e', f1', f2'⟩ := tm_sign (a := s1.toInt * s2.toInt + (c1.toInt * c2.toInt).tdiv 1000 * u.toInt) (m := 1000) (by decide)
  omega
