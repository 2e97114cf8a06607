/-! the model's sine is the class's -/
theorem xor_nn {x y : Int32} (hy : 0 ≤ y) : 0 ≤ x ^^^ y ↔ 0 ≤ x := by
  have h0 : ∀ z : Int32, 0 ≤ z ↔ z.toBitVec.msb = false := by
    intro z
    rw [Int32.le_iff_toInt_le, show (0 : Int32).toInt = 0 by decide]
    rw [BitVec.msb_eq_toInt]
    show 0 ≤ z.toInt ↔ decide (z.toBitVec.toInt < 0) = false
    rw [decide_eq_false_iff_not]
    show 0 ≤ z.toInt ↔ ¬ z.toInt < 0
    omega
  rw [h0, h0] at *
  rw [Int32.toBitVec_xor, BitVec.msb_xor, (h0 y).mp ((h0 y).mpr hy)]
  cases x.toBitVec.msb <;> decide
theorem fm_sn (d : Int32) : fmV d 360 = snT d := by
  have hq : (360 : Int32).toInt = 360 := by decide
  have hm := imI (x := d) (y := 360) (by decide)
  rw [hq] at hm
  obtain ⟨p, n, -, f1, f2⟩ := tm_sign (a := d.toInt) (m := 360) (by decide)
  have ha : (im d 360 + 360).toInt = d.toInt.tmod 360 + 360 := by
    rw [fb_addI (by rw [hm, hq]; omega) (by rw [hm, hq]; omega), hm, hq]
  have hs : (snT d).toInt = (d.toInt.tmod 360 + 360).tmod 360 := by
    unfold snT
    rw [imI (by decide), ha, hq]
  obtain ⟨p2, -, e2, g1, g2⟩ := tm_sign (a := d.toInt.tmod 360 + 360) (m := 360) (by decide)
  have p3 := p2 (by omega)
  refine Int32.toInt_inj.mp ?_
  rw [hs]
  unfold fmV
  by_cases c : 0 ≤ d
  · rw [if_pos ((xor_nn (by decide)).mpr c), hm]
    have c' := Int32.le_iff_toInt_le.mp c
    rw [show (0 : Int32).toInt = 0 by decide] at c'
    have := p c'
    omega
  · rw [if_neg (fun z => c ((xor_nn (by decide)).mp z))]
    have c' : d.toInt < 0 := by
      have := Int32.lt_iff_toInt_lt.mp (Int32.not_le.mp c)
      rw [show (0 : Int32).toInt = 0 by decide] at this
      exact this
    have hn := n (by omega)
    by_cases z : im d 360 = 0
    · rw [if_pos z]
      have z' : d.toInt.tmod 360 = 0 := by rw [← hm, z]; decide
      rw [z, z']
      decide
    · rw [if_neg z, ha]
      have z' : d.toInt.tmod 360 ≠ 0 := fun q => z (Int32.toInt_inj.mp (by rw [hm, q]; decide))
      omega
def snM (t : Int32) : Int32 := 4000 * im t 180 * (180 - im t 180) / (40500 - im t 180 * (180 - im t 180))
theorem snM_eq : ∀ j, j < 360 → (¬ (40500 - im (nI j) 180 * (180 - im (nI j) 180) = 0)) ∧ (if 180 ≤ nI j then -(snM (nI j)) else snM (nI j)) = snJ (nI j) := fun j hj => co_dec (N := 360) (P := fun j => (¬ (40500 - im (nI j) 180 * (180 - im (nI j) 180) = 0)) ∧ (if 180 ≤ nI j then -(snM (nI j)) else snM (nI j)) = snJ (nI j)) (by decide +kernel) hj
theorem sn_m (d : Int32) : ¬ (40500 - im (fmV d 360) 180 * (180 - im (fmV d 360) 180) = 0) ∧ (if 180 ≤ fmV d 360 then -(snM (fmV d 360)) else snM (fmV d 360)) = sn d := by
  rw [fm_sn, sn_J]
  obtain ⟨j, hj, e⟩ := snT_in d
  rw [e]
  exact snM_eq j hj
