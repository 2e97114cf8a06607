/-! the class's private methods: printed by wip/p27/class2.py -/
set_option maxHeartbeats 4000000 in
set_option maxRecDepth 100000 in
/-- ArrayList.size -/
theorem c_size {G : JG} (S : HS) (l : Nat) (h0 : hK S l = 1) : Ct G yJx4a65c_size_8abf5 cJx4a65c_size_8abf5 1 (some .int) 0 0 0 0 [.ref l] S (rI (fun r S' => r = hI S 2 l ∧ S' = S)) noX := by
  refine Ct.ofF (by decide +kernel) (Nat.le_of_ble_eq_true rfl) (fun X hC hT hin => ?_)
  refine J_aload_n 0 hC dJx4a65c_size_8abf5_0 rfl rfl ?_
  refine fg_Jx4a65c_48 hC h0 dJx4a65c_size_8abf5_1 ?_
  exact J_iretI hC dJx4a65c_size_8abf5_4 (Nat.le_of_ble_eq_true rfl) (Nat.le_of_ble_eq_true rfl) ⟨rfl, rfl⟩

set_option maxHeartbeats 4000000 in
set_option maxRecDepth 100000 in
/-- Preconditions.checkIndex -/
theorem c_pci {G : JG} (S : HS) (i n : Int32) (h0 : 0 ≤ i) (h1 : i < n) : Ct G yJ3_checkIndex_8e157 cJ3_checkIndex_8e157 3 (some .int) 0 0 0 0 [.int i, .int n, .null] S (rI (fun r S' => r = i ∧ S' = S)) noX := by
  refine Ct.ofF (by decide +kernel) (Nat.le_of_ble_eq_true rfl) (fun X hC hT hin => ?_)
  refine J_iload_n 0 hC dJ3_checkIndex_8e157_0 rfl rfl ?_
  refine J_if_lt 9 hC dJ3_checkIndex_8e157_1 (by decide) (fun c1 => absurd c1 (Int32.not_lt.mpr h0)) (fun c1 => ?_)
  refine J_iload_n 0 hC dJ3_checkIndex_8e157_4 rfl rfl ?_
  refine J_iload_n 1 hC dJ3_checkIndex_8e157_5 rfl rfl ?_
  refine J_icmp_lt 16 hC dJ3_checkIndex_8e157_6 (by decide) (fun c6 => ?_) (fun c6 => absurd h1 c6)
  refine J_iload_n 0 hC dJ3_checkIndex_8e157_16 rfl rfl ?_
  exact J_iretI hC dJ3_checkIndex_8e157_17 (Nat.le_of_ble_eq_true rfl) (Nat.le_of_ble_eq_true rfl) ⟨rfl, rfl⟩

set_option maxHeartbeats 4000000 in
set_option maxRecDepth 100000 in
/-- Objects.checkIndex -/
theorem c_oci {G : JG} (S : HS) (i n : Int32) (h0 : 0 ≤ i) (h1 : i < n) : Ct G yJ15_checkIndex_7cf53 cJ15_checkIndex_7cf53 2 (some .int) 1 40 0 0 [.int i, .int n] S (rI (fun r S' => r = i ∧ S' = S)) noX := by
  refine Ct.ofF (by decide +kernel) (Nat.le_of_ble_eq_true rfl) (fun X hC hT hin => ?_)
  refine J_iload_n 0 hC dJ15_checkIndex_7cf53_0 rfl rfl ?_
  refine J_iload_n 1 hC dJ15_checkIndex_7cf53_1 rfl rfl ?_
  refine J_null hC dJ15_checkIndex_7cf53_2 ?_
  refine cl_J15_null hC (c_pci S i n h0 h1) (Nat.le_of_ble_eq_true rfl) ⟨⟨Nat.le_of_ble_eq_true rfl, Nat.le_of_ble_eq_true rfl⟩, Nat.le_of_ble_eq_true rfl, Nat.le_of_ble_eq_true rfl⟩ dJ15_checkIndex_7cf53_3 (fun r3 S3 e3 => ?_)
  obtain ⟨rfl, e3⟩ := e3
  subst S3
  exact J_iretI hC dJ15_checkIndex_7cf53_6 (Nat.le_of_ble_eq_true rfl) (Nat.le_of_ble_eq_true rfl) ⟨rfl, rfl⟩

set_option maxHeartbeats 4000000 in
set_option maxRecDepth 100000 in
/-- ArrayList.elementData -/
theorem c_elD {G : JG} (S : HS) (l ed n k e : Nat) (h0 : hK S l = 1) (pe : hP S 1 l = some ed) (he : hK S ed = 12) (hn : hI S 2 l = nI n) (hk : k < n) (hkn : k < hN S ed) (hn2 : hN S ed ≤ 22) (hn3 : n ≤ 20) (hp : hP S k ed = some e) : Ct G yJx4a65c_elementData_915e3 cJx4a65c_elementData_915e3 2 (some (FieldType.object "java/lang/Object")) 0 0 0 0 [.ref l, .int (nI k)] S (rA (fun r S' => r = e ∧ S' = S)) noX := by
  refine Ct.ofF (by decide +kernel) (Nat.le_of_ble_eq_true rfl) (fun X hC hT hin => ?_)
  refine J_aload_n 0 hC dJx4a65c_elementData_915e3_0 rfl rfl ?_
  refine fg_Jx4a65c_9 hC h0 pe dJx4a65c_elementData_915e3_1 ?_
  refine J_iload_n 1 hC dJx4a65c_elementData_915e3_4 rfl rfl ?_
  refine J_aald hC he (inN rfl (vp_in_nI hkn (by omega))) (by rw [nI_clamp (by omega)]; exact hp) dJx4a65c_elementData_915e3_5 ?_
  exact J_aretI hC dJx4a65c_elementData_915e3_6 (Or.inl ⟨_, rfl⟩) (Nat.le_of_ble_eq_true rfl) (Nat.le_of_ble_eq_true rfl) ⟨rfl, rfl⟩

set_option maxHeartbeats 4000000 in
set_option maxRecDepth 100000 in
/-- ArrayList.get -/
theorem c_get {G : JG} (S : HS) (l ed n k e : Nat) (h0 : hK S l = 1) (pe : hP S 1 l = some ed) (he : hK S ed = 12) (hn : hI S 2 l = nI n) (hk : k < n) (hkn : k < hN S ed) (hn2 : hN S ed ≤ 22) (hn3 : n ≤ 20) (hp : hP S k ed = some e) : Ct G yJx4a65c_get_915e3 cJx4a65c_get_915e3 2 (some (FieldType.object "java/lang/Object")) 3 80 0 0 [.ref l, .int (nI k)] S (rA (fun r S' => r = e ∧ S' = S)) noX := by
  refine Ct.ofF (by decide +kernel) (Nat.le_of_ble_eq_true rfl) (fun X hC hT hin => ?_)
  refine J_iload_n 1 hC dJx4a65c_get_915e3_0 rfl rfl ?_
  refine J_aload_n 0 hC dJx4a65c_get_915e3_1 rfl rfl ?_
  refine fg_Jx4a65c_48 hC h0 dJx4a65c_get_915e3_2 ?_
  refine cl_Jx4a65c_118 hC (c_oci S (nI k) (hI S 2 l) (nI_pos' (by omega)) (by rw [hn]; exact nI_lt hk (by omega))) (Nat.le_of_ble_eq_true rfl) ⟨⟨Nat.le_of_ble_eq_true rfl, Nat.le_of_ble_eq_true rfl⟩, Nat.le_of_ble_eq_true rfl, Nat.le_of_ble_eq_true rfl⟩ dJx4a65c_get_915e3_5 (fun r5 S5 e5 => ?_)
  obtain ⟨rfl, e5⟩ := e5
  subst S5
  refine J_pop hC dJx4a65c_get_915e3_8 rfl ?_
  refine J_aload_n 0 hC dJx4a65c_get_915e3_9 rfl rfl ?_
  refine J_iload_n 1 hC dJx4a65c_get_915e3_10 rfl rfl ?_
  refine cl_Jx4a65c_123 hC (c_elD S l ed n k e h0 pe he hn hk hkn hn2 hn3 hp) h0 (Nat.le_of_ble_eq_true rfl) ⟨⟨Nat.le_of_ble_eq_true rfl, Nat.le_of_ble_eq_true rfl⟩, Nat.le_of_ble_eq_true rfl, Nat.le_of_ble_eq_true rfl⟩ dJx4a65c_get_915e3_11 (fun r11 S11 e11 => ?_)
  obtain ⟨rfl, e11⟩ := e11
  subst S11
  exact J_aretI hC dJx4a65c_get_915e3_14 (Or.inl ⟨_, rfl⟩) (Nat.le_of_ble_eq_true rfl) (Nat.le_of_ble_eq_true rfl) ⟨rfl, rfl⟩

set_option maxHeartbeats 4000000 in
set_option maxRecDepth 100000 in
/-- findTarget -/
theorem c_X5_findTarget {G : JG} (S : HS) (x n : Nat) (A : Nat → Nat → Nat) (hs : Shp G x A n S) (hln : hI S 2 (A 0 5) = nI n) (t : Int32) : Ct G yX5_findTarget cX5_findTarget 2 (some (FieldType.object "SkyPlan$Target")) 6 110 1 6 [.ref x, .int t] S (rA (fun r S' => S' = S ∧ ∃ k, k < n ∧ t = nI k ∧ r = A 1 k)) (fun E S' => E = eIO ∧ S' = S ∧ ¬ isTg n t) := by
  refine Ct.of (by decide) (Nat.le_of_ble_eq_true rfl) (fun X hC hT hin => ?_)
  refine J_iload_n 1 hC dX5_findTarget_0 rfl rfl ?_
  refine J_if_lt 15 hC dX5_findTarget_1 (by decide) (fun c1 => ?_) (fun c1 => ?_)
  · exact J_throwS hC hT (text := "there is no such target") (names := exN) fit_IO exN_ok (mG 331 (by decide +kernel) rfl) (mG 38 (by decide +kernel) rfl) (by decide +kernel) at_IO dX5_findTarget_15 dX5_findTarget_18 dX5_findTarget_19 dX5_findTarget_21 dX5_findTarget_24 (by decide) (Nat.le_of_ble_eq_true rfl) (Nat.le_of_ble_eq_true rfl) (Nat.le_of_ble_eq_true rfl) ⟨rfl, rfl, fun z => absurd ((isTg_iff hs.n20).mp z).1 (Int32.not_le.mpr c1)⟩
  · refine J_iload_n 1 hC dX5_findTarget_4 rfl rfl ?_
    refine J_aload_n 0 hC dX5_findTarget_5 rfl rfl ?_
    refine fg_X5_35 hC hs.kx hs.pl dX5_findTarget_6 ?_
    refine cl_X5_102 hC (c_size S (A 0 5) hs.kl) hs.kl (Nat.le_of_ble_eq_true rfl) ⟨⟨Nat.le_of_ble_eq_true rfl, Nat.le_of_ble_eq_true rfl⟩, Nat.le_of_ble_eq_true rfl, Nat.le_of_ble_eq_true rfl⟩ dX5_findTarget_9 (fun r9 S9 e9 => ?_)
    obtain ⟨rfl, e9⟩ := e9
    subst S9
    rw [hln]
    refine J_icmp_lt 25 hC dX5_findTarget_12 (by decide) (fun c12 => ?_) (fun c12 => ?_)
    · obtain ⟨k, hk, rfl⟩ := (isTg_iff hs.n20).mpr ⟨Int32.not_lt.mp c1, c12⟩
      refine J_aload_n 0 hC dX5_findTarget_25 rfl rfl ?_
      refine fg_X5_35 hC hs.kx hs.pl dX5_findTarget_26 ?_
      refine J_iload_n 1 hC dX5_findTarget_29 rfl rfl ?_
      refine cl_X5_179 hC (c_get S (A 0 5) (A 0 6) n k (A 1 k) hs.kl hs.pe (hs.ked hk) hln hk (hs.ned hk) (hs.ned2 hk) hs.n20 (hs.pg hk)) hs.kl (Nat.le_of_ble_eq_true rfl) ⟨⟨Nat.le_of_ble_eq_true rfl, Nat.le_of_ble_eq_true rfl⟩, Nat.le_of_ble_eq_true rfl, Nat.le_of_ble_eq_true rfl⟩ dX5_findTarget_30 (fun r30 S30 e30 => ?_)
      obtain ⟨rfl, e30⟩ := e30
      subst S30
      refine J_castT hC (hs.kg hk) dX5_findTarget_33 ?_
      exact J_aretI hC dX5_findTarget_36 (Or.inl ⟨_, rfl⟩) (Nat.le_of_ble_eq_true rfl) (Nat.le_of_ble_eq_true rfl) ⟨rfl, k, hk, rfl, rfl⟩
    · exact J_throwS hC hT (text := "there is no such target") (names := exN) fit_IO exN_ok (mG 331 (by decide +kernel) rfl) (mG 38 (by decide +kernel) rfl) (by decide +kernel) at_IO dX5_findTarget_15 dX5_findTarget_18 dX5_findTarget_19 dX5_findTarget_21 dX5_findTarget_24 (by decide) (Nat.le_of_ble_eq_true rfl) (Nat.le_of_ble_eq_true rfl) (Nat.le_of_ble_eq_true rfl) ⟨rfl, rfl, fun z => absurd ((isTg_iff hs.n20).mp z).2 c12⟩

set_option maxHeartbeats 4000000 in
set_option maxRecDepth 100000 in
/-- checkMinute -/
theorem c_X5_checkMinute {G : JG} (S : HS) (x : Nat) (t : Int32) (hx : hK S x = 7) : Ct G yX5_checkMinute cX5_checkMinute 2 none 6 90 1 6 [.ref x, .int t] S (rV (fun S' => S' = S ∧ (0 ≤ t ∧ t ≤ hI S 3 x - 1))) (fun E S' => E = eIA ∧ S' = S ∧ ¬ (0 ≤ t ∧ t ≤ hI S 3 x - 1)) := by
  refine Ct.of (by decide) (Nat.le_of_ble_eq_true rfl) (fun X hC hT hin => ?_)
  refine J_iload_n 1 hC dX5_checkMinute_0 rfl rfl ?_
  refine J_iconst (v := 0) hC dX5_checkMinute_1 (by decide) ?_
  refine J_aload_n 0 hC dX5_checkMinute_2 rfl rfl ?_
  refine fg_X5_21 hC hx dX5_checkMinute_3 ?_
  refine J_iconst (v := 1) hC dX5_checkMinute_6 (by decide) ?_
  refine J_isub hC dX5_checkMinute_7 ?_
  refine cl_X5_46 hC (c_X5_isWithin S _ _ _) (Nat.le_of_ble_eq_true rfl) ⟨⟨Nat.le_of_ble_eq_true rfl, Nat.le_of_ble_eq_true rfl⟩, Nat.le_of_ble_eq_true rfl, Nat.le_of_ble_eq_true rfl⟩ dX5_checkMinute_8 (fun r8 S8 e8 => ?_)
  obtain ⟨rfl, e8⟩ := e8
  subst S8
  refine J_if_ne 24 hC dX5_checkMinute_11 (by decide) (fun c11 => ?_) (fun c11 => ?_)
  · exact J_vretI hC dX5_checkMinute_24 (Nat.le_of_ble_eq_true rfl) (Nat.le_of_ble_eq_true rfl) ⟨rfl, bI_ne c11⟩
  · exact J_throwS hC hT (text := "the time is no minute of the night") (names := exN) fit_IA exN_ok (mG 179 (by decide +kernel) rfl) (mG 28 (by decide +kernel) rfl) (by decide +kernel) at_IA dX5_checkMinute_14 dX5_checkMinute_17 dX5_checkMinute_18 dX5_checkMinute_20 dX5_checkMinute_23 (by decide) (Nat.le_of_ble_eq_true rfl) (Nat.le_of_ble_eq_true rfl) (Nat.le_of_ble_eq_true rfl) ⟨rfl, rfl, bI_eq c11⟩

set_option maxHeartbeats 4000000 in
set_option maxRecDepth 100000 in
/-- checkWhat -/
theorem c_X5_checkWhat {G : JG} (S : HS) (w n : Int32) : Ct G yX5_checkWhat cX5_checkWhat 2 none 6 90 1 6 [.int w, .int n] S (rV (fun S' => S' = S ∧ 0 ≤ w ∧ w < n)) (fun E S' => E = eIO ∧ S' = S ∧ ¬ (0 ≤ w ∧ w < n)) := by
  refine Ct.of (by decide) (Nat.le_of_ble_eq_true rfl) (fun X hC hT hin => ?_)
  refine J_iload_n 0 hC dX5_checkWhat_0 rfl rfl ?_
  refine J_if_lt 9 hC dX5_checkWhat_1 (by decide) (fun c1 => ?_) (fun c1 => ?_)
  · exact J_throwS hC hT (text := "this can't be told") (names := exN) fit_IO exN_ok (mG 331 (by decide +kernel) rfl) (mG 38 (by decide +kernel) rfl) (by decide +kernel) at_IO dX5_checkWhat_9 dX5_checkWhat_12 dX5_checkWhat_13 dX5_checkWhat_15 dX5_checkWhat_18 (by decide) (Nat.le_of_ble_eq_true rfl) (Nat.le_of_ble_eq_true rfl) (Nat.le_of_ble_eq_true rfl) ⟨rfl, rfl, fun z => absurd z.1 (Int32.not_le.mpr c1)⟩
  · refine J_iload_n 0 hC dX5_checkWhat_4 rfl rfl ?_
    refine J_iload_n 1 hC dX5_checkWhat_5 rfl rfl ?_
    refine J_icmp_lt 19 hC dX5_checkWhat_6 (by decide) (fun c6 => ?_) (fun c6 => ?_)
    · exact J_vretI hC dX5_checkWhat_19 (Nat.le_of_ble_eq_true rfl) (Nat.le_of_ble_eq_true rfl) ⟨rfl, Int32.not_lt.mp c1, c6⟩
    · exact J_throwS hC hT (text := "this can't be told") (names := exN) fit_IO exN_ok (mG 331 (by decide +kernel) rfl) (mG 38 (by decide +kernel) rfl) (by decide +kernel) at_IO dX5_checkWhat_9 dX5_checkWhat_12 dX5_checkWhat_13 dX5_checkWhat_15 dX5_checkWhat_18 (by decide) (Nat.le_of_ble_eq_true rfl) (Nat.le_of_ble_eq_true rfl) (Nat.le_of_ble_eq_true rfl) ⟨rfl, rfl, fun z => absurd z.2 c6⟩

set_option maxHeartbeats 4000000 in
set_option maxRecDepth 100000 in
/-- isPoint -/
theorem c_X5_isPoint {G : JG} (S : HS) (v w : Int32) : Ct G yX5_isPoint cX5_isPoint 2 (some .boolean) 1 40 0 0 [.int v, .int w] S (rI (fun r S' => r = bI ((0 ≤ v ∧ v ≤ 1439) ∧ (-90 ≤ w ∧ w ≤ 90)) ∧ S' = S)) noX := by
  refine Ct.of (by decide) (Nat.le_of_ble_eq_true rfl) (fun X hC hT hin => ?_)
  refine J_iload_n 0 hC dX5_isPoint_0 rfl rfl ?_
  refine J_iconst (v := 0) hC dX5_isPoint_1 (by decide) ?_
  refine J_sipush (v := 1439) hC dX5_isPoint_2 (by decide) ?_
  refine cl_X5_46 hC (c_X5_isWithin S _ _ _) (Nat.le_of_ble_eq_true rfl) ⟨⟨Nat.le_of_ble_eq_true rfl, Nat.le_of_ble_eq_true rfl⟩, Nat.le_of_ble_eq_true rfl, Nat.le_of_ble_eq_true rfl⟩ dX5_isPoint_5 (fun r5 S5 e5 => ?_)
  obtain ⟨rfl, e5⟩ := e5
  subst S5
  refine J_if_eq 26 hC dX5_isPoint_8 (by decide) (fun c8 => ?_) (fun c8 => ?_)
  · refine J_iconst (v := 0) hC dX5_isPoint_26 (by decide) ?_
    exact J_zretI hC dX5_isPoint_27 rfl (Nat.le_of_ble_eq_true rfl) (Nat.le_of_ble_eq_true rfl) ⟨(if_neg (fun z => bI_eq c8 z.1)).symm, rfl⟩
  · refine J_iload_n 1 hC dX5_isPoint_11 rfl rfl ?_
    refine J_bipush (v := (-90)) hC dX5_isPoint_12 (by decide) ?_
    refine J_bipush (v := 90) hC dX5_isPoint_14 (by decide) ?_
    refine cl_X5_46 hC (c_X5_isWithin S _ _ _) (Nat.le_of_ble_eq_true rfl) ⟨⟨Nat.le_of_ble_eq_true rfl, Nat.le_of_ble_eq_true rfl⟩, Nat.le_of_ble_eq_true rfl, Nat.le_of_ble_eq_true rfl⟩ dX5_isPoint_16 (fun r16 S16 e16 => ?_)
    obtain ⟨rfl, e16⟩ := e16
    subst S16
    refine J_if_eq 26 hC dX5_isPoint_19 (by decide) (fun c19 => ?_) (fun c19 => ?_)
    · refine J_iconst (v := 0) hC dX5_isPoint_26 (by decide) ?_
      exact J_zretI hC dX5_isPoint_27 rfl (Nat.le_of_ble_eq_true rfl) (Nat.le_of_ble_eq_true rfl) ⟨(if_neg (fun z => bI_eq c19 z.2)).symm, rfl⟩
    · refine J_iconst (v := 1) hC dX5_isPoint_22 (by decide) ?_
      refine J_goto 27 hC dX5_isPoint_23 (by decide) ?_
      exact J_zretI hC dX5_isPoint_27 rfl (Nat.le_of_ble_eq_true rfl) (Nat.le_of_ble_eq_true rfl) ⟨(if_pos ⟨bI_ne c8, bI_ne c19⟩).symm, rfl⟩

set_option maxHeartbeats 4000000 in
set_option maxRecDepth 100000 in
/-- clearMinutes -/
theorem c_X5_clearMinutes {G : JG} (S : HS) (x : Nat) (A : Nat → Nat → Nat) (σ : Sg) (hs : Shp G x A (vn σ) S) (hv : Vl x A σ S) (L : Nat) (hL : vg σ 2 = nI L) (hL2 : L ≤ 900) : Ct G yX5_clearMinutes cX5_clearMinutes 3 (some .int) 1 40 0 0 [.ref x] S (rI (fun r S' => r = clN σ L ∧ S' = S)) noX := by
  refine Ct.of (by decide) (Nat.le_of_ble_eq_true rfl) (fun X hC hT hin => ?_)
  have loop : ∀ (n i : Nat), L - i < n → i ≤ L → J X G (QQ X G (rI (fun r S' => r = clN σ L ∧ S' = S)) noX 0 0) 3 0 0 4 [(1, .int (clN σ i)), (2, .int (nI i)), (0, .ref x)] [] S := by
    intro n
    induction n with
    | zero => intro i h; omega
    | succ n ih =>
    intro i hn hi
    refine J_iload_n 1 hC dX5_clearMinutes_4 rfl rfl ?_
    refine J_aload_n 2 hC dX5_clearMinutes_5 rfl rfl ?_
    refine fg_X5_21 hC hs.kx dX5_clearMinutes_6 ?_
    rw [hv.2.2.1.2.1, hL]
    refine J_icmp_ge 37 hC dX5_clearMinutes_9 (by decide) (fun c9 => ?_) (fun c9 => ?_)
    · refine J_iload_n 0 hC dX5_clearMinutes_37 rfl rfl ?_
      refine J_iretI hC dX5_clearMinutes_38 (Nat.le_of_ble_eq_true rfl) (Nat.le_of_ble_eq_true rfl) ?_
      have e : i = L := Nat.le_antisymm hi (Nat.not_lt.mp (fun q => absurd c9 (nI_ge q (by omega))))
      subst e
      exact ⟨rfl, rfl⟩
    · have hlt : i < L := Nat.not_le.mp (fun q => c9 (nI_le q (by omega)))
      refine J_iload_n 0 hC dX5_clearMinutes_12 rfl rfl ?_
      refine J_aload_n 2 hC dX5_clearMinutes_13 rfl rfl ?_
      refine fg_X5_28 hC hs.kx hs.pc dX5_clearMinutes_14 ?_
      refine J_iload_n 1 hC dX5_clearMinutes_17 rfl rfl ?_
      refine cl_X5_252 hC (c_cld hs hv _) hs.kc (Nat.le_of_ble_eq_true rfl) ⟨⟨Nat.le_of_ble_eq_true rfl, Nat.le_of_ble_eq_true rfl⟩, Nat.le_of_ble_eq_true rfl, Nat.le_of_ble_eq_true rfl⟩ dX5_clearMinutes_18 (fun r18 S18 e18 => ?_)
      obtain ⟨rfl, e18⟩ := e18
      subst S18
      refine J_if_eq 28 hC dX5_clearMinutes_21 (by decide) (fun c21 => ?_) (fun c21 => ?_)
      · refine J_iconst (v := 1) hC dX5_clearMinutes_28 (by decide) ?_
        refine J_iadd hC dX5_clearMinutes_29 ?_
        refine J_istore_n (lv' := [(1, _), (2, _), (0, _)]) hC dX5_clearMinutes_30 rfl (by decide) rfl ?_
        refine J_iinc (lv' := [(2, _), (1, _), (0, _)]) 1 hC dX5_clearMinutes_31 rfl (nI_1 i) (by decide) rfl ?_
        refine J_goto 4 hC dX5_clearMinutes_34 (by decide) ?_
        have e : clN σ i + 1 = clN σ (i + 1) := by rw [clN, if_neg (zI_eq c21)]
        rw [e]
        exact J_re [1, 0, 2] rfl (ih (i + 1) (by omega) (by omega))
      · refine J_iconst (v := 0) hC dX5_clearMinutes_24 (by decide) ?_
        refine J_goto 29 hC dX5_clearMinutes_25 (by decide) ?_
        refine J_iadd hC dX5_clearMinutes_29 ?_
        refine J_istore_n (lv' := [(1, _), (2, _), (0, _)]) hC dX5_clearMinutes_30 rfl (by decide) rfl ?_
        refine J_iinc (lv' := [(2, _), (1, _), (0, _)]) 1 hC dX5_clearMinutes_31 rfl (nI_1 i) (by decide) rfl ?_
        refine J_goto 4 hC dX5_clearMinutes_34 (by decide) ?_
        have e : clN σ i + 0 = clN σ (i + 1) := by rw [clN, if_pos (zI_ne c21)]
        rw [e]
        exact J_re [1, 0, 2] rfl (ih (i + 1) (by omega) (by omega))
  refine J_iconst (v := 0) hC dX5_clearMinutes_0 (by decide) ?_
  refine J_istore_n (lv' := [(1, _), (0, _)]) hC dX5_clearMinutes_1 rfl (by decide) rfl ?_
  refine J_iconst (v := 0) hC dX5_clearMinutes_2 (by decide) ?_
  refine J_istore_n (lv' := [(2, _), (1, _), (0, _)]) hC dX5_clearMinutes_3 rfl (by decide) rfl ?_
  exact J_re [1, 0, 2] rfl (loop (L + 1) 0 (by omega) (by omega))

set_option maxHeartbeats 4000000 in
set_option maxRecDepth 100000 in
/-- reasonAgainst -/
theorem c_X5_reasonAgainst {G : JG} (S : HS) (x : Nat) (A : Nat → Nat → Nat) (σ : Sg) (hs : Shp G x A (vn σ) S) (hv : Vl x A σ S) (k : Nat) (hk : k < vn σ) (t : Int32) : Ct G yX5_reasonAgainst cX5_reasonAgainst 5 (some .int) 3 100 0 0 [.ref x, .ref (A 1 k), .int t, .int (thV σ k t)] S (rI (fun r S' => r = rsnV σ k t ∧ S' = S)) noX := by
  refine Ct.of (by decide) (Nat.le_of_ble_eq_true rfl) (fun X hC hT hin => ?_)
  refine J_aload_n 0 hC dX5_reasonAgainst_0 rfl rfl ?_
  refine fg_X5_28 hC hs.kx hs.pc dX5_reasonAgainst_1 ?_
  refine J_iload_n 2 hC dX5_reasonAgainst_4 rfl rfl ?_
  refine cl_X5_252 hC (c_cld hs hv t) hs.kc (Nat.le_of_ble_eq_true rfl) ⟨⟨Nat.le_of_ble_eq_true rfl, Nat.le_of_ble_eq_true rfl⟩, Nat.le_of_ble_eq_true rfl, Nat.le_of_ble_eq_true rfl⟩ dX5_reasonAgainst_5 (fun r5 S5 e5 => ?_)
  obtain ⟨rfl, e5⟩ := e5
  subst S5
  refine J_if_eq 13 hC dX5_reasonAgainst_8 (by decide) (fun c8 => ?_) (fun c8 => ?_)
  · refine J_iload_n 3 hC dX5_reasonAgainst_13 rfl rfl ?_
    refine J_aload_n 1 hC dX5_reasonAgainst_14 rfl rfl ?_
    refine fg_X5_129 hC (hs.kg hk) dX5_reasonAgainst_15 ?_
    rw [(hv.tg hk).2.2.2.2.1]
    refine J_icmp_ge 23 hC dX5_reasonAgainst_18 (by decide) (fun c18 => ?_) (fun c18 => ?_)
    · refine J_aload_n 1 hC dX5_reasonAgainst_23 rfl rfl ?_
      refine fg_X5_152 hC (hs.kg hk) (hs.ppt hk) dX5_reasonAgainst_24 ?_
      refine J_aload_n 0 hC dX5_reasonAgainst_27 rfl rfl ?_
      refine fg_X5_18 hC hs.kx hs.pm dX5_reasonAgainst_28 ?_
      refine cl_X5_159 hC (c_nM hs hv k hk) (Nat.le_of_ble_eq_true rfl) ⟨⟨Nat.le_of_ble_eq_true rfl, Nat.le_of_ble_eq_true rfl⟩, Nat.le_of_ble_eq_true rfl, Nat.le_of_ble_eq_true rfl⟩ dX5_reasonAgainst_31 (fun r31 S31 e31 => ?_)
      obtain ⟨rfl, e31⟩ := e31
      subst S31
      refine J_sipush (v := 1000) hC dX5_reasonAgainst_34 (by decide) ?_
      refine J_iconst (v := 5) hC dX5_reasonAgainst_37 (by decide) ?_
      refine J_aload_n 0 hC dX5_reasonAgainst_38 rfl rfl ?_
      refine cl_X5_74 hC (c_li hs hv) hs.kx (Nat.le_of_ble_eq_true rfl) ⟨⟨Nat.le_of_ble_eq_true rfl, Nat.le_of_ble_eq_true rfl⟩, Nat.le_of_ble_eq_true rfl, Nat.le_of_ble_eq_true rfl⟩ dX5_reasonAgainst_39 (fun r39 S39 e39 => ?_)
      obtain ⟨rfl, e39⟩ := e39
      subst S39
      refine J_imul hC dX5_reasonAgainst_42 ?_
      refine J_isub hC dX5_reasonAgainst_43 ?_
      refine J_icmp_le 51 hC dX5_reasonAgainst_44 (by decide) (fun c44 => ?_) (fun c44 => ?_)
      · refine J_iconst (v := 0) hC dX5_reasonAgainst_51 (by decide) ?_
        refine J_istore (lv' := [(4, _), (0, _), (1, _), (2, _), (3, _)]) hC dX5_reasonAgainst_52 (by decide) rfl ?_
        refine J_iload 0 hC dX5_reasonAgainst_54 rfl ?_
        refine J_if_eq 75 hC dX5_reasonAgainst_56 (by decide) (fun c56 => ?_) (fun c56 => absurd rfl c56)
        refine J_iconst (v := 0) hC dX5_reasonAgainst_75 (by decide) ?_
        refine J_iretI hC dX5_reasonAgainst_76 (Nat.le_of_ble_eq_true rfl) (Nat.le_of_ble_eq_true rfl) ?_
        unfold rsnV
        rw [if_neg (zI_eq c8)]
        rw [if_neg (Int32.not_lt.mpr c18)]
        rw [if_pos c44]
        exact ⟨rfl, rfl⟩
      · refine J_iconst (v := 1) hC dX5_reasonAgainst_47 (by decide) ?_
        refine J_goto 52 hC dX5_reasonAgainst_48 (by decide) ?_
        refine J_istore (lv' := [(4, _), (0, _), (1, _), (2, _), (3, _)]) hC dX5_reasonAgainst_52 (by decide) rfl ?_
        refine J_iload 0 hC dX5_reasonAgainst_54 rfl ?_
        refine J_if_eq 75 hC dX5_reasonAgainst_56 (by decide) (fun c56 => absurd c56 (by decide)) (fun c56 => ?_)
        refine J_aload_n 1 hC dX5_reasonAgainst_59 rfl rfl ?_
        refine J_aload_n 1 hC dX5_reasonAgainst_60 rfl rfl ?_
        refine fg_X5_18 hC hs.kx hs.pm dX5_reasonAgainst_61 ?_
        refine J_iload_n 3 hC dX5_reasonAgainst_64 rfl rfl ?_
        refine cl_X5_155 hC (c_hM hs hv t) hs.kx (Nat.le_of_ble_eq_true rfl) ⟨⟨Nat.le_of_ble_eq_true rfl, Nat.le_of_ble_eq_true rfl⟩, Nat.le_of_ble_eq_true rfl, Nat.le_of_ble_eq_true rfl⟩ dX5_reasonAgainst_65 (fun r65 S65 e65 => ?_)
        obtain ⟨rfl, e65⟩ := e65
        subst S65
        refine J_if_le 75 hC dX5_reasonAgainst_68 (by decide) (fun c68 => ?_) (fun c68 => ?_)
        · refine J_iconst (v := 0) hC dX5_reasonAgainst_75 (by decide) ?_
          refine J_iretI hC dX5_reasonAgainst_76 (Nat.le_of_ble_eq_true rfl) (Nat.le_of_ble_eq_true rfl) ?_
          unfold rsnV
          rw [if_neg (zI_eq c8)]
          rw [if_neg (Int32.not_lt.mpr c18)]
          rw [if_neg c44]
          rw [if_pos c68]
          exact ⟨rfl, rfl⟩
        · refine J_iconst (v := 3) hC dX5_reasonAgainst_71 (by decide) ?_
          refine J_goto 76 hC dX5_reasonAgainst_72 (by decide) ?_
          refine J_iretI hC dX5_reasonAgainst_76 (Nat.le_of_ble_eq_true rfl) (Nat.le_of_ble_eq_true rfl) ?_
          unfold rsnV
          rw [if_neg (zI_eq c8)]
          rw [if_neg (Int32.not_lt.mpr c18)]
          rw [if_neg c44]
          rw [if_neg c68]
          exact ⟨rfl, rfl⟩
    · refine J_iconst (v := 2) hC dX5_reasonAgainst_21 (by decide) ?_
      refine J_iretI hC dX5_reasonAgainst_22 (Nat.le_of_ble_eq_true rfl) (Nat.le_of_ble_eq_true rfl) ?_
      unfold rsnV
      rw [if_neg (zI_eq c8)]
      rw [if_pos (Int32.not_le.mp c18)]
      exact ⟨rfl, rfl⟩
  · refine J_iconst (v := 1) hC dX5_reasonAgainst_11 (by decide) ?_
    exact J_iretI hC dX5_reasonAgainst_12 (Nat.le_of_ble_eq_true rfl) (Nat.le_of_ble_eq_true rfl) ⟨(if_pos (zI_ne c8)).symm, rfl⟩

set_option maxHeartbeats 4000000 in
set_option maxRecDepth 100000 in
/-- forgetNight -/
theorem c_X5_forgetNight {G : JG} (S : HS) (x n : Nat) (A : Nat → Nat → Nat) (hs : Shp G x A n S) (hln : hI S 2 (A 0 5) = nI n) : Ct G yX5_forgetNight cX5_forgetNight 2 none 4 120 0 0 [.ref x] S (rV (fun S' => ∃ I', S' = wIV S I' (hV S) ∧ (fun I' => (∀ j a, j ≠ 1 → I' j a = hI S j a) ∧ (∀ a, a ≠ A 0 7 → (∀ j, j < n → a ≠ A 3 j) → I' 1 a = hI S 1 a) ∧ I' 1 (A 0 7) = 0 ∧ ∀ j, j < n → I' 1 (A 3 j) = 0) I')) noX := by
  refine Ct.of (by decide) (Nat.le_of_ble_eq_true rfl) (fun X hC hT hin => ?_)
  have loop : ∀ (m i : Nat) (I : Nat → Nat → Int32), n - i < m → i ≤ n → (∀ j a, j ≠ 1 → I j a = hI S j a) → (∀ a, (∀ j, j < n → a ≠ A 3 j) → I 1 a = hI S 1 a) → (∀ j, j < i → I 1 (A 3 j) = 0) → J X G (QQ X G (rV (fun S' => ∃ I', S' = wIV S I' (hV S) ∧ (fun I' => (∀ j a, j ≠ 1 → I' j a = hI S j a) ∧ (∀ a, a ≠ A 0 7 → (∀ j, j < n → a ≠ A 3 j) → I' 1 a = hI S 1 a) ∧ I' 1 (A 0 7) = 0 ∧ ∀ j, j < n → I' 1 (A 3 j) = 0) I')) noX 0 0) 2 0 0 2 [(1, .int (nI i)), (0, .ref x)] [] (wIV S I (hV S)) := by
    intro m
    induction m with
    | zero => intro i I h; omega
    | succ m ih =>
    intro i I hm hi h1 h2 h3
    have hs' := hs.w I (hV S)
    have hln' : hI (wIV S I (hV S)) 2 (A 0 5) = nI n := (h1 2 _ (by decide)).trans hln
    refine J_iload_n 0 hC dX5_forgetNight_2 rfl rfl ?_
    refine J_aload_n 1 hC dX5_forgetNight_3 rfl rfl ?_
    refine fg_X5_35 hC hs.kx hs.pl dX5_forgetNight_4 ?_
    refine cl_X5_102 hC (c_size _ (A 0 5) hs'.kl) hs.kl (Nat.le_of_ble_eq_true rfl) ⟨⟨Nat.le_of_ble_eq_true rfl, Nat.le_of_ble_eq_true rfl⟩, Nat.le_of_ble_eq_true rfl, Nat.le_of_ble_eq_true rfl⟩ dX5_forgetNight_7 (fun r7 S7 e7 => ?_)
    obtain ⟨rfl, e7⟩ := e7
    subst S7
    rw [hln']
    refine J_icmp_ge 37 hC dX5_forgetNight_10 (by decide) (fun c10 => ?_) (fun c10 => ?_)
    · refine J_aload_n 1 hC dX5_forgetNight_37 rfl rfl ?_
      refine fg_X5_42 hC hs.kx hs.pp dX5_forgetNight_38 ?_
      refine J_iconst (v := 0) hC dX5_forgetNight_41 (by decide) ?_
      refine fp_X5_116 hC hs.kp ⟨rfl, rfl⟩ dX5_forgetNight_42 ?_
      refine J_vretI hC dX5_forgetNight_45 (Nat.le_of_ble_eq_true rfl) (Nat.le_of_ble_eq_true rfl) ?_
      have e : i = n := Nat.le_antisymm hi (Nat.not_lt.mp (fun q => absurd c10 (nI_ge q (by have := hs.n20; omega))))
      subst e
      refine ⟨up2 I 1 (A 0 7) 0, rfl, fun j a hj => (up2_nk hj).trans (h1 j a hj), fun a ha hb => (up2_na ha).trans (h2 a hb), up2_same _ _ _ _, fun j hj => ?_⟩
      exact (up2_na (hK_ne (hs.ko hj) hs.kp (by decide))).trans (h3 j hj)
    · have hlt : i < n := Nat.not_le.mp (fun q => c10 (nI_le q (by have := hs.n20; omega)))
      refine J_aload_n 1 hC dX5_forgetNight_13 rfl rfl ?_
      refine fg_X5_35 hC hs.kx hs.pl dX5_forgetNight_14 ?_
      refine J_iload_n 0 hC dX5_forgetNight_17 rfl rfl ?_
      refine cl_X5_179 hC (c_get _ (A 0 5) (A 0 6) n i (A 1 i) hs'.kl hs'.pe (hs'.ked hlt) hln' hlt (hs'.ned hlt) (hs'.ned2 hlt) hs'.n20 (hs'.pg hlt)) hs.kl (Nat.le_of_ble_eq_true rfl) ⟨⟨Nat.le_of_ble_eq_true rfl, Nat.le_of_ble_eq_true rfl⟩, Nat.le_of_ble_eq_true rfl, Nat.le_of_ble_eq_true rfl⟩ dX5_forgetNight_18 (fun r18 S18 e18 => ?_)
      obtain ⟨rfl, e18⟩ := e18
      subst S18
      refine J_castT hC (hs'.kg hlt) dX5_forgetNight_21 ?_
      refine fg_X5_135 hC (hs'.kg hlt) (hs'.po hlt) dX5_forgetNight_24 ?_
      refine J_iconst (v := 0) hC dX5_forgetNight_27 (by decide) ?_
      refine fp_X5_139 hC (hs'.ko hlt) ⟨rfl, rfl⟩ dX5_forgetNight_28 ?_
      refine J_iinc (lv' := [(1, _), (0, _)]) 0 hC dX5_forgetNight_31 rfl (nI_1 i) (by decide) rfl ?_
      refine J_goto 2 hC dX5_forgetNight_34 (by decide) ?_
      refine J_re [0, 1] rfl (ih (i + 1) (up2 I 1 (A 3 i) 0) (by omega) (by omega) (fun j a hj => (up2_nk hj).trans (h1 j a hj)) (fun a ha => (up2_na (ha i hlt)).trans (h2 a ha)) (fun j hj => ?_))
      by_cases e : j = i
      · subst e; exact up2_same _ _ _ _
      · exact (up2_na (fun z => e (hs.inj (by omega) hlt (Or.inr (Or.inl z))))).trans (h3 j (by omega))
  refine J_iconst (v := 0) hC dX5_forgetNight_0 (by decide) ?_
  refine J_istore_n (lv' := [(1, _), (0, _)]) hC dX5_forgetNight_1 rfl (by decide) rfl ?_
  exact J_re [0, 1] rfl (loop (n + 1) 0 (hI S) (by omega) (by omega) (fun _ _ _ => rfl) (fun _ _ => rfl) (fun j hj => absurd hj (Nat.not_lt_zero j)))
