/-! ArrayList.add: printed by wip/p27/class11.py -/
set_option maxHeartbeats 4000000 in
set_option maxRecDepth 100000 in
/-- ArraysSupport.newLength -/
theorem c_newLen {G : JG} (S : HS) (o m p N : Int32) (hN0 : o + (if m < p then p else m) = N) (h1 : 0 < N) (h2 : ¬ 2147483639 < N) : Ct G yJ8_newLength_cabcc cJ8_newLength_cabcc 4 (some .int) 1 40 0 0 [.int o, .int m, .int p] S (rI (fun r S' => r = N ∧ S' = S)) noX := by
  refine Ct.ofF (by decide +kernel) (Nat.le_of_ble_eq_true rfl) (fun X hC hT hin => ?_)
  refine J_iload_n 0 hC dJ8_newLength_cabcc_0 rfl rfl ?_
  refine J_iload_n 1 hC dJ8_newLength_cabcc_1 rfl rfl ?_
  refine J_iload_n 2 hC dJ8_newLength_cabcc_2 rfl rfl ?_
  refine cl_J8_194 hC (c_J9_max_7cf53 S _ _) (Nat.le_of_ble_eq_true rfl) ⟨⟨Nat.le_of_ble_eq_true rfl, Nat.le_of_ble_eq_true rfl⟩, Nat.le_of_ble_eq_true rfl, Nat.le_of_ble_eq_true rfl⟩ dJ8_newLength_cabcc_3 (fun r3 S3 e3 => ?_)
  obtain ⟨rfl, e3⟩ := e3
  subst S3
  refine J_iadd hC dJ8_newLength_cabcc_6 ?_
  refine J_topI hN0 ?_
  refine J_istore_n (lv' := [(3, _), (0, _), (1, _), (2, _)]) hC dJ8_newLength_cabcc_7 rfl (by decide) rfl ?_
  refine J_iconst (v := 0) hC dJ8_newLength_cabcc_8 (by decide) ?_
  refine J_iload_n 0 hC dJ8_newLength_cabcc_9 rfl rfl ?_
  refine J_icmp_ge 21 hC dJ8_newLength_cabcc_10 (by decide) (fun c10 => absurd c10 (Int32.not_le.mpr h1)) (fun c10 => ?_)
  refine J_iload_n 0 hC dJ8_newLength_cabcc_13 rfl rfl ?_
  refine J_ldc (v := 2147483639) hC dJ8_newLength_cabcc_14 (mG 615 (by decide +kernel) rfl) ?_
  refine J_icmp_gt 21 hC dJ8_newLength_cabcc_16 (by decide) (fun c16 => absurd c16 h2) (fun c16 => ?_)
  refine J_iload_n 0 hC dJ8_newLength_cabcc_19 rfl rfl ?_
  exact J_iretI hC dJ8_newLength_cabcc_20 (Nat.le_of_ble_eq_true rfl) (Nat.le_of_ble_eq_true rfl) ⟨rfl, rfl⟩

theorem nI_inj {a b : Nat} (ha : a < 2147483648) (hb : b < 2147483648) (h : nI a = nI b) : a = b := by
  have := congrArg Int32.toNatClampNeg h
  rwa [nI_clamp ha, nI_clamp hb] at this
theorem ext.trans_q {S T : HS} {q : Nat} {g : Nat → Option Nat} (h : ext S T) (hq : hK S q = 0) : ext S (sPa T q g) := fun a ha => (h a ha).trans (by
  have hne : a ≠ q := fun z => ha (by rw [z]; exact hq)
  exact ⟨Eq.refl _, Eq.refl _, fun _ => Eq.refl _, fun _ => if_neg hne, fun _ => Eq.refl _, fun _ => Eq.refl _⟩)
theorem kE {S T : HS} {a n : Nat} (h : ext S T) (h2 : hK S a = n) (h3 : n ≠ 0) : hK T a = n := (h a (by rw [h2]; exact h3)).1.trans h2

set_option maxHeartbeats 4000000 in
set_option maxRecDepth 100000 in
/-- Arrays.copyOf -/
theorem c_copy3 {G : JG} (S : HS) (ed n N : Nat) (he : hK S ed = 12) (hn : hN S ed = n) (hnN : n < N) (hN2 : N ≤ 22) (hel : ∀ k, k < n → ∀ y, hP S k ed = some y → hK S y = 6) : Ct G yJ7_copyOf_6403c cJ7_copyOf_6403c 4 (some (FieldType.array (FieldType.object "java/lang/Object"))) 2 80 1 22 [.ref ed, .int (nI N), .ref (gM G)] S (rA (fun r S' => hK S r = 0 ∧ ext S S' ∧ hK S' r = 12 ∧ hN S' r = N ∧ ∀ k, k < n → hP S' k r = hP S k ed)) noX := by
  refine Ct.ofF (by decide +kernel) (Nat.le_of_ble_eq_true rfl) (fun X hC hT hin => ?_)
  refine J_aload_n 2 hC dJ7_copyOf_6403c_0 rfl rfl ?_
  refine J_ldcO hC (mG 639 (by decide +kernel) rfl) dJ7_copyOf_6403c_1 ?_
  refine J_acmp_ne 13 hC dJ7_copyOf_6403c_3 (by decide) (fun c3 => absurd rfl c3) (fun c3 => ?_)
  refine J_iload_n 1 hC dJ7_copyOf_6403c_6 rfl rfl ?_
  refine J_newO (N := N) hC (mG 641 (by decide +kernel) rfl) (nI_pos (by omega)) (nI_clamp (by omega)) (by omega) (Nat.le_of_ble_eq_true rfl) (by omega) dJ7_copyOf_6403c_7 (fun q fq => ?_)
  refine J_goto 24 hC dJ7_copyOf_6403c_10 (by decide) ?_
  refine J_astore_n (lv' := [(3, _), (0, _), (1, _), (2, _)]) hC dJ7_copyOf_6403c_24 rfl (by decide) rfl ?_
  have ke : hK (sNew S q 12 N) ed = 12 := kNew fq he (by decide)
  have kq : hK (sNew S q 12 N) q = 12 := if_pos rfl
  have hne : ed ≠ q := nqz fq he (by decide)
  have ne : hN (sNew S q 12 N) ed = n := (if_neg hne).trans hn
  have nq : hN (sNew S q 12 N) q = N := if_pos rfl
  refine J_aload_n 1 hC dJ7_copyOf_6403c_25 rfl rfl ?_
  refine J_iconst (v := 0) hC dJ7_copyOf_6403c_26 (by decide) ?_
  refine J_aload_n 0 hC dJ7_copyOf_6403c_27 rfl rfl ?_
  refine J_iconst (v := 0) hC dJ7_copyOf_6403c_28 (by decide) ?_
  refine J_aload_n 1 hC dJ7_copyOf_6403c_29 rfl rfl ?_
  refine J_alen hC (t0 := 2) ke rfl rfl (show Int32.ofNat (hN (sNew S q 12 N) ed) = nI n by rw [ne]; rfl) dJ7_copyOf_6403c_30 ?_
  refine J_iload_n 2 hC dJ7_copyOf_6403c_31 rfl rfl ?_
  refine cl_J7_304 hC (c_J9_min_7cf53 _ (nI n) (nI N)) (Nat.le_of_ble_eq_true rfl) ⟨⟨Nat.le_of_ble_eq_true rfl, Nat.le_of_ble_eq_true rfl⟩, Nat.le_of_ble_eq_true rfl, by omega⟩ dJ7_copyOf_6403c_32 (fun r32 S32 e32 => ?_)
  obtain ⟨rfl, e32⟩ := e32
  subst S32
  rw [if_neg (show ¬ nI N < nI n from nI_nlt (by omega) (by omega))]
  have z0 : (0 : Int32).toNatClampNeg = 0 := rfl
  have zn : (nI n).toNatClampNeg = n := nI_clamp (by omega)
  refine J_copyO (idx := 150) hC ke kq (fun i hi y hy => ?_) (mG 645 (by decide +kernel) rfl) (by decide) (by decide) (nI_pos (by omega)) (by rw [z0, zn, ne]; omega) (by rw [z0, zn, nq]; omega) (Nat.le_of_ble_eq_true rfl) (Nat.le_of_ble_eq_true rfl) dJ7_copyOf_6403c_35 ?_
  · rw [zn] at hi
    rw [z0, Nat.zero_add, hP_sNew, if_neg hne] at hy
    exact kNew fq (hel i hi y hy) (by decide)
  refine J_aload_n 0 hC dJ7_copyOf_6403c_38 rfl rfl ?_
  refine J_aretI hC dJ7_copyOf_6403c_39 (Or.inr ⟨_, rfl⟩) (Nat.le_of_ble_eq_true rfl) (by omega) ?_
  refine ⟨fq, (ext.rfl.new fq).trans_q fq, kq, nq, fun k hk => ?_⟩
  rw [hP_sPa, if_pos rfl]
  unfold va_cpy
  rw [z0, zn, if_pos ⟨Nat.zero_le _, by omega⟩, Nat.zero_add, Nat.sub_zero]
  exact if_neg hne

set_option maxHeartbeats 4000000 in
set_option maxRecDepth 100000 in
/-- Arrays.copyOf(T[], int) -/
theorem c_copy2 {G : JG} (S : HS) (ed n N : Nat) (he : hK S ed = 12) (hn : hN S ed = n) (hnN : n < N) (hN2 : N ≤ 22) (hel : ∀ k, k < n → ∀ y, hP S k ed = some y → hK S y = 6) : Ct G yJ7_copyOf_1904c cJ7_copyOf_1904c 2 (some (FieldType.array (FieldType.object "java/lang/Object"))) 3 120 1 22 [.ref ed, .int (nI N)] S (rA (fun r S' => hK S r = 0 ∧ ext S S' ∧ hK S' r = 12 ∧ hN S' r = N ∧ ∀ k, k < n → hP S' k r = hP S k ed)) noX := by
  refine Ct.ofF (by decide +kernel) (Nat.le_of_ble_eq_true rfl) (fun X hC hT hin => ?_)
  refine J_aload_n 0 hC dJ7_copyOf_1904c_0 rfl rfl ?_
  refine J_iload_n 1 hC dJ7_copyOf_1904c_1 rfl rfl ?_
  refine J_aload_n 0 hC dJ7_copyOf_1904c_2 rfl rfl ?_
  refine J_getCO hC he (mG 622 (by decide +kernel) rfl) (Nat.le_of_ble_eq_true rfl) (Nat.le_of_ble_eq_true rfl) dJ7_copyOf_1904c_3 ?_
  refine cl_J7_300 hC (c_copy3 S ed n N he hn hnN hN2 hel) (Nat.le_of_ble_eq_true rfl) ⟨⟨Nat.le_of_ble_eq_true rfl, Nat.le_of_ble_eq_true rfl⟩, Nat.le_of_ble_eq_true rfl, Nat.le_of_ble_eq_true rfl⟩ dJ7_copyOf_1904c_6 (fun r6 S6 e6 => ?_)
  exact J_aretI hC dJ7_copyOf_1904c_9 (Or.inr ⟨_, rfl⟩) (Nat.le_of_ble_eq_true rfl) (Nat.le_of_ble_eq_true rfl) e6

set_option maxHeartbeats 4000000 in
set_option maxRecDepth 100000 in
/-- ArrayList.grow(int) -/
theorem c_grow_e {G : JG} (S : HS) (l : Nat) (h0 : hK S l = 1) (pe : hP S 1 l = some (gE G)) : Ct G yJx4a65c_grow_92f84 cJx4a65c_grow_92f84 4 (some (FieldType.array (FieldType.object "java/lang/Object"))) 4 160 1 22 [.ref l, .int 1] S (rA (fun r S' => hK S r = 0 ∧ stp l S S' ∧ hK S' r = 12 ∧ hN S' r = 10 ∧ hP S' 1 l = some r ∧ hI S' 2 l = hI S 2 l)) noX := by
  refine Ct.of (by decide) (Nat.le_of_ble_eq_true rfl) (fun X hC hT hin => ?_)
  refine J_aload_n 0 hC dJx4a65c_grow_92f84_0 rfl rfl ?_
  refine fg_Jx4a65c_9 hC h0 pe dJx4a65c_grow_92f84_1 ?_
  refine J_alenE hC dJx4a65c_grow_92f84_4 ?_
  refine J_istore_n (lv' := [(2, _), (0, _), (1, _)]) hC dJx4a65c_grow_92f84_5 rfl (by decide) rfl ?_
  refine J_iload_n 0 hC dJx4a65c_grow_92f84_6 rfl rfl ?_
  refine J_if_gt 20 hC dJx4a65c_grow_92f84_7 (by decide) (fun c7 => absurd c7 (by decide)) (fun c7 => ?_)
  refine J_aload_n 1 hC dJx4a65c_grow_92f84_10 rfl rfl ?_
  refine fg_Jx4a65c_9 hC h0 pe dJx4a65c_grow_92f84_11 ?_
  refine J_getsE hC dJx4a65c_grow_92f84_14 ?_
  refine J_acmp_eq 45 hC dJx4a65c_grow_92f84_17 (by decide) (fun c17 => ?_) (fun c17 => absurd rfl c17)
  refine J_aload_n 1 hC dJx4a65c_grow_92f84_45 rfl rfl ?_
  refine J_bipush (v := 10) hC dJx4a65c_grow_92f84_46 (by decide) ?_
  refine J_iload_n 2 hC dJx4a65c_grow_92f84_48 rfl rfl ?_
  refine cl_Jx4a65c_79 hC (c_J9_max_7cf53 S _ _) (Nat.le_of_ble_eq_true rfl) ⟨⟨Nat.le_of_ble_eq_true rfl, Nat.le_of_ble_eq_true rfl⟩, Nat.le_of_ble_eq_true rfl, Nat.le_of_ble_eq_true rfl⟩ dJx4a65c_grow_92f84_49 (fun r49 S49 e49 => ?_)
  obtain ⟨rfl, e49⟩ := e49
  subst S49
  rw [show (if (10 : Int32) < 1 then (1 : Int32) else 10) = 10 by decide]
  refine J_newO (N := 10) hC (mG 649 (by decide +kernel) rfl) (by decide) (by decide) (by decide) (Nat.le_of_ble_eq_true rfl) (Nat.le_of_ble_eq_true rfl) dJx4a65c_grow_92f84_52 (fun q fq => ?_)
  have hx := ext.rfl.new (lab := 12) (n := 10) fq
  refine J_dup_x1 hC dJx4a65c_grow_92f84_55 rfl rfl ?_
  refine fp_Jx4a65c_9 hC (kE hx h0 (by decide)) dJx4a65c_grow_92f84_56 ?_
  exact J_aretI hC dJx4a65c_grow_92f84_59 (Or.inr ⟨_, rfl⟩) (Nat.le_of_ble_eq_true rfl) (Nat.le_of_ble_eq_true rfl) ⟨fq, stp.ofP hx (by rw [h0]; decide), if_pos rfl, if_pos rfl, hP_same _ _ _ _, (hI_sP _ _ _ _ _ _).trans ((hx l (by rw [h0]; decide)).2.2.1 2)⟩

set_option maxHeartbeats 4000000 in
set_option maxRecDepth 100000 in
/-- ArrayList.grow(int) -/
theorem c_grow_n {G : JG} (S : HS) (ed n N : Nat) (he : hK S ed = 12) (hn : hN S ed = n) (hnn : (n = 10 ∧ N = 15) ∨ (n = 15 ∧ N = 22)) (hel : ∀ k, k < n → ∀ y, hP S k ed = some y → hK S y = 6) (l : Nat) (h0 : hK S l = 1) (pe : hP S 1 l = some ed)  : Ct G yJx4a65c_grow_92f84 cJx4a65c_grow_92f84 4 (some (FieldType.array (FieldType.object "java/lang/Object"))) 4 160 1 22 [.ref l, .int (nI (n + 1))] S (rA (fun r S' => hK S r = 0 ∧ stp l S S' ∧ hK S' r = 12 ∧ hN S' r = N ∧ hP S' 1 l = some r ∧ hI S' 2 l = hI S 2 l ∧ ∀ k, k < n → hP S' k r = hP S k ed)) noX := by
  refine Ct.of (by decide) (Nat.le_of_ble_eq_true rfl) (fun X hC hT hin => ?_)
  have hnN : n < N ∧ N ≤ 22 := by omega
  refine J_aload_n 0 hC dJx4a65c_grow_92f84_0 rfl rfl ?_
  refine fg_Jx4a65c_9 hC h0 pe dJx4a65c_grow_92f84_1 ?_
  refine J_alen hC (t0 := 2) he rfl rfl (show Int32.ofNat (hN S ed) = nI n by rw [hn]; rfl) dJx4a65c_grow_92f84_4 ?_
  refine J_istore_n (lv' := [(2, _), (0, _), (1, _)]) hC dJx4a65c_grow_92f84_5 rfl (by decide) rfl ?_
  refine J_iload_n 0 hC dJx4a65c_grow_92f84_6 rfl rfl ?_
  refine J_if_gt 20 hC dJx4a65c_grow_92f84_7 (by decide) (fun c7 => ?_) (fun c7 => absurd (show 0 < nI n by rcases hnn with ⟨rfl, -⟩ | ⟨rfl, -⟩ <;> decide) c7)
  refine J_iload_n 0 hC dJx4a65c_grow_92f84_20 rfl rfl ?_
  refine J_iload_n 2 hC dJx4a65c_grow_92f84_21 rfl rfl ?_
  refine J_iload_n 0 hC dJx4a65c_grow_92f84_22 rfl rfl ?_
  refine J_isub hC dJx4a65c_grow_92f84_23 ?_
  refine J_iload_n 0 hC dJx4a65c_grow_92f84_24 rfl rfl ?_
  refine J_iconst (v := 1) hC dJx4a65c_grow_92f84_25 (by decide) ?_
  refine J_ishr hC dJx4a65c_grow_92f84_26 ?_
  refine cl_Jx4a65c_73 hC (c_newLen S (nI n) (nI (n + 1) - nI n) (nI n >>> 1) (nI N) (by rcases hnn with ⟨rfl, rfl⟩ | ⟨rfl, rfl⟩ <;> decide) (by rcases hnn with ⟨rfl, rfl⟩ | ⟨rfl, rfl⟩ <;> decide) (by rcases hnn with ⟨rfl, rfl⟩ | ⟨rfl, rfl⟩ <;> decide)) (Nat.le_of_ble_eq_true rfl) ⟨⟨Nat.le_of_ble_eq_true rfl, Nat.le_of_ble_eq_true rfl⟩, Nat.le_of_ble_eq_true rfl, Nat.le_of_ble_eq_true rfl⟩ dJx4a65c_grow_92f84_27 (fun r27 S27 e27 => ?_)
  obtain ⟨rfl, e27⟩ := e27
  subst S27
  refine J_istore_n (lv' := [(3, _), (2, _), (0, _), (1, _)]) hC dJx4a65c_grow_92f84_30 rfl (by decide) rfl ?_
  refine J_aload_n 2 hC dJx4a65c_grow_92f84_31 rfl rfl ?_
  refine J_aload_n 2 hC dJx4a65c_grow_92f84_32 rfl rfl ?_
  refine fg_Jx4a65c_9 hC h0 pe dJx4a65c_grow_92f84_33 ?_
  refine J_iload_n 0 hC dJx4a65c_grow_92f84_36 rfl rfl ?_
  refine cl_Jx4a65c_66 hC (c_copy2 S ed n N he hn hnN.1 hnN.2 hel) (Nat.le_of_ble_eq_true rfl) ⟨⟨Nat.le_of_ble_eq_true rfl, Nat.le_of_ble_eq_true rfl⟩, Nat.le_of_ble_eq_true rfl, Nat.le_of_ble_eq_true rfl⟩ dJx4a65c_grow_92f84_37 (fun r37 S37 e37 => ?_)
  obtain ⟨fq, hx, kq, nq, pq⟩ := e37
  refine J_dup_x1 hC dJx4a65c_grow_92f84_40 rfl rfl ?_
  refine fp_Jx4a65c_9 hC (kE hx h0 (by decide)) dJx4a65c_grow_92f84_41 ?_
  exact J_aretI hC dJx4a65c_grow_92f84_44 (Or.inr ⟨_, rfl⟩) (Nat.le_of_ble_eq_true rfl) (Nat.le_of_ble_eq_true rfl) ⟨fq, stp.ofP hx (by rw [h0]; decide), kq, nq, hP_same _ _ _ _, (hI_sP _ _ _ _ _ _).trans ((hx l (by rw [h0]; decide)).2.2.1 2), fun k hk => (hP_na (fun z => by rw [z] at fq; rw [h0] at fq; exact absurd fq (by decide))).trans (pq k hk)⟩

set_option maxHeartbeats 4000000 in
set_option maxRecDepth 100000 in
/-- grow() of an empty list -/
theorem c_grow0_e {G : JG} (S : HS) (l : Nat) (h0 : hK S l = 1) (pe : hP S 1 l = some (gE G)) (hs2 : hI S 2 l = 0) : Ct G yJx4a65c_grow_d5877 cJx4a65c_grow_d5877 1 (some (FieldType.array (FieldType.object "java/lang/Object"))) 5 200 1 22 [.ref l] S (rA (fun r S' => hK S r = 0 ∧ stp l S S' ∧ hK S' r = 12 ∧ hN S' r = 10 ∧ hP S' 1 l = some r ∧ hI S' 2 l = hI S 2 l)) noX := by
  refine Ct.ofF (by decide +kernel) (Nat.le_of_ble_eq_true rfl) (fun X hC hT hin => ?_)
  refine J_aload_n 0 hC dJx4a65c_grow_d5877_0 rfl rfl ?_
  refine J_aload_n 0 hC dJx4a65c_grow_d5877_1 rfl rfl ?_
  refine fg_Jx4a65c_48 hC h0 dJx4a65c_grow_d5877_2 ?_
  refine J_topI hs2 ?_
  refine J_iconst (v := 1) hC dJx4a65c_grow_d5877_5 (by decide) ?_
  refine J_iadd hC dJx4a65c_grow_d5877_6 ?_
  refine cl_Jx4a65c_69 hC (c_grow_e S l h0 pe) h0 (Nat.le_of_ble_eq_true rfl) ⟨⟨Nat.le_of_ble_eq_true rfl, Nat.le_of_ble_eq_true rfl⟩, Nat.le_of_ble_eq_true rfl, Nat.le_of_ble_eq_true rfl⟩ dJx4a65c_grow_d5877_7 (fun r7 S7 e7 => ?_)
  exact J_aretI hC dJx4a65c_grow_d5877_10 (Or.inr ⟨_, rfl⟩) (Nat.le_of_ble_eq_true rfl) (Nat.le_of_ble_eq_true rfl) e7

set_option maxHeartbeats 4000000 in
set_option maxRecDepth 100000 in
/-- grow() -/
theorem c_grow0_n {G : JG} (S : HS) (ed n N : Nat) (he : hK S ed = 12) (hn : hN S ed = n) (hnn : (n = 10 ∧ N = 15) ∨ (n = 15 ∧ N = 22)) (hel : ∀ k, k < n → ∀ y, hP S k ed = some y → hK S y = 6) (l : Nat) (h0 : hK S l = 1) (pe : hP S 1 l = some ed) (hs2 : hI S 2 l = nI n) : Ct G yJx4a65c_grow_d5877 cJx4a65c_grow_d5877 1 (some (FieldType.array (FieldType.object "java/lang/Object"))) 5 200 1 22 [.ref l] S (rA (fun r S' => hK S r = 0 ∧ stp l S S' ∧ hK S' r = 12 ∧ hN S' r = N ∧ hP S' 1 l = some r ∧ hI S' 2 l = hI S 2 l ∧ ∀ k, k < n → hP S' k r = hP S k ed)) noX := by
  refine Ct.ofF (by decide +kernel) (Nat.le_of_ble_eq_true rfl) (fun X hC hT hin => ?_)
  refine J_aload_n 0 hC dJx4a65c_grow_d5877_0 rfl rfl ?_
  refine J_aload_n 0 hC dJx4a65c_grow_d5877_1 rfl rfl ?_
  refine fg_Jx4a65c_48 hC h0 dJx4a65c_grow_d5877_2 ?_
  refine J_topI hs2 ?_
  refine J_iconst (v := 1) hC dJx4a65c_grow_d5877_5 (by decide) ?_
  refine J_iadd hC dJx4a65c_grow_d5877_6 ?_
  rw [nI_1]
  refine cl_Jx4a65c_69 hC (c_grow_n S ed n N he hn hnn hel l h0 pe) h0 (Nat.le_of_ble_eq_true rfl) ⟨⟨Nat.le_of_ble_eq_true rfl, Nat.le_of_ble_eq_true rfl⟩, Nat.le_of_ble_eq_true rfl, Nat.le_of_ble_eq_true rfl⟩ dJx4a65c_grow_d5877_7 (fun r7 S7 e7 => ?_)
  exact J_aretI hC dJx4a65c_grow_d5877_10 (Or.inr ⟨_, rfl⟩) (Nat.le_of_ble_eq_true rfl) (Nat.le_of_ble_eq_true rfl) e7

set_option maxHeartbeats 4000000 in
set_option maxRecDepth 100000 in
/-- ArrayList.add(E, Object[], int) -/
theorem c_add3_s {G : JG} (S : HS) (l g ed n : Nat) (h0 : hK S l = 1) (hg : hK S g = 6) (hs2 : hI S 2 l = nI n) (pe : hP S 1 l = some ed) (he : hK S ed = 12) (hN1 : hN S ed = 10 ∨ hN S ed = 15 ∨ hN S ed = 22) (hlt : n < hN S ed) : Ct G yJx4a65c_add_72be8 cJx4a65c_add_72be8 4 none 6 240 1 22 [.ref l, .ref g, .ref ed, .int (nI n)] S (rV (fun S' => (∃ e' N', (N' = 10 ∨ N' = 15 ∨ N' = 22) ∧ n < N' ∧ (e' = ed ∨ hK S e' = 0) ∧ hK S' e' = 12 ∧ hN S' e' = N' ∧ hP S' 1 l = some e' ∧ (∀ k, k < n → hP S' k e' = hP S k ed) ∧ hP S' n e' = some g ∧ hI S' 2 l = nI (n + 1) ∧ (∀ a, a ≠ l → hK S a ≠ 12 → hK S a ≠ 0 → same1 S S' a) ∧ hK S' l = 1 ∧ ∀ a, hK S a ≠ 0 → hK S' a = hK S a))) noX := by
  refine Ct.of (by decide) (Nat.le_of_ble_eq_true rfl) (fun X hC hT hin => ?_)
  refine J_iload_n 3 hC dJx4a65c_add_72be8_0 rfl rfl ?_
  refine J_aload_n 2 hC dJx4a65c_add_72be8_1 rfl rfl ?_
  refine J_alen hC (t0 := 2) he rfl rfl (rfl : Int32.ofNat (hN S ed) = nI (hN S ed)) dJx4a65c_add_72be8_2 ?_
  refine J_icmp_ne 11 hC dJx4a65c_add_72be8_3 (by decide) (fun c3 => ?_) (fun c3 => absurd (nI_inj (show n < 2147483648 by omega) (show hN S ed < 2147483648 by omega) c3) (Nat.ne_of_lt hlt))
  refine J_aload_n 2 hC dJx4a65c_add_72be8_11 rfl rfl ?_
  refine J_iload_n 3 hC dJx4a65c_add_72be8_12 rfl rfl ?_
  refine J_aload_n 1 hC dJx4a65c_add_72be8_13 rfl rfl ?_
  refine J_aast (r := (RX4, TX4, 12)) (ci := 5) hC he (inN rfl (vp_in_nI hlt (by omega))) hg rfl rfl (mN 659 (by decide +kernel) rfl) dJx4a65c_add_72be8_14 ?_
  have zn : (nI n).toNatClampNeg = n := nI_clamp (by omega)
  rw [zn]
  refine J_aload_n 0 hC dJx4a65c_add_72be8_15 rfl rfl ?_
  refine J_iload_n 3 hC dJx4a65c_add_72be8_16 rfl rfl ?_
  refine J_iconst (v := 1) hC dJx4a65c_add_72be8_17 (by decide) ?_
  refine J_iadd hC dJx4a65c_add_72be8_18 ?_
  refine fp_Jx4a65c_48 hC (kP h0) dJx4a65c_add_72be8_19 ?_
  refine J_vretI hC dJx4a65c_add_72be8_22 (Nat.le_of_ble_eq_true rfl) (Nat.le_of_ble_eq_true rfl) ?_
  have hne : l ≠ ed := hK_ne h0 he (by decide)
  refine ⟨ed, hN S ed, hN1, hlt, Or.inl rfl, he, rfl, ?_, fun k hk => ?_, ?_, ?_, fun a h1 h2 h3 => ⟨rfl, rfl, fun _ => hI_na h1, fun _ => hP_na (fun z => h2 (by rw [z]; exact he)), fun _ => rfl, fun _ => rfl⟩, h0, fun _ _ => rfl⟩
  · exact (hP_sI _ _ _ _ _ _).trans ((hP_na hne).trans pe)
  · exact (hP_sI _ _ _ _ _ _).trans (hP_nk (by omega))
  · exact (hP_sI _ _ _ _ _ _).trans (hP_same _ _ _ _)
  · rw [nI_1]; exact hI_same _ _ _ _

set_option maxHeartbeats 4000000 in
set_option maxRecDepth 100000 in
/-- ArrayList.add(E, Object[], int) -/
theorem c_add3_e {G : JG} (S : HS) (l g ed n : Nat) (h0 : hK S l = 1) (hg : hK S g = 6) (hs2 : hI S 2 l = nI n) (pe : hP S 1 l = some ed) (hE : ed = gE G) (hz : n = 0) : Ct G yJx4a65c_add_72be8 cJx4a65c_add_72be8 4 none 6 240 1 22 [.ref l, .ref g, .ref ed, .int (nI n)] S (rV (fun S' => (∃ e' N', (N' = 10 ∨ N' = 15 ∨ N' = 22) ∧ n < N' ∧ (e' = ed ∨ hK S e' = 0) ∧ hK S' e' = 12 ∧ hN S' e' = N' ∧ hP S' 1 l = some e' ∧ (∀ k, k < n → hP S' k e' = hP S k ed) ∧ hP S' n e' = some g ∧ hI S' 2 l = nI (n + 1) ∧ (∀ a, a ≠ l → hK S a ≠ 12 → hK S a ≠ 0 → same1 S S' a) ∧ hK S' l = 1 ∧ ∀ a, hK S a ≠ 0 → hK S' a = hK S a))) noX := by
  refine Ct.of (by decide) (Nat.le_of_ble_eq_true rfl) (fun X hC hT hin => ?_)
  subst hE hz
  refine J_iload_n 3 hC dJx4a65c_add_72be8_0 rfl rfl ?_
  refine J_aload_n 2 hC dJx4a65c_add_72be8_1 rfl rfl ?_
  refine J_alenE hC dJx4a65c_add_72be8_2 ?_
  refine J_icmp_ne 11 hC dJx4a65c_add_72be8_3 (by decide) (fun c3 => (c3 rfl).elim) (fun c3 => ?_)
  refine J_aload_n 0 hC dJx4a65c_add_72be8_6 rfl rfl ?_
  refine cl_Jx4a65c_129 hC (c_grow0_e S l h0 pe hs2) h0 (Nat.le_of_ble_eq_true rfl) ⟨⟨Nat.le_of_ble_eq_true rfl, Nat.le_of_ble_eq_true rfl⟩, Nat.le_of_ble_eq_true rfl, Nat.le_of_ble_eq_true rfl⟩ dJx4a65c_add_72be8_7 (fun r7 S7 e7 => ?_)
  obtain ⟨fr, s7, k7, n7, p7, i7⟩ := e7
  refine J_astore_n (lv' := [(2, _), (0, _), (1, _), (3, _)]) hC dJx4a65c_add_72be8_10 rfl (by decide) rfl ?_
  refine J_aload_n 0 hC dJx4a65c_add_72be8_11 rfl rfl ?_
  refine J_iload_n 3 hC dJx4a65c_add_72be8_12 rfl rfl ?_
  refine J_aload_n 2 hC dJx4a65c_add_72be8_13 rfl rfl ?_
  have hgl : g ≠ l := hK_ne hg h0 (by decide)
  have k8 : hK S7 l = 1 := s7.2.trans h0
  have g8 : hK S7 g = 6 := (s7.1 g hgl (by rw [hg]; decide)).1.trans hg
  have zn : (nI 0).toNatClampNeg = 0 := nI_clamp (by omega)
  refine J_aast (r := (RX4, TX4, 12)) (ci := 5) hC k7 (inN n7 (vp_in_nI (by omega) (by omega))) g8 rfl rfl (mN 659 (by decide +kernel) rfl) dJx4a65c_add_72be8_14 ?_
  rw [zn]
  refine J_aload_n 1 hC dJx4a65c_add_72be8_15 rfl rfl ?_
  refine J_iload_n 3 hC dJx4a65c_add_72be8_16 rfl rfl ?_
  refine J_iconst (v := 1) hC dJx4a65c_add_72be8_17 (by decide) ?_
  refine J_iadd hC dJx4a65c_add_72be8_18 ?_
  refine fp_Jx4a65c_48 hC (kP k8) dJx4a65c_add_72be8_19 ?_
  refine J_vretI hC dJx4a65c_add_72be8_22 (Nat.le_of_ble_eq_true rfl) (Nat.le_of_ble_eq_true rfl) ?_
  have hne : l ≠ r7 := nqz fr h0 (by decide)
  refine ⟨r7, 10, by omega, by omega, Or.inr fr, k7, n7, ?_, fun k hk => ?_, ?_, ?_, fun a h1 h2 h3 => (s7.1 a h1 h3).trans ⟨rfl, rfl, fun _ => hI_na h1, fun _ => hP_na (fun z => h3 (by rw [z]; exact fr)), fun _ => rfl, fun _ => rfl⟩, k8, fun a h3 => by by_cases c : a = l; rw [c]; exact s7.2; exact (s7.1 a c h3).1⟩
  · exact (hP_sI _ _ _ _ _ _).trans ((hP_na hne).trans p7)
  · omega
  · exact (hP_sI _ _ _ _ _ _).trans (hP_same _ _ _ _)
  · rw [nI_1]; exact hI_same _ _ _ _

set_option maxHeartbeats 4000000 in
set_option maxRecDepth 100000 in
/-- ArrayList.add(E, Object[], int) -/
theorem c_add3_g {G : JG} (S : HS) (l g ed n : Nat) (h0 : hK S l = 1) (hg : hK S g = 6) (hs2 : hI S 2 l = nI n) (pe : hP S 1 l = some ed) (N : Nat) (he : hK S ed = 12) (hn : hN S ed = n) (hnn : (n = 10 ∧ N = 15) ∨ (n = 15 ∧ N = 22)) (hel : ∀ k, k < n → ∀ y, hP S k ed = some y → hK S y = 6) : Ct G yJx4a65c_add_72be8 cJx4a65c_add_72be8 4 none 6 240 1 22 [.ref l, .ref g, .ref ed, .int (nI n)] S (rV (fun S' => (∃ e' N', (N' = 10 ∨ N' = 15 ∨ N' = 22) ∧ n < N' ∧ (e' = ed ∨ hK S e' = 0) ∧ hK S' e' = 12 ∧ hN S' e' = N' ∧ hP S' 1 l = some e' ∧ (∀ k, k < n → hP S' k e' = hP S k ed) ∧ hP S' n e' = some g ∧ hI S' 2 l = nI (n + 1) ∧ (∀ a, a ≠ l → hK S a ≠ 12 → hK S a ≠ 0 → same1 S S' a) ∧ hK S' l = 1 ∧ ∀ a, hK S a ≠ 0 → hK S' a = hK S a))) noX := by
  refine Ct.of (by decide) (Nat.le_of_ble_eq_true rfl) (fun X hC hT hin => ?_)
  refine J_iload_n 3 hC dJx4a65c_add_72be8_0 rfl rfl ?_
  refine J_aload_n 2 hC dJx4a65c_add_72be8_1 rfl rfl ?_
  refine J_alen hC (t0 := 2) he rfl rfl (show Int32.ofNat (hN S ed) = nI n by rw [hn]; rfl) dJx4a65c_add_72be8_2 ?_
  refine J_icmp_ne 11 hC dJx4a65c_add_72be8_3 (by decide) (fun c3 => (c3 rfl).elim) (fun c3 => ?_)
  refine J_aload_n 0 hC dJx4a65c_add_72be8_6 rfl rfl ?_
  refine cl_Jx4a65c_129 hC (c_grow0_n S ed n N he hn hnn hel l h0 pe hs2) h0 (Nat.le_of_ble_eq_true rfl) ⟨⟨Nat.le_of_ble_eq_true rfl, Nat.le_of_ble_eq_true rfl⟩, Nat.le_of_ble_eq_true rfl, Nat.le_of_ble_eq_true rfl⟩ dJx4a65c_add_72be8_7 (fun r7 S7 e7 => ?_)
  obtain ⟨fr, s7, k7, n7, p7, i7, q7⟩ := e7
  refine J_astore_n (lv' := [(2, _), (0, _), (1, _), (3, _)]) hC dJx4a65c_add_72be8_10 rfl (by decide) rfl ?_
  refine J_aload_n 0 hC dJx4a65c_add_72be8_11 rfl rfl ?_
  refine J_iload_n 3 hC dJx4a65c_add_72be8_12 rfl rfl ?_
  refine J_aload_n 2 hC dJx4a65c_add_72be8_13 rfl rfl ?_
  have hgl : g ≠ l := hK_ne hg h0 (by decide)
  have k8 : hK S7 l = 1 := s7.2.trans h0
  have g8 : hK S7 g = 6 := (s7.1 g hgl (by rw [hg]; decide)).1.trans hg
  have zn : (nI n).toNatClampNeg = n := nI_clamp (by omega)
  refine J_aast (r := (RX4, TX4, 12)) (ci := 5) hC k7 (inN n7 (vp_in_nI (by omega) (by omega))) g8 rfl rfl (mN 659 (by decide +kernel) rfl) dJx4a65c_add_72be8_14 ?_
  rw [zn]
  refine J_aload_n 1 hC dJx4a65c_add_72be8_15 rfl rfl ?_
  refine J_iload_n 3 hC dJx4a65c_add_72be8_16 rfl rfl ?_
  refine J_iconst (v := 1) hC dJx4a65c_add_72be8_17 (by decide) ?_
  refine J_iadd hC dJx4a65c_add_72be8_18 ?_
  refine fp_Jx4a65c_48 hC (kP k8) dJx4a65c_add_72be8_19 ?_
  refine J_vretI hC dJx4a65c_add_72be8_22 (Nat.le_of_ble_eq_true rfl) (Nat.le_of_ble_eq_true rfl) ?_
  have hne : l ≠ r7 := nqz fr h0 (by decide)
  refine ⟨r7, N, by omega, by omega, Or.inr fr, k7, n7, ?_, fun k hk => ?_, ?_, ?_, fun a h1 h2 h3 => (s7.1 a h1 h3).trans ⟨rfl, rfl, fun _ => hI_na h1, fun _ => hP_na (fun z => h3 (by rw [z]; exact fr)), fun _ => rfl, fun _ => rfl⟩, k8, fun a h3 => by by_cases c : a = l; rw [c]; exact s7.2; exact (s7.1 a c h3).1⟩
  · exact (hP_sI _ _ _ _ _ _).trans ((hP_na hne).trans p7)
  · exact (hP_sI _ _ _ _ _ _).trans ((hP_nk (by omega)).trans (q7 k hk))
  · exact (hP_sI _ _ _ _ _ _).trans (hP_same _ _ _ _)
  · rw [nI_1]; exact hI_same _ _ _ _

theorem c_add3 {G : JG} (S : HS) (l g ed n : Nat) (h0 : hK S l = 1) (hg : hK S g = 6) (hs2 : hI S 2 l = nI n) (pe : hP S 1 l = some ed) (h20 : n < 20) (hed : (n = 0 ∧ ed = gE G) ∨ (hK S ed = 12 ∧ n ≤ hN S ed ∧ (hN S ed = 10 ∨ hN S ed = 15 ∨ hN S ed = 22))) (hel : ∀ k, k < n → ∀ y, hP S k ed = some y → hK S y = 6) : Ct G yJx4a65c_add_72be8 cJx4a65c_add_72be8 4 none 6 240 1 22 [.ref l, .ref g, .ref ed, .int (nI n)] S (rV (fun S' => (∃ e' N', (N' = 10 ∨ N' = 15 ∨ N' = 22) ∧ n < N' ∧ (e' = ed ∨ hK S e' = 0) ∧ hK S' e' = 12 ∧ hN S' e' = N' ∧ hP S' 1 l = some e' ∧ (∀ k, k < n → hP S' k e' = hP S k ed) ∧ hP S' n e' = some g ∧ hI S' 2 l = nI (n + 1) ∧ (∀ a, a ≠ l → hK S a ≠ 12 → hK S a ≠ 0 → same1 S S' a) ∧ hK S' l = 1 ∧ ∀ a, hK S a ≠ 0 → hK S' a = hK S a))) noX := by
  rcases hed with ⟨h1, h2⟩ | ⟨h1, h2, h3⟩
  · exact c_add3_e S l g ed n h0 hg hs2 pe h2 h1
  · by_cases e : n = hN S ed
    · have hx : (n = 10 ∧ 15 = 15) ∨ (n = 15 ∧ 22 = 22) := by omega
      rcases hx with ⟨hx, -⟩ | ⟨hx, -⟩
      · exact c_add3_g S l g ed n h0 hg hs2 pe 15 h1 e.symm (Or.inl ⟨hx, rfl⟩) hel
      · exact c_add3_g S l g ed n h0 hg hs2 pe 22 h1 e.symm (Or.inr ⟨hx, rfl⟩) hel
    · exact c_add3_s S l g ed n h0 hg hs2 pe h1 h3 (by omega)

set_option maxHeartbeats 4000000 in
set_option maxRecDepth 100000 in
/-- ArrayList.add -/
theorem c_add {G : JG} (S : HS) (l g ed n : Nat) (h0 : hK S l = 1) (hg : hK S g = 6) (hs2 : hI S 2 l = nI n) (pe : hP S 1 l = some ed) (h20 : n < 20) (hed : (n = 0 ∧ ed = gE G) ∨ (hK S ed = 12 ∧ n ≤ hN S ed ∧ (hN S ed = 10 ∨ hN S ed = 15 ∨ hN S ed = 22))) (hel : ∀ k, k < n → ∀ y, hP S k ed = some y → hK S y = 6) : Ct G yJx4a65c_add_9ea2d cJx4a65c_add_9ea2d 2 (some .boolean) 7 280 1 22 [.ref l, .ref g] S (rI (fun _ S' => (∃ e' N', (N' = 10 ∨ N' = 15 ∨ N' = 22) ∧ n < N' ∧ (e' = ed ∨ hK S e' = 0) ∧ hK S' e' = 12 ∧ hN S' e' = N' ∧ hP S' 1 l = some e' ∧ (∀ k, k < n → hP S' k e' = hP S k ed) ∧ hP S' n e' = some g ∧ hI S' 2 l = nI (n + 1) ∧ (∀ a, a ≠ l → hK S a ≠ 12 → hK S a ≠ 0 → same1 S S' a) ∧ hK S' l = 1 ∧ ∀ a, hK S a ≠ 0 → hK S' a = hK S a))) noX := by
  refine Ct.ofF (by decide +kernel) (Nat.le_of_ble_eq_true rfl) (fun X hC hT hin => ?_)
  refine J_aload_n 0 hC dJx4a65c_add_9ea2d_0 rfl rfl ?_
  refine J_dup hC dJx4a65c_add_9ea2d_1 rfl ?_
  refine fg_Jx4a65c_63 hC h0 dJx4a65c_add_9ea2d_2 ?_
  refine J_iconst (v := 1) hC dJx4a65c_add_9ea2d_5 (by decide) ?_
  refine J_iadd hC dJx4a65c_add_9ea2d_6 ?_
  refine fp_Jx4a65c_63 hC h0 dJx4a65c_add_9ea2d_7 ?_
  refine J_aload_n 0 hC dJx4a65c_add_9ea2d_10 rfl rfl ?_
  refine J_aload_n 1 hC dJx4a65c_add_9ea2d_11 rfl rfl ?_
  refine J_aload_n 0 hC dJx4a65c_add_9ea2d_12 rfl rfl ?_
  refine fg_Jx4a65c_9 hC (kI h0) (pI pe) dJx4a65c_add_9ea2d_13 ?_
  refine J_aload_n 0 hC dJx4a65c_add_9ea2d_16 rfl rfl ?_
  refine fg_Jx4a65c_48 hC (kI h0) dJx4a65c_add_9ea2d_17 ?_
  refine J_topI ((hI_nk (by decide)).trans hs2) ?_
  refine cl_Jx4a65c_131 hC (c_add3 _ l g ed n (kI h0) (kI hg) ((hI_nk (by decide)).trans hs2) (pI pe) h20 hed hel) (kI h0) (Nat.le_of_ble_eq_true rfl) ⟨⟨Nat.le_of_ble_eq_true rfl, Nat.le_of_ble_eq_true rfl⟩, Nat.le_of_ble_eq_true rfl, Nat.le_of_ble_eq_true rfl⟩ dJx4a65c_add_9ea2d_20 (fun S20 e20 => ?_)
  obtain ⟨e', N', a1, a2, a3, a4, a5, a6, a7, a8, a9, a10, a11, a12⟩ := e20
  refine J_iconst (v := 1) hC dJx4a65c_add_9ea2d_23 (by decide) ?_
  exact J_zretI hC dJx4a65c_add_9ea2d_24 rfl (Nat.le_of_ble_eq_true rfl) (Nat.le_of_ble_eq_true rfl) ⟨e', N', a1, a2, a3, a4, a5, a6, a7, a8, a9, fun a h1 h2 h3 => same1.trans (T := sI S 0 l (hI S 0 l + 1)) ⟨rfl, rfl, fun _ => hI_na h1, fun _ => rfl, fun _ => rfl, fun _ => rfl⟩ (a10 a h1 h2 h3), a11, a12⟩
