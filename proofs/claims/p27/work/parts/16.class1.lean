/-! the inner classes' methods: printed by wip/p27/class1.py -/
set_option maxHeartbeats 4000000 in
set_option maxRecDepth 100000 in
/-- Clouds.tell -/
theorem c_X0_tell {G : JG} (S : HS) (c f t : Nat) (v w : Int32) (h0 : hK S c = 2) (pf : hP S 0 c = some f) (hf : hK S f = 8) (nf : hN S f = 8) (pt : hP S 1 c = some t) (ht : hK S t = 9) (nt : hN S t = 8) (hm : 0 ≤ hI S 2 c) (hm2 : hI S 2 c < 8) : Ct G yX0_tell cX0_tell 3 none 0 0 0 0 [.ref c, .int v, .int w] S (rV (fun S' => S' = sI (sV (sV S (hI S 2 c).toNatClampNeg f v) (hI S 2 c).toNatClampNeg t w) 2 c (hI S 2 c + 1))) noX := by
  refine Ct.of (by decide) (Nat.le_of_ble_eq_true rfl) (fun X hC hT hin => ?_)
  refine J_aload_n 0 hC dX0_tell_0 rfl rfl ?_
  refine fg_X0_18 hC h0 dX0_tell_1 ?_
  refine J_if_lt 46 hC dX0_tell_4 (by decide) (fun c4 => absurd c4 (Int32.not_lt.mpr hm)) (fun c4 => ?_)
  refine J_aload_n 0 hC dX0_tell_7 rfl rfl ?_
  refine fg_X0_18 hC h0 dX0_tell_8 ?_
  refine J_bipush (v := 8) hC dX0_tell_11 (by decide) ?_
  refine J_icmp_ge 46 hC dX0_tell_13 (by decide) (fun c13 => absurd c13 (Int32.not_le.mpr hm2)) (fun c13 => ?_)
  refine J_aload_n 0 hC dX0_tell_16 rfl rfl ?_
  refine fg_X0_9 hC h0 pf dX0_tell_17 ?_
  refine J_aload_n 0 hC dX0_tell_20 rfl rfl ?_
  refine fg_X0_18 hC h0 dX0_tell_21 ?_
  refine J_iload_n 1 hC dX0_tell_24 rfl rfl ?_
  refine J_iast hC hf rfl (by rw [nf]; exact in8 hm hm2) dX0_tell_25 ?_
  refine J_aload_n 0 hC dX0_tell_26 rfl rfl ?_
  refine fg_X0_15 hC h0 pt dX0_tell_27 ?_
  refine J_aload_n 0 hC dX0_tell_30 rfl rfl ?_
  refine fg_X0_18 hC h0 dX0_tell_31 ?_
  refine J_iload_n 2 hC dX0_tell_34 rfl rfl ?_
  refine J_iast hC ht rfl (by rw [show hN (sV S (hI S 2 c).toNatClampNeg f v) t = 8 from nt]; exact in8 hm hm2) dX0_tell_35 ?_
  refine J_aload_n 0 hC dX0_tell_36 rfl rfl ?_
  refine J_dup hC dX0_tell_37 rfl ?_
  refine fg_X0_18 hC h0 dX0_tell_38 ?_
  refine J_iconst (v := 1) hC dX0_tell_41 (by decide) ?_
  refine J_iadd hC dX0_tell_42 ?_
  refine fp_X0_18 hC h0 dX0_tell_43 ?_
  exact J_vretI hC dX0_tell_46 (Nat.le_of_ble_eq_true rfl) (Nat.le_of_ble_eq_true rfl) rfl

set_option maxHeartbeats 4000000 in
set_option maxRecDepth 100000 in
/-- Clouds.cover -/
theorem c_X0_cover {G : JG} (S : HS) (c f t m : Nat) (w : Int32) (h0 : hK S c = 2) (pf : hP S 0 c = some f) (hf : hK S f = 8) (nf : hN S f = 8) (pt : hP S 1 c = some t) (ht : hK S t = 9) (nt : hN S t = 8) (hm : hI S 2 c = nI m) (hm2 : m ≤ 8) : Ct G yX0_cover cX0_cover 3 (some .boolean) 0 0 0 0 [.ref c, .int w] S (rI (fun r S' => r = zI (cvB (fun i => hV S i f) (fun i => hV S i t) m w) ∧ S' = S)) noX := by
  refine Ct.of (by decide) (Nat.le_of_ble_eq_true rfl) (fun X hC hT hin => ?_)
  have loop : ∀ (n i : Nat), m - i < n → i ≤ m → (∀ j, j < i → ¬ (hV S j f ≤ w ∧ w ≤ hV S j t)) → J X G (QQ X G (rI (fun r S' => r = zI (cvB (fun i => hV S i f) (fun i => hV S i t) m w) ∧ S' = S)) noX 0 0) 3 0 0 2 [(2, .int (nI i)), (0, .ref c), (1, .int w)] [] S := by
    intro n
    induction n with
    | zero => intro i h; omega
    | succ n ih =>
    intro i hn hi hno
    have him : i < m → (nI i).toNatClampNeg = i := fun h => nI_clamp (by omega)
    refine J_iload_n 0 hC dX0_cover_2 rfl rfl ?_
    refine J_aload_n 1 hC dX0_cover_3 rfl rfl ?_
    refine fg_X0_18 hC h0 dX0_cover_4 ?_
    rw [hm]
    refine J_icmp_ge 44 hC dX0_cover_7 (by decide) (fun c7 => ?_) (fun c7 => ?_)
    · refine J_iconst (v := 0) hC dX0_cover_44 (by decide) ?_
      refine J_zretI hC dX0_cover_45 rfl (Nat.le_of_ble_eq_true rfl) (Nat.le_of_ble_eq_true rfl) ?_
      have him2 : i = m := Nat.le_antisymm hi (Nat.not_lt.mp (fun q => absurd c7 (nI_ge q (by omega))))
      subst him2
      exact ⟨(if_neg (by rw [cvB_no hno]; decide)).symm, rfl⟩
    · have hlt : i < m := Nat.not_le.mp (fun q => c7 (nI_le q (by omega)))
      refine J_iload_n 0 hC dX0_cover_10 rfl rfl ?_
      refine J_bipush (v := 8) hC dX0_cover_11 (by decide) ?_
      refine J_icmp_ge 44 hC dX0_cover_13 (by decide) (fun c13 => absurd c13 (nI_ge (show i < 8 by omega) (by decide))) (fun c13 => ?_)
      refine J_aload_n 1 hC dX0_cover_16 rfl rfl ?_
      refine fg_X0_9 hC h0 pf dX0_cover_17 ?_
      refine J_iload_n 0 hC dX0_cover_20 rfl rfl ?_
      refine J_iald hC hf rfl (by rw [nf]; exact vp_in_nI (by omega) (by decide)) dX0_cover_21 ?_
      refine J_iload_n 2 hC dX0_cover_22 rfl rfl ?_
      refine J_icmp_gt 38 hC dX0_cover_23 (by decide) (fun c23 => ?_) (fun c23 => ?_)
      · refine J_iinc (lv' := [(2, _), (0, _), (1, _)]) 0 hC dX0_cover_38 rfl (nI_1 i) (by decide) rfl ?_
        refine J_goto 2 hC dX0_cover_41 (by decide) ?_
        refine J_re [0, 1, 2] rfl (ih (i + 1) (by omega) (by omega) (fun j hj => ?_))
        rcases Nat.lt_succ_iff_lt_or_eq.mp hj with h | rfl
        · exact hno j h
        · rw [him hlt] at c23
          exact fun z => absurd z.1 (Int32.not_le.mpr c23)
      · refine J_iload_n 2 hC dX0_cover_26 rfl rfl ?_
        refine J_aload_n 1 hC dX0_cover_27 rfl rfl ?_
        refine fg_X0_15 hC h0 pt dX0_cover_28 ?_
        refine J_iload_n 0 hC dX0_cover_31 rfl rfl ?_
        refine J_iald hC ht rfl (by rw [nt]; exact vp_in_nI (by omega) (by decide)) dX0_cover_32 ?_
        refine J_icmp_gt 38 hC dX0_cover_33 (by decide) (fun c33 => ?_) (fun c33 => ?_)
        · refine J_iinc (lv' := [(2, _), (0, _), (1, _)]) 0 hC dX0_cover_38 rfl (nI_1 i) (by decide) rfl ?_
          refine J_goto 2 hC dX0_cover_41 (by decide) ?_
          refine J_re [0, 1, 2] rfl (ih (i + 1) (by omega) (by omega) (fun j hj => ?_))
          rcases Nat.lt_succ_iff_lt_or_eq.mp hj with h | rfl
          · exact hno j h
          · rw [him hlt] at c33
            exact fun z => absurd z.2 (Int32.not_le.mpr c33)
        · refine J_iconst (v := 1) hC dX0_cover_36 (by decide) ?_
          refine J_zretI hC dX0_cover_37 rfl (Nat.le_of_ble_eq_true rfl) (Nat.le_of_ble_eq_true rfl) ?_
          rw [him hlt] at c23 c33
          exact ⟨(if_pos (cvB_iff.mpr ⟨i, hlt, Int32.not_lt.mp c23, Int32.not_lt.mp c33⟩)).symm, rfl⟩
  refine J_iconst (v := 0) hC dX0_cover_0 (by decide) ?_
  refine J_istore_n (lv' := [(2, _), (0, _), (1, _)]) hC dX0_cover_1 rfl (by decide) rfl ?_
  exact J_re [0, 1, 2] rfl (loop (m + 1) 0 (by omega) (by omega) (fun j hj => absurd hj (Nat.not_lt_zero j)))

set_option maxHeartbeats 4000000 in
set_option maxRecDepth 100000 in
/-- Arrays.fill over int[] -/
theorem c_J7_fill_53178 {G : JG} (S : HS) (a lab N : Nat) (v : Int32) (h0 : hK S a = lab) (hl0 : isIA lab = true) (hn : hN S a = N) (hbig : N < 2147483648) : Ct G yJ7_fill_53178 cJ7_fill_53178 4 none 0 0 0 0 [.ref a, .int v] S (rV (fun S' => S' = wIV S (hI S) (fun k b => if b = a ∧ k < N then v else hV S k b))) noX := by
  refine Ct.of (by decide) (Nat.le_of_ble_eq_true rfl) (fun X hC hT hin => ?_)
  have loop : ∀ (n i : Nat), N - i < n → i ≤ N → J X G (QQ X G (rV (fun S' => S' = wIV S (hI S) (fun k b => if b = a ∧ k < N then v else hV S k b))) noX 0 0) 4 0 0 5 [(2, .int (nI i)), (3, .int (nI N)), (0, .ref a), (1, .int v)] [] (wIV S (hI S) (fun k b => if b = a ∧ k < i then v else hV S k b)) := by
    intro n
    induction n with
    | zero => intro i h; omega
    | succ n ih =>
    intro i hn2 hi
    refine J_iload_n 0 hC dJ7_fill_53178_5 rfl rfl ?_
    refine J_iload_n 1 hC dJ7_fill_53178_6 rfl rfl ?_
    refine J_icmp_ge 20 hC dJ7_fill_53178_7 (by decide) (fun c7 => ?_) (fun c7 => ?_)
    · refine J_vretI hC dJ7_fill_53178_20 (Nat.le_of_ble_eq_true rfl) (Nat.le_of_ble_eq_true rfl) ?_
      have him2 : i = N := Nat.le_antisymm hi (Nat.not_lt.mp (fun q => absurd c7 (nI_ge q (by omega))))
      subst him2
      rfl
    · have hlt : i < N := Nat.not_le.mp (fun q => c7 (nI_le q (by omega)))
      refine J_aload_n 2 hC dJ7_fill_53178_10 rfl rfl ?_
      refine J_iload_n 0 hC dJ7_fill_53178_11 rfl rfl ?_
      refine J_iload_n 3 hC dJ7_fill_53178_12 rfl rfl ?_
      refine J_iast hC h0 hl0 (by rw [show hN (wIV S (hI S) (fun k b => if b = a ∧ k < i then v else hV S k b)) a = N from hn]; exact vp_in_nI hlt (by omega)) dJ7_fill_53178_13 ?_
      refine J_iinc (lv' := [(2, _), (3, _), (0, _), (1, _)]) 0 hC dJ7_fill_53178_14 rfl (nI_1 i) (by decide) rfl ?_
      refine J_goto 5 hC dJ7_fill_53178_17 (by decide) ?_
      refine J_eqS ?_ (J_re [0, 1, 2, 3] rfl (ih (i + 1) (by omega) (by omega)))
      rw [nI_clamp (by omega), sV_wIV]
      refine wIV_ext (fun _ _ => rfl) (fun k b => ?_)
      unfold up2
      by_cases e : b = a
      · subst e
        by_cases e2 : k = i
        · subst e2
          simp
        · have : (k < i + 1) ↔ k < i := by omega
          simp [e2, this]
      · simp [e]
  refine J_iconst (v := 0) hC dJ7_fill_53178_0 (by decide) ?_
  refine J_istore_n (lv' := [(2, _), (0, _), (1, _)]) hC dJ7_fill_53178_1 rfl (by decide) rfl ?_
  refine J_aload_n 1 hC dJ7_fill_53178_2 rfl rfl ?_
  refine J_alen hC (t0 := 0) h0 (hsh_IA hl0) rfl (show Int32.ofNat (hN S a) = nI N by rw [hn]; rfl) dJ7_fill_53178_3 ?_
  refine J_istore_n (lv' := [(3, _), (2, _), (0, _), (1, _)]) hC dJ7_fill_53178_4 rfl (by decide) rfl ?_
  refine J_eqS (show S = wIV S (hI S) (fun k b => if b = a ∧ k < 0 then v else hV S k b) from ?_) (J_re [1, 0, 2, 3] rfl (loop (N + 1) 0 (by omega) (by omega)))
  exact (wIV_self S).symm.trans (wIV_ext (fun _ _ => rfl) (fun k b => (if_neg (fun z => Nat.not_lt_zero k z.2)).symm))

set_option maxHeartbeats 4000000 in
set_option maxRecDepth 100000 in
/-- Outlook.clear -/
theorem c_X1_clear {G : JG} (S : HS) (o r : Nat) (h0 : hK S o = 3) (pr : hP S 0 o = some r) (hr : hK S r = 10) (nr : hN S r = 900) : Ct G yX1_clear cX1_clear 1 none 1 30 0 0 [.ref o] S (rV (fun S' => S' = sI (sI (sI (sI (sI (sI (wIV S (hI S) (fun k b => if b = r ∧ k < 900 then 0 else hV S k b)) 2 o (-1)) 3 o (-1)) 4 o 0) 5 o (-1)) 6 o 0) 7 o (-1))) noX := by
  refine Ct.of (by decide) (Nat.le_of_ble_eq_true rfl) (fun X hC hT hin => ?_)
  refine J_aload_n 0 hC dX1_clear_0 rfl rfl ?_
  refine fg_X1_9 hC h0 pr dX1_clear_1 ?_
  refine J_iconst (v := 0) hC dX1_clear_4 (by decide) ?_
  refine cl_X1_15 hC (c_J7_fill_53178 S r 10 900 0 hr rfl nr (by decide)) (Nat.le_of_ble_eq_true rfl) ⟨⟨Nat.le_of_ble_eq_true rfl, Nat.le_of_ble_eq_true rfl⟩, Nat.le_of_ble_eq_true rfl, Nat.le_of_ble_eq_true rfl⟩ dX1_clear_5 (fun S5 e5 => ?_)
  subst S5
  refine J_aload_n 0 hC dX1_clear_8 rfl rfl ?_
  refine J_iconst (v := (-1)) hC dX1_clear_9 (by decide) ?_
  refine fp_X1_21 hC h0 dX1_clear_10 ?_
  refine J_aload_n 0 hC dX1_clear_13 rfl rfl ?_
  refine J_iconst (v := (-1)) hC dX1_clear_14 (by decide) ?_
  refine fp_X1_25 hC h0 dX1_clear_15 ?_
  refine J_aload_n 0 hC dX1_clear_18 rfl rfl ?_
  refine J_iconst (v := 0) hC dX1_clear_19 (by decide) ?_
  refine fp_X1_28 hC h0 dX1_clear_20 ?_
  refine J_aload_n 0 hC dX1_clear_23 rfl rfl ?_
  refine J_iconst (v := (-1)) hC dX1_clear_24 (by decide) ?_
  refine fp_X1_31 hC h0 dX1_clear_25 ?_
  refine J_aload_n 0 hC dX1_clear_28 rfl rfl ?_
  refine J_iconst (v := 0) hC dX1_clear_29 (by decide) ?_
  refine fp_X1_34 hC h0 dX1_clear_30 ?_
  refine J_aload_n 0 hC dX1_clear_33 rfl rfl ?_
  refine J_iconst (v := (-1)) hC dX1_clear_34 (by decide) ?_
  refine fp_X1_37 hC h0 dX1_clear_35 ?_
  exact J_vretI hC dX1_clear_38 (Nat.le_of_ble_eq_true rfl) (Nat.le_of_ble_eq_true rfl) rfl

set_option maxHeartbeats 4000000 in
set_option maxRecDepth 100000 in
/-- Outlook.noteHeight -/
theorem c_X1_noteHeight {G : JG} (S : HS) (o : Nat) (t w : Int32) (h0 : hK S o = 3) : Ct G yX1_noteHeight cX1_noteHeight 3 none 0 0 0 0 [.ref o, .int t, .int w] S (rV (fun S' => S' = if hI S 5 o < 0 ∨ hI S 6 o ≤ w then sI (sI S 5 o t) 6 o w else S)) noX := by
  refine Ct.of (by decide) (Nat.le_of_ble_eq_true rfl) (fun X hC hT hin => ?_)
  refine J_aload_n 0 hC dX1_noteHeight_0 rfl rfl ?_
  refine fg_X1_31 hC h0 dX1_noteHeight_1 ?_
  refine J_if_lt 15 hC dX1_noteHeight_4 (by decide) (fun c4 => ?_) (fun c4 => ?_)
  · refine J_aload_n 0 hC dX1_noteHeight_15 rfl rfl ?_
    refine J_iload_n 1 hC dX1_noteHeight_16 rfl rfl ?_
    refine fp_X1_31 hC h0 dX1_noteHeight_17 ?_
    refine J_aload_n 0 hC dX1_noteHeight_20 rfl rfl ?_
    refine J_iload_n 2 hC dX1_noteHeight_21 rfl rfl ?_
    refine fp_X1_34 hC h0 dX1_noteHeight_22 ?_
    exact J_vretI hC dX1_noteHeight_25 (Nat.le_of_ble_eq_true rfl) (Nat.le_of_ble_eq_true rfl) (if_pos (Or.inl c4)).symm
  · refine J_iload_n 2 hC dX1_noteHeight_7 rfl rfl ?_
    refine J_aload_n 0 hC dX1_noteHeight_8 rfl rfl ?_
    refine fg_X1_34 hC h0 dX1_noteHeight_9 ?_
    refine J_icmp_lt 25 hC dX1_noteHeight_12 (by decide) (fun c12 => ?_) (fun c12 => ?_)
    · exact J_vretI hC dX1_noteHeight_25 (Nat.le_of_ble_eq_true rfl) (Nat.le_of_ble_eq_true rfl) (if_neg (fun z => z.elim c4 (Int32.not_le.mpr c12))).symm
    · refine J_aload_n 0 hC dX1_noteHeight_15 rfl rfl ?_
      refine J_iload_n 1 hC dX1_noteHeight_16 rfl rfl ?_
      refine fp_X1_31 hC h0 dX1_noteHeight_17 ?_
      refine J_aload_n 0 hC dX1_noteHeight_20 rfl rfl ?_
      refine J_iload_n 2 hC dX1_noteHeight_21 rfl rfl ?_
      refine fp_X1_34 hC h0 dX1_noteHeight_22 ?_
      exact J_vretI hC dX1_noteHeight_25 (Nat.le_of_ble_eq_true rfl) (Nat.le_of_ble_eq_true rfl) (if_pos (Or.inr (Int32.not_lt.mp c12))).symm

set_option maxHeartbeats 4000000 in
set_option maxRecDepth 100000 in
/-- Outlook.noteRun -/
theorem c_X1_noteRun {G : JG} (S : HS) (o r : Nat) (t w m : Int32) (h0 : hK S o = 3) (pr : hP S 0 o = some r) (hr : hK S r = 10) (nr : hN S r = 900) (ht : 0 ≤ t) (ht2 : t < 900) : Ct G yX1_noteRun cX1_noteRun 4 none 0 0 0 0 [.ref o, .int t, .int w, .int m] S (rV (fun S' => S' = if 0 < w then sI (sI (sI (sI (sV S t.toNatClampNeg r w) 2 o t) 3 o (if hI S 3 o < 0 then t else hI S 3 o)) 4 o (hI S 4 o + 1)) 7 o (if m ≤ w then t else hI S 7 o) else S)) noX := by
  refine Ct.of (by decide) (Nat.le_of_ble_eq_true rfl) (fun X hC hT hin => ?_)
  refine J_iload_n 2 hC dX1_noteRun_0 rfl rfl ?_
  refine J_if_le 75 hC dX1_noteRun_1 (by decide) (fun c1 => ?_) (fun c1 => ?_)
  · exact J_vretI hC dX1_noteRun_75 (Nat.le_of_ble_eq_true rfl) (Nat.le_of_ble_eq_true rfl) (if_neg (Int32.not_lt.mpr c1)).symm
  · refine J_iload_n 1 hC dX1_noteRun_4 rfl rfl ?_
    refine J_if_lt 75 hC dX1_noteRun_5 (by decide) (fun c5 => absurd c5 (Int32.not_lt.mpr ht)) (fun c5 => ?_)
    refine J_iload_n 1 hC dX1_noteRun_8 rfl rfl ?_
    refine J_aload_n 0 hC dX1_noteRun_9 rfl rfl ?_
    refine fg_X1_9 hC h0 pr dX1_noteRun_10 ?_
    refine J_alen hC (t0 := 0) hr rfl rfl (show Int32.ofNat (hN S r) = 900 by rw [nr]; rfl) dX1_noteRun_13 ?_
    refine J_icmp_ge 75 hC dX1_noteRun_14 (by decide) (fun c14 => absurd c14 (Int32.not_le.mpr ht2)) (fun c14 => ?_)
    refine J_aload_n 0 hC dX1_noteRun_17 rfl rfl ?_
    refine fg_X1_9 hC h0 pr dX1_noteRun_18 ?_
    refine J_iload_n 1 hC dX1_noteRun_21 rfl rfl ?_
    refine J_iload_n 2 hC dX1_noteRun_22 rfl rfl ?_
    refine J_iast hC hr rfl (by rw [nr]; exact in900 ht ht2) dX1_noteRun_23 ?_
    refine J_aload_n 0 hC dX1_noteRun_24 rfl rfl ?_
    refine J_iload_n 1 hC dX1_noteRun_25 rfl rfl ?_
    refine fp_X1_21 hC h0 dX1_noteRun_26 ?_
    refine J_aload_n 0 hC dX1_noteRun_29 rfl rfl ?_
    refine J_aload_n 0 hC dX1_noteRun_30 rfl rfl ?_
    refine fg_X1_25 hC h0 dX1_noteRun_31 ?_
    refine J_if_ge 41 hC dX1_noteRun_34 (by decide) (fun c34 => ?_) (fun c34 => ?_)
    · refine J_aload_n 0 hC dX1_noteRun_41 rfl rfl ?_
      refine fg_X1_25 hC h0 dX1_noteRun_42 ?_
      refine fp_X1_25 hC h0 dX1_noteRun_45 ?_
      refine J_aload_n 0 hC dX1_noteRun_48 rfl rfl ?_
      refine J_dup hC dX1_noteRun_49 rfl ?_
      refine fg_X1_28 hC h0 dX1_noteRun_50 ?_
      refine J_iconst (v := 1) hC dX1_noteRun_53 (by decide) ?_
      refine J_iadd hC dX1_noteRun_54 ?_
      refine fp_X1_28 hC h0 dX1_noteRun_55 ?_
      refine J_aload_n 0 hC dX1_noteRun_58 rfl rfl ?_
      refine J_iload_n 2 hC dX1_noteRun_59 rfl rfl ?_
      refine J_iload_n 3 hC dX1_noteRun_60 rfl rfl ?_
      refine J_icmp_lt 68 hC dX1_noteRun_61 (by decide) (fun c61 => ?_) (fun c61 => ?_)
      · refine J_aload_n 0 hC dX1_noteRun_68 rfl rfl ?_
        refine fg_X1_37 hC h0 dX1_noteRun_69 ?_
        refine fp_X1_37 hC h0 dX1_noteRun_72 ?_
        refine J_vretI hC dX1_noteRun_75 (Nat.le_of_ble_eq_true rfl) (Nat.le_of_ble_eq_true rfl) ?_
        rw [if_pos (Int32.not_le.mp c1)]
        rw [if_neg (show ¬ hI S 3 o < 0 from Int32.not_lt.mpr c34)]
        rw [if_neg (show ¬ m ≤ w from Int32.not_le.mpr c61)]
        rfl
      · refine J_iload_n 1 hC dX1_noteRun_64 rfl rfl ?_
        refine J_goto 72 hC dX1_noteRun_65 (by decide) ?_
        refine fp_X1_37 hC h0 dX1_noteRun_72 ?_
        refine J_vretI hC dX1_noteRun_75 (Nat.le_of_ble_eq_true rfl) (Nat.le_of_ble_eq_true rfl) ?_
        rw [if_pos (Int32.not_le.mp c1)]
        rw [if_neg (show ¬ hI S 3 o < 0 from Int32.not_lt.mpr c34)]
        rw [if_pos (show m ≤ w from Int32.not_lt.mp c61)]
        rfl
    · refine J_iload_n 1 hC dX1_noteRun_37 rfl rfl ?_
      refine J_goto 45 hC dX1_noteRun_38 (by decide) ?_
      refine fp_X1_25 hC h0 dX1_noteRun_45 ?_
      refine J_aload_n 0 hC dX1_noteRun_48 rfl rfl ?_
      refine J_dup hC dX1_noteRun_49 rfl ?_
      refine fg_X1_28 hC h0 dX1_noteRun_50 ?_
      refine J_iconst (v := 1) hC dX1_noteRun_53 (by decide) ?_
      refine J_iadd hC dX1_noteRun_54 ?_
      refine fp_X1_28 hC h0 dX1_noteRun_55 ?_
      refine J_aload_n 0 hC dX1_noteRun_58 rfl rfl ?_
      refine J_iload_n 2 hC dX1_noteRun_59 rfl rfl ?_
      refine J_iload_n 3 hC dX1_noteRun_60 rfl rfl ?_
      refine J_icmp_lt 68 hC dX1_noteRun_61 (by decide) (fun c61 => ?_) (fun c61 => ?_)
      · refine J_aload_n 0 hC dX1_noteRun_68 rfl rfl ?_
        refine fg_X1_37 hC h0 dX1_noteRun_69 ?_
        refine fp_X1_37 hC h0 dX1_noteRun_72 ?_
        refine J_vretI hC dX1_noteRun_75 (Nat.le_of_ble_eq_true rfl) (Nat.le_of_ble_eq_true rfl) ?_
        rw [if_pos (Int32.not_le.mp c1)]
        rw [if_pos (show hI S 3 o < 0 from Int32.not_le.mp c34)]
        rw [if_neg (show ¬ m ≤ w from Int32.not_le.mpr c61)]
        rfl
      · refine J_iload_n 1 hC dX1_noteRun_64 rfl rfl ?_
        refine J_goto 72 hC dX1_noteRun_65 (by decide) ?_
        refine fp_X1_37 hC h0 dX1_noteRun_72 ?_
        refine J_vretI hC dX1_noteRun_75 (Nat.le_of_ble_eq_true rfl) (Nat.le_of_ble_eq_true rfl) ?_
        rw [if_pos (Int32.not_le.mp c1)]
        rw [if_pos (show hI S 3 o < 0 from Int32.not_le.mp c34)]
        rw [if_pos (show m ≤ w from Int32.not_lt.mp c61)]
        rfl

set_option maxHeartbeats 4000000 in
set_option maxRecDepth 100000 in
/-- Outlook.lasts -/
theorem c_X1_lasts {G : JG} (S : HS) (o ru : Nat) (t m : Int32) (h0 : hK S o = 3) (pr : hP S 0 o = some ru) (hr : hK S ru = 10) (nr : hN S ru = 900) : Ct G yX1_lasts cX1_lasts 3 (some .boolean) 0 0 0 0 [.ref o, .int t, .int m] S (rI (fun r S' => r = bI (0 ≤ t ∧ t < 900 ∧ m ≤ hV S t.toNatClampNeg ru) ∧ S' = S)) noX := by
  refine Ct.of (by decide) (Nat.le_of_ble_eq_true rfl) (fun X hC hT hin => ?_)
  refine J_iload_n 1 hC dX1_lasts_0 rfl rfl ?_
  refine J_if_lt 27 hC dX1_lasts_1 (by decide) (fun c1 => ?_) (fun c1 => ?_)
  · refine J_iconst (v := 0) hC dX1_lasts_27 (by decide) ?_
    exact J_zretI hC dX1_lasts_28 rfl (Nat.le_of_ble_eq_true rfl) (Nat.le_of_ble_eq_true rfl) ⟨(if_neg (fun z => absurd z.1 (Int32.not_le.mpr c1))).symm, rfl⟩
  · refine J_iload_n 1 hC dX1_lasts_4 rfl rfl ?_
    refine J_aload_n 0 hC dX1_lasts_5 rfl rfl ?_
    refine fg_X1_9 hC h0 pr dX1_lasts_6 ?_
    refine J_alen hC (t0 := 0) hr rfl rfl (show Int32.ofNat (hN S ru) = 900 by rw [nr]; rfl) dX1_lasts_9 ?_
    refine J_icmp_ge 27 hC dX1_lasts_10 (by decide) (fun c10 => ?_) (fun c10 => ?_)
    · refine J_iconst (v := 0) hC dX1_lasts_27 (by decide) ?_
      exact J_zretI hC dX1_lasts_28 rfl (Nat.le_of_ble_eq_true rfl) (Nat.le_of_ble_eq_true rfl) ⟨(if_neg (fun z => absurd z.2.1 (Int32.not_lt.mpr c10))).symm, rfl⟩
    · refine J_aload_n 0 hC dX1_lasts_13 rfl rfl ?_
      refine fg_X1_9 hC h0 pr dX1_lasts_14 ?_
      refine J_iload_n 1 hC dX1_lasts_17 rfl rfl ?_
      refine J_iald hC hr rfl (by rw [nr]; exact in900 (Int32.not_lt.mp c1) (Int32.not_le.mp c10)) dX1_lasts_18 ?_
      refine J_iload_n 2 hC dX1_lasts_19 rfl rfl ?_
      refine J_icmp_lt 27 hC dX1_lasts_20 (by decide) (fun c20 => ?_) (fun c20 => ?_)
      · refine J_iconst (v := 0) hC dX1_lasts_27 (by decide) ?_
        exact J_zretI hC dX1_lasts_28 rfl (Nat.le_of_ble_eq_true rfl) (Nat.le_of_ble_eq_true rfl) ⟨(if_neg (fun z => absurd z.2.2 (Int32.not_le.mpr c20))).symm, rfl⟩
      · refine J_iconst (v := 1) hC dX1_lasts_23 (by decide) ?_
        refine J_goto 28 hC dX1_lasts_24 (by decide) ?_
        exact J_zretI hC dX1_lasts_28 rfl (Nat.le_of_ble_eq_true rfl) (Nat.le_of_ble_eq_true rfl) ⟨(if_pos ⟨Int32.not_lt.mp c1, Int32.not_le.mp c10, Int32.not_lt.mp c20⟩).symm, rfl⟩

set_option maxHeartbeats 4000000 in
set_option maxRecDepth 100000 in
/-- Target.isOpenOn -/
theorem c_X4_isOpenOn {G : JG} (S : HS) (g : Nat) (n : Int32) (h0 : hK S g = 6) : Ct G yX4_isOpenOn cX4_isOpenOn 2 (some .boolean) 0 0 0 0 [.ref g, .int n] S (rI (fun r S' => r = bI (hI S 9 g < hI S 7 g ∧ (hI S 9 g = 0 ∨ hI S 8 g ≤ n - hI S 10 g)) ∧ S' = S)) noX := by
  refine Ct.of (by decide) (Nat.le_of_ble_eq_true rfl) (fun X hC hT hin => ?_)
  refine J_aload_n 0 hC dX4_isOpenOn_0 rfl rfl ?_
  refine fg_X4_45 hC h0 dX4_isOpenOn_1 ?_
  refine J_aload_n 0 hC dX4_isOpenOn_4 rfl rfl ?_
  refine fg_X4_20 hC h0 dX4_isOpenOn_5 ?_
  refine J_icmp_ge 35 hC dX4_isOpenOn_8 (by decide) (fun c8 => ?_) (fun c8 => ?_)
  · refine J_iconst (v := 0) hC dX4_isOpenOn_35 (by decide) ?_
    exact J_zretI hC dX4_isOpenOn_36 rfl (Nat.le_of_ble_eq_true rfl) (Nat.le_of_ble_eq_true rfl) ⟨(if_neg (fun z => absurd z.1 (Int32.not_lt.mpr c8))).symm, rfl⟩
  · refine J_aload_n 0 hC dX4_isOpenOn_11 rfl rfl ?_
    refine fg_X4_45 hC h0 dX4_isOpenOn_12 ?_
    refine J_if_eq 31 hC dX4_isOpenOn_15 (by decide) (fun c15 => ?_) (fun c15 => ?_)
    · refine J_iconst (v := 1) hC dX4_isOpenOn_31 (by decide) ?_
      refine J_goto 36 hC dX4_isOpenOn_32 (by decide) ?_
      exact J_zretI hC dX4_isOpenOn_36 rfl (Nat.le_of_ble_eq_true rfl) (Nat.le_of_ble_eq_true rfl) ⟨(if_pos ⟨Int32.not_le.mp c8, Or.inl c15⟩).symm, rfl⟩
    · refine J_iload_n 1 hC dX4_isOpenOn_18 rfl rfl ?_
      refine J_aload_n 0 hC dX4_isOpenOn_19 rfl rfl ?_
      refine fg_X4_26 hC h0 dX4_isOpenOn_20 ?_
      refine J_isub hC dX4_isOpenOn_23 ?_
      refine J_aload_n 0 hC dX4_isOpenOn_24 rfl rfl ?_
      refine fg_X4_23 hC h0 dX4_isOpenOn_25 ?_
      refine J_icmp_lt 35 hC dX4_isOpenOn_28 (by decide) (fun c28 => ?_) (fun c28 => ?_)
      · refine J_iconst (v := 0) hC dX4_isOpenOn_35 (by decide) ?_
        exact J_zretI hC dX4_isOpenOn_36 rfl (Nat.le_of_ble_eq_true rfl) (Nat.le_of_ble_eq_true rfl) ⟨(if_neg (fun z => z.2.elim c15 (fun y => absurd y (Int32.not_le.mpr c28)))).symm, rfl⟩
      · refine J_iconst (v := 1) hC dX4_isOpenOn_31 (by decide) ?_
        refine J_goto 36 hC dX4_isOpenOn_32 (by decide) ?_
        exact J_zretI hC dX4_isOpenOn_36 rfl (Nat.le_of_ble_eq_true rfl) (Nat.le_of_ble_eq_true rfl) ⟨(if_pos ⟨Int32.not_le.mp c8, Or.inr (Int32.not_lt.mp c28)⟩).symm, rfl⟩

set_option maxHeartbeats 4000000 in
set_option maxRecDepth 100000 in
/-- Target.takeVisit -/
theorem c_X4_takeVisit {G : JG} (S : HS) (g : Nat) (n : Int32) (h0 : hK S g = 6) : Ct G yX4_takeVisit cX4_takeVisit 2 none 0 0 0 0 [.ref g, .int n] S (rV (fun S' => S' = if hI S 11 g = 0 then S else sI (sI S 9 g (hI S 9 g + 1)) 10 g n)) noX := by
  refine Ct.of (by decide) (Nat.le_of_ble_eq_true rfl) (fun X hC hT hin => ?_)
  refine J_aload_n 0 hC dX4_takeVisit_0 rfl rfl ?_
  refine fg_X4_48 hC h0 dX4_takeVisit_1 ?_
  refine J_if_eq 22 hC dX4_takeVisit_4 (by decide) (fun c4 => ?_) (fun c4 => ?_)
  · exact J_vretI hC dX4_takeVisit_22 (Nat.le_of_ble_eq_true rfl) (Nat.le_of_ble_eq_true rfl) (if_pos c4).symm
  · refine J_aload_n 0 hC dX4_takeVisit_7 rfl rfl ?_
    refine J_dup hC dX4_takeVisit_8 rfl ?_
    refine fg_X4_45 hC h0 dX4_takeVisit_9 ?_
    refine J_iconst (v := 1) hC dX4_takeVisit_12 (by decide) ?_
    refine J_iadd hC dX4_takeVisit_13 ?_
    refine fp_X4_45 hC h0 dX4_takeVisit_14 ?_
    refine J_aload_n 0 hC dX4_takeVisit_17 rfl rfl ?_
    refine J_iload_n 1 hC dX4_takeVisit_18 rfl rfl ?_
    refine fp_X4_26 hC h0 dX4_takeVisit_19 ?_
    exact J_vretI hC dX4_takeVisit_22 (Nat.le_of_ble_eq_true rfl) (Nat.le_of_ble_eq_true rfl) (if_neg c4).symm

set_option maxHeartbeats 4000000 in
set_option maxRecDepth 100000 in
/-- Plan.clear -/
theorem c_X2_clear {G : JG} (S : HS) (p : Nat) (h0 : hK S p = 4) : Ct G yX2_clear cX2_clear 1 none 0 0 0 0 [.ref p] S (rV (fun S' => S' = sP (sI (sI S 2 p 0) 3 p 0) 4 p none)) noX := by
  refine Ct.of (by decide) (Nat.le_of_ble_eq_true rfl) (fun X hC hT hin => ?_)
  refine J_aload_n 0 hC dX2_clear_0 rfl rfl ?_
  refine J_iconst (v := 0) hC dX2_clear_1 (by decide) ?_
  refine fp_X2_16 hC h0 dX2_clear_2 ?_
  refine J_aload_n 0 hC dX2_clear_5 rfl rfl ?_
  refine J_iconst (v := 0) hC dX2_clear_6 (by decide) ?_
  refine fp_X2_20 hC h0 dX2_clear_7 ?_
  refine J_aload_n 0 hC dX2_clear_10 rfl rfl ?_
  refine J_null hC dX2_clear_11 ?_
  refine fpn_X2_23 hC h0 dX2_clear_12 ?_
  exact J_vretI hC dX2_clear_15 (Nat.le_of_ble_eq_true rfl) (Nat.le_of_ble_eq_true rfl) rfl

set_option maxHeartbeats 4000000 in
set_option maxRecDepth 100000 in
/-- Outlook.fact -/
theorem c_X1_fact {G : JG} (S : HS) (o j : Nat) (h0 : hK S o = 3) (hj : j < 5) : Ct G yX1_fact cX1_fact 2 (some .int) 0 0 0 0 [.ref o, .int (nI j)] S (rI (fun r S' => r = hI S (if j = 0 then 2 else if j = 1 then 3 else if j = 2 then 4 else if j = 3 then 5 else 7) o ∧ S' = S)) noX := by
  refine Ct.of (by decide) (Nat.le_of_ble_eq_true rfl) (fun X hC hT hin => ?_)
  rcases (show j = 0 ∨ j = 1 ∨ j = 2 ∨ j = 3 ∨ j = 4 by omega) with rfl | rfl | rfl | rfl | rfl
  · refine J_iload_n 1 hC dX1_fact_0 rfl rfl ?_
    refine J_tableIn (off := 31) 32 hC dX1_fact_1 (by decide) (by decide) (by decide) (by decide) ?_
    refine J_aload_n 0 hC dX1_fact_32 rfl rfl ?_
    refine fg_X1_21 hC h0 dX1_fact_33 ?_
    exact J_iretI hC dX1_fact_36 (Nat.le_of_ble_eq_true rfl) (Nat.le_of_ble_eq_true rfl) ⟨rfl, rfl⟩
  · refine J_iload_n 1 hC dX1_fact_0 rfl rfl ?_
    refine J_tableIn (off := 36) 37 hC dX1_fact_1 (by decide) (by decide) (by decide) (by decide) ?_
    refine J_aload_n 0 hC dX1_fact_37 rfl rfl ?_
    refine fg_X1_25 hC h0 dX1_fact_38 ?_
    exact J_iretI hC dX1_fact_41 (Nat.le_of_ble_eq_true rfl) (Nat.le_of_ble_eq_true rfl) ⟨rfl, rfl⟩
  · refine J_iload_n 1 hC dX1_fact_0 rfl rfl ?_
    refine J_tableIn (off := 41) 42 hC dX1_fact_1 (by decide) (by decide) (by decide) (by decide) ?_
    refine J_aload_n 0 hC dX1_fact_42 rfl rfl ?_
    refine fg_X1_28 hC h0 dX1_fact_43 ?_
    exact J_iretI hC dX1_fact_46 (Nat.le_of_ble_eq_true rfl) (Nat.le_of_ble_eq_true rfl) ⟨rfl, rfl⟩
  · refine J_iload_n 1 hC dX1_fact_0 rfl rfl ?_
    refine J_tableIn (off := 46) 47 hC dX1_fact_1 (by decide) (by decide) (by decide) (by decide) ?_
    refine J_aload_n 0 hC dX1_fact_47 rfl rfl ?_
    refine fg_X1_31 hC h0 dX1_fact_48 ?_
    exact J_iretI hC dX1_fact_51 (Nat.le_of_ble_eq_true rfl) (Nat.le_of_ble_eq_true rfl) ⟨rfl, rfl⟩
  · refine J_iload_n 1 hC dX1_fact_0 rfl rfl ?_
    refine J_tableOut 52 hC dX1_fact_1 (by decide) (by decide) ?_
    refine J_aload_n 0 hC dX1_fact_52 rfl rfl ?_
    refine fg_X1_37 hC h0 dX1_fact_53 ?_
    exact J_iretI hC dX1_fact_56 (Nat.le_of_ble_eq_true rfl) (Nat.le_of_ble_eq_true rfl) ⟨rfl, rfl⟩

set_option maxHeartbeats 4000000 in
set_option maxRecDepth 100000 in
/-- Target.fact -/
theorem c_X4_fact {G : JG} (S : HS) (g pt j : Nat) (h0 : hK S g = 6) (pp : hP S 1 g = some pt) (hp : hK S pt = 5) (hj : j < 10) : Ct G yX4_fact cX4_fact 2 (some .int) 0 0 0 0 [.ref g, .int (nI j)] S (rI (fun r S' => r = tfS S g pt j ∧ S' = S)) noX := by
  refine Ct.of (by decide) (Nat.le_of_ble_eq_true rfl) (fun X hC hT hin => ?_)
  rcases (show j = 0 ∨ j = 1 ∨ j = 2 ∨ j = 3 ∨ j = 4 ∨ j = 5 ∨ j = 6 ∨ j = 7 ∨ j = 8 ∨ j = 9 by omega) with rfl | rfl | rfl | rfl | rfl | rfl | rfl | rfl | rfl | rfl
  · refine J_iload_n 1 hC dX4_fact_0 rfl rfl ?_
    refine J_tableIn (off := 51) 52 hC dX4_fact_1 (by decide) (by decide) (by decide) (by decide) ?_
    refine J_aload_n 0 hC dX4_fact_52 rfl rfl ?_
    refine fg_X4_32 hC h0 pp dX4_fact_53 ?_
    refine fg_X4_52 hC hp dX4_fact_56 ?_
    exact J_iretI hC dX4_fact_59 (Nat.le_of_ble_eq_true rfl) (Nat.le_of_ble_eq_true rfl) ⟨rfl, rfl⟩
  · refine J_iload_n 1 hC dX4_fact_0 rfl rfl ?_
    refine J_tableIn (off := 59) 60 hC dX4_fact_1 (by decide) (by decide) (by decide) (by decide) ?_
    refine J_aload_n 0 hC dX4_fact_60 rfl rfl ?_
    refine fg_X4_32 hC h0 pp dX4_fact_61 ?_
    refine fg_X4_57 hC hp dX4_fact_64 ?_
    exact J_iretI hC dX4_fact_67 (Nat.le_of_ble_eq_true rfl) (Nat.le_of_ble_eq_true rfl) ⟨rfl, rfl⟩
  · refine J_iload_n 1 hC dX4_fact_0 rfl rfl ?_
    refine J_tableIn (off := 67) 68 hC dX4_fact_1 (by decide) (by decide) (by decide) (by decide) ?_
    refine J_aload_n 0 hC dX4_fact_68 rfl rfl ?_
    refine fg_X4_36 hC h0 dX4_fact_69 ?_
    exact J_iretI hC dX4_fact_72 (Nat.le_of_ble_eq_true rfl) (Nat.le_of_ble_eq_true rfl) ⟨rfl, rfl⟩
  · refine J_iload_n 1 hC dX4_fact_0 rfl rfl ?_
    refine J_tableIn (off := 72) 73 hC dX4_fact_1 (by decide) (by decide) (by decide) (by decide) ?_
    refine J_aload_n 0 hC dX4_fact_73 rfl rfl ?_
    refine fg_X4_39 hC h0 dX4_fact_74 ?_
    exact J_iretI hC dX4_fact_77 (Nat.le_of_ble_eq_true rfl) (Nat.le_of_ble_eq_true rfl) ⟨rfl, rfl⟩
  · refine J_iload_n 1 hC dX4_fact_0 rfl rfl ?_
    refine J_tableIn (off := 77) 78 hC dX4_fact_1 (by decide) (by decide) (by decide) (by decide) ?_
    refine J_aload_n 0 hC dX4_fact_78 rfl rfl ?_
    refine fg_X4_16 hC h0 dX4_fact_79 ?_
    exact J_iretI hC dX4_fact_82 (Nat.le_of_ble_eq_true rfl) (Nat.le_of_ble_eq_true rfl) ⟨rfl, rfl⟩
  · refine J_iload_n 1 hC dX4_fact_0 rfl rfl ?_
    refine J_tableIn (off := 82) 83 hC dX4_fact_1 (by decide) (by decide) (by decide) (by decide) ?_
    refine J_aload_n 0 hC dX4_fact_83 rfl rfl ?_
    refine fg_X4_42 hC h0 dX4_fact_84 ?_
    exact J_iretI hC dX4_fact_87 (Nat.le_of_ble_eq_true rfl) (Nat.le_of_ble_eq_true rfl) ⟨rfl, rfl⟩
  · refine J_iload_n 1 hC dX4_fact_0 rfl rfl ?_
    refine J_tableIn (off := 87) 88 hC dX4_fact_1 (by decide) (by decide) (by decide) (by decide) ?_
    refine J_aload_n 0 hC dX4_fact_88 rfl rfl ?_
    refine fg_X4_20 hC h0 dX4_fact_89 ?_
    exact J_iretI hC dX4_fact_92 (Nat.le_of_ble_eq_true rfl) (Nat.le_of_ble_eq_true rfl) ⟨rfl, rfl⟩
  · refine J_iload_n 1 hC dX4_fact_0 rfl rfl ?_
    refine J_tableIn (off := 92) 93 hC dX4_fact_1 (by decide) (by decide) (by decide) (by decide) ?_
    refine J_aload_n 0 hC dX4_fact_93 rfl rfl ?_
    refine fg_X4_23 hC h0 dX4_fact_94 ?_
    exact J_iretI hC dX4_fact_97 (Nat.le_of_ble_eq_true rfl) (Nat.le_of_ble_eq_true rfl) ⟨rfl, rfl⟩
  · refine J_iload_n 1 hC dX4_fact_0 rfl rfl ?_
    refine J_tableIn (off := 97) 98 hC dX4_fact_1 (by decide) (by decide) (by decide) (by decide) ?_
    refine J_aload_n 0 hC dX4_fact_98 rfl rfl ?_
    refine fg_X4_45 hC h0 dX4_fact_99 ?_
    exact J_iretI hC dX4_fact_102 (Nat.le_of_ble_eq_true rfl) (Nat.le_of_ble_eq_true rfl) ⟨rfl, rfl⟩
  · refine J_iload_n 1 hC dX4_fact_0 rfl rfl ?_
    refine J_tableOut 103 hC dX4_fact_1 (by decide) (by decide) ?_
    refine J_aload_n 0 hC dX4_fact_103 rfl rfl ?_
    refine fg_X4_26 hC h0 dX4_fact_104 ?_
    exact J_iretI hC dX4_fact_107 (Nat.le_of_ble_eq_true rfl) (Nat.le_of_ble_eq_true rfl) ⟨rfl, rfl⟩

set_option maxHeartbeats 4000000 in
set_option maxRecDepth 100000 in
/-- minutesUntilReady, pointing nowhere -/
theorem c_mur_n {G : JG} (S : HS) (p g pg : Nat) (h0 : hK S p = 4) (h1 : hK S g = 6) (pp1 : hP S 1 g = some pg) (hp1 : hK S pg = 5) (hn : hP S 4 p = none) : Ct G yX2_minutesUntilReady cX2_minutesUntilReady 4 (some .int) 3 100 0 0 [.ref p, .ref g] S (rI (fun r S' => r = (if hI S 2 g = 0 then 2 else 2 + 3) ∧ S' = S)) noX := by
  refine Ct.of (by decide) (Nat.le_of_ble_eq_true rfl) (fun X hC hT hin => ?_)
  refine J_aload_n 0 hC dX2_minutesUntilReady_0 rfl rfl ?_
  refine fgn_X2_23 hC h0 hn dX2_minutesUntilReady_1 ?_
  refine J_ifnonnullN hC dX2_minutesUntilReady_4 ?_
  refine J_iconst (v := 0) hC dX2_minutesUntilReady_7 (by decide) ?_
  refine J_goto 18 hC dX2_minutesUntilReady_8 (by decide) ?_
  refine J_istore_n (lv' := [(2, _), (0, _), (1, _)]) hC dX2_minutesUntilReady_18 rfl (by decide) rfl ?_
  refine J_aload_n 1 hC dX2_minutesUntilReady_19 rfl rfl ?_
  refine fgn_X2_23 hC h0 hn dX2_minutesUntilReady_20 ?_
  refine J_ifnonnullN hC dX2_minutesUntilReady_23 ?_
  refine J_iconst (v := 2) hC dX2_minutesUntilReady_26 (by decide) ?_
  refine J_goto 54 hC dX2_minutesUntilReady_27 (by decide) ?_
  refine J_istore_n (lv' := [(3, _), (2, _), (0, _), (1, _)]) hC dX2_minutesUntilReady_54 rfl (by decide) rfl ?_
  refine J_aload_n 3 hC dX2_minutesUntilReady_55 rfl rfl ?_
  refine fg_X2_27 hC h1 dX2_minutesUntilReady_56 ?_
  refine J_iload_n 1 hC dX2_minutesUntilReady_59 rfl rfl ?_
  refine J_icmp_ne 67 hC dX2_minutesUntilReady_60 (by decide) (fun c60 => ?_) (fun c60 => ?_)
  · refine J_iload_n 0 hC dX2_minutesUntilReady_67 rfl rfl ?_
    refine J_iconst (v := 3) hC dX2_minutesUntilReady_68 (by decide) ?_
    refine J_iadd hC dX2_minutesUntilReady_69 ?_
    exact J_iretI hC dX2_minutesUntilReady_70 (Nat.le_of_ble_eq_true rfl) (Nat.le_of_ble_eq_true rfl) ⟨(if_neg c60).symm, rfl⟩
  · refine J_iload_n 0 hC dX2_minutesUntilReady_63 rfl rfl ?_
    refine J_goto 70 hC dX2_minutesUntilReady_64 (by decide) ?_
    exact J_iretI hC dX2_minutesUntilReady_70 (Nat.le_of_ble_eq_true rfl) (Nat.le_of_ble_eq_true rfl) ⟨(if_pos c60).symm, rfl⟩

set_option maxHeartbeats 4000000 in
set_option maxRecDepth 100000 in
/-- minutesUntilReady, pointing at a target -/
theorem c_mur_s {G : JG} (S : HS) (p g pg : Nat) (h0 : hK S p = 4) (h1 : hK S g = 6) (pp1 : hP S 1 g = some pg) (hp1 : hK S pg = 5) (q pq : Nat) (pq0 : hP S 4 p = some q) (hq : hK S q = 6) (ppq : hP S 1 q = some pq) (hpq : hK S pq = 5) : Ct G yX2_minutesUntilReady cX2_minutesUntilReady 4 (some .int) 3 100 0 0 [.ref p, .ref g] S (rI (fun r S' => r = (if hI S 2 g = hI S 2 q then 1 + (1000 - nrP S pq pg) / 250 else 1 + (1000 - nrP S pq pg) / 250 + 3) ∧ S' = S)) noX := by
  refine Ct.of (by decide) (Nat.le_of_ble_eq_true rfl) (fun X hC hT hin => ?_)
  refine J_aload_n 0 hC dX2_minutesUntilReady_0 rfl rfl ?_
  refine fg_X2_23 hC h0 pq0 dX2_minutesUntilReady_1 ?_
  refine J_ifnonnull 11 hC dX2_minutesUntilReady_4 (by decide) ?_
  refine J_aload_n 0 hC dX2_minutesUntilReady_11 rfl rfl ?_
  refine fg_X2_23 hC h0 pq0 dX2_minutesUntilReady_12 ?_
  refine fg_X2_27 hC hq dX2_minutesUntilReady_15 ?_
  refine J_istore_n (lv' := [(2, _), (0, _), (1, _)]) hC dX2_minutesUntilReady_18 rfl (by decide) rfl ?_
  refine J_aload_n 1 hC dX2_minutesUntilReady_19 rfl rfl ?_
  refine fg_X2_23 hC h0 pq0 dX2_minutesUntilReady_20 ?_
  refine J_ifnonnull 30 hC dX2_minutesUntilReady_23 (by decide) ?_
  refine J_iconst (v := 1) hC dX2_minutesUntilReady_30 (by decide) ?_
  refine J_sipush (v := 1000) hC dX2_minutesUntilReady_31 (by decide) ?_
  refine J_aload_n 1 hC dX2_minutesUntilReady_34 rfl rfl ?_
  refine fg_X2_23 hC h0 pq0 dX2_minutesUntilReady_35 ?_
  refine fg_X2_32 hC hq ppq dX2_minutesUntilReady_38 ?_
  refine J_aload_n 2 hC dX2_minutesUntilReady_41 rfl rfl ?_
  refine fg_X2_32 hC h1 pp1 dX2_minutesUntilReady_42 ?_
  refine cl_X2_36 hC (c_X5_nearnessOf S pq pg hpq hp1) (Nat.le_of_ble_eq_true rfl) ⟨⟨Nat.le_of_ble_eq_true rfl, Nat.le_of_ble_eq_true rfl⟩, Nat.le_of_ble_eq_true rfl, Nat.le_of_ble_eq_true rfl⟩ dX2_minutesUntilReady_45 (fun r45 S45 e45 => ?_)
  obtain ⟨rfl, e45⟩ := e45
  subst S45
  refine J_isub hC dX2_minutesUntilReady_48 ?_
  refine J_sipush (v := 250) hC dX2_minutesUntilReady_49 (by decide) ?_
  refine J_idiv hC dX2_minutesUntilReady_52 (by decide) ?_
  refine J_iadd hC dX2_minutesUntilReady_53 ?_
  refine J_istore_n (lv' := [(3, _), (2, _), (0, _), (1, _)]) hC dX2_minutesUntilReady_54 rfl (by decide) rfl ?_
  refine J_aload_n 3 hC dX2_minutesUntilReady_55 rfl rfl ?_
  refine fg_X2_27 hC h1 dX2_minutesUntilReady_56 ?_
  refine J_iload_n 1 hC dX2_minutesUntilReady_59 rfl rfl ?_
  refine J_icmp_ne 67 hC dX2_minutesUntilReady_60 (by decide) (fun c60 => ?_) (fun c60 => ?_)
  · refine J_iload_n 0 hC dX2_minutesUntilReady_67 rfl rfl ?_
    refine J_iconst (v := 3) hC dX2_minutesUntilReady_68 (by decide) ?_
    refine J_iadd hC dX2_minutesUntilReady_69 ?_
    exact J_iretI hC dX2_minutesUntilReady_70 (Nat.le_of_ble_eq_true rfl) (Nat.le_of_ble_eq_true rfl) ⟨(if_neg c60).symm, rfl⟩
  · refine J_iload_n 0 hC dX2_minutesUntilReady_63 rfl rfl ?_
    refine J_goto 70 hC dX2_minutesUntilReady_64 (by decide) ?_
    exact J_iretI hC dX2_minutesUntilReady_70 (Nat.le_of_ble_eq_true rfl) (Nat.le_of_ble_eq_true rfl) ⟨(if_pos c60).symm, rfl⟩

/-- minutesUntilReady -/
theorem c_mur {G : JG} (S : HS) (p g pg : Nat) (h0 : hK S p = 4) (h1 : hK S g = 6) (pp1 : hP S 1 g = some pg) (hp1 : hK S pg = 5) (hq : ∀ q, hP S 4 p = some q → hK S q = 6 ∧ ∃ pq, hP S 1 q = some pq ∧ hK S pq = 5) : Ct G yX2_minutesUntilReady cX2_minutesUntilReady 4 (some .int) 3 100 0 0 [.ref p, .ref g] S (rI (fun r S' => r = wtS S p g ∧ S' = S)) noX := by
  cases e : hP S 4 p with
  | none =>
    rw [show wtS S p g = (if hI S 2 g = 0 then 2 else 2 + 3) by unfold wtS; rw [e]]
    exact c_mur_n S p g pg h0 h1 pp1 hp1 e
  | some q =>
    obtain ⟨k1, pq, k2, k3⟩ := hq q e
    rw [show wtS S p g = (if hI S 2 g = hI S 2 q then 1 + (1000 - nrP S pq pg) / 250 else 1 + (1000 - nrP S pq pg) / 250 + 3) by unfold wtS; rw [e]; simp only [k2, pp1, Option.getD_some]]
    exact c_mur_s S p g pg h0 h1 pp1 hp1 q pq e k1 k2 k3

set_option maxHeartbeats 4000000 in
set_option maxRecDepth 100000 in
/-- Plan.take -/
theorem c_X2_take {G : JG} (S : HS) (p g pg ro rw : Nat) (t w : Int32) (h0 : hK S p = 4) (h1 : hK S g = 6) (pp1 : hP S 1 g = some pg) (hp1 : hK S pg = 5) (hq : ∀ q, hP S 4 p = some q → hK S q = 6 ∧ ∃ pq, hP S 1 q = some pq ∧ hK S pq = 5) (hs0 : 0 ≤ hI S 2 p) (hs1 : hI S 2 p < 20) (pro : hP S 0 p = some ro) (hro : hK S ro = 13) (nro : hN S ro = 20) (prw : hP S (hI S 2 p).toNatClampNeg ro = some rw) (hrw : hK S rw = 11) (nrw : hN S rw = 4) : Ct G yX2_take cX2_take 5 (some .int) 4 130 0 0 [.ref p, .ref g, .int t, .int w] S (rI (fun r S' => r = t + wtS S p g + hI S 4 g ∧ S' = sP (sI (sI (sI (sV (sV (sV (sV S 0 rw (hI S 0 g)) 1 rw (t + wtS S p g)) 2 rw (wtS S p g)) 3 rw w) 2 p (hI S 2 p + 1)) 3 p (hI S 3 p + hI S 4 g)) 11 g 1) 4 p (some g))) noX := by
  refine Ct.of (by decide) (Nat.le_of_ble_eq_true rfl) (fun X hC hT hin => ?_)
  refine J_aload_n 0 hC dX2_take_0 rfl rfl ?_
  refine J_aload_n 1 hC dX2_take_1 rfl rfl ?_
  refine cl_X2_40 hC (c_mur S p g pg h0 h1 pp1 hp1 hq) h0 (Nat.le_of_ble_eq_true rfl) ⟨⟨Nat.le_of_ble_eq_true rfl, Nat.le_of_ble_eq_true rfl⟩, Nat.le_of_ble_eq_true rfl, Nat.le_of_ble_eq_true rfl⟩ dX2_take_2 (fun r2 S2 e2 => ?_)
  obtain ⟨rfl, e2⟩ := e2
  subst S2
  refine J_istore (lv' := [(4, _), (0, _), (1, _), (2, _), (3, _)]) hC dX2_take_5 (by decide) rfl ?_
  refine J_aload_n 1 hC dX2_take_7 rfl rfl ?_
  refine fg_X2_16 hC h0 dX2_take_8 ?_
  refine J_if_lt 114 hC dX2_take_11 (by decide) (fun c11 => absurd c11 (Int32.not_lt.mpr hs0)) (fun c11 => ?_)
  refine J_aload_n 1 hC dX2_take_14 rfl rfl ?_
  refine fg_X2_16 hC h0 dX2_take_15 ?_
  refine J_aload_n 1 hC dX2_take_18 rfl rfl ?_
  refine fg_X2_11 hC h0 pro dX2_take_19 ?_
  refine J_alen hC (t0 := 3) hro rfl rfl (show Int32.ofNat (hN S ro) = 20 by rw [nro]; rfl) dX2_take_22 ?_
  refine J_icmp_ge 114 hC dX2_take_23 (by decide) (fun c23 => absurd c23 (Int32.not_le.mpr hs1)) (fun c23 => ?_)
  refine J_aload_n 1 hC dX2_take_26 rfl rfl ?_
  refine fg_X2_11 hC h0 pro dX2_take_27 ?_
  refine J_aload_n 1 hC dX2_take_30 rfl rfl ?_
  refine fg_X2_16 hC h0 dX2_take_31 ?_
  refine J_aald2 hC hro (inN nro (in20 hs0 hs1)) prw dX2_take_34 ?_
  refine J_iconst (v := 0) hC dX2_take_35 (by decide) ?_
  refine J_aload_n 2 hC dX2_take_36 rfl rfl ?_
  refine fg_X2_44 hC h1 dX2_take_37 ?_
  refine J_iast hC hrw rfl (inN nrw (vp_in_nI (n := 0) (by decide) (by decide))) dX2_take_40 ?_
  refine J_aload_n 1 hC dX2_take_41 rfl rfl ?_
  refine fg_X2_11 hC h0 pro dX2_take_42 ?_
  refine J_aload_n 1 hC dX2_take_45 rfl rfl ?_
  refine fg_X2_16 hC h0 dX2_take_46 ?_
  refine J_aald2 hC hro (inN nro (in20 hs0 hs1)) prw dX2_take_49 ?_
  refine J_iconst (v := 1) hC dX2_take_50 (by decide) ?_
  refine J_iload_n 3 hC dX2_take_51 rfl rfl ?_
  refine J_iload 0 hC dX2_take_52 rfl ?_
  refine J_iadd hC dX2_take_54 ?_
  refine J_iast hC hrw rfl (inN nrw (vp_in_nI (n := 1) (by decide) (by decide))) dX2_take_55 ?_
  refine J_aload_n 1 hC dX2_take_56 rfl rfl ?_
  refine fg_X2_11 hC h0 pro dX2_take_57 ?_
  refine J_aload_n 1 hC dX2_take_60 rfl rfl ?_
  refine fg_X2_16 hC h0 dX2_take_61 ?_
  refine J_aald2 hC hro (inN nro (in20 hs0 hs1)) prw dX2_take_64 ?_
  refine J_iconst (v := 2) hC dX2_take_65 (by decide) ?_
  refine J_iload 0 hC dX2_take_66 rfl ?_
  refine J_iast hC hrw rfl (inN nrw (vp_in_nI (n := 2) (by decide) (by decide))) dX2_take_68 ?_
  refine J_aload_n 1 hC dX2_take_69 rfl rfl ?_
  refine fg_X2_11 hC h0 pro dX2_take_70 ?_
  refine J_aload_n 1 hC dX2_take_73 rfl rfl ?_
  refine fg_X2_16 hC h0 dX2_take_74 ?_
  refine J_aald2 hC hro (inN nro (in20 hs0 hs1)) prw dX2_take_77 ?_
  refine J_iconst (v := 3) hC dX2_take_78 (by decide) ?_
  refine J_iload_n 4 hC dX2_take_79 rfl rfl ?_
  refine J_iast hC hrw rfl (inN nrw (vp_in_nI (n := 3) (by decide) (by decide))) dX2_take_80 ?_
  refine J_aload_n 1 hC dX2_take_81 rfl rfl ?_
  refine J_dup hC dX2_take_82 rfl ?_
  refine fg_X2_16 hC h0 dX2_take_83 ?_
  refine J_iconst (v := 1) hC dX2_take_86 (by decide) ?_
  refine J_iadd hC dX2_take_87 ?_
  refine fp_X2_16 hC h0 dX2_take_88 ?_
  refine J_aload_n 1 hC dX2_take_91 rfl rfl ?_
  refine J_dup hC dX2_take_92 rfl ?_
  refine fg_X2_20 hC h0 dX2_take_93 ?_
  refine J_aload_n 2 hC dX2_take_96 rfl rfl ?_
  refine fg_X2_47 hC h1 dX2_take_97 ?_
  refine J_iadd hC dX2_take_100 ?_
  refine fp_X2_20 hC h0 dX2_take_101 ?_
  refine J_aload_n 2 hC dX2_take_104 rfl rfl ?_
  refine J_iconst (v := 1) hC dX2_take_105 (by decide) ?_
  refine fp_X2_48 hC h1 ⟨rfl, rfl⟩ dX2_take_106 ?_
  refine J_aload_n 1 hC dX2_take_109 rfl rfl ?_
  refine J_aload_n 2 hC dX2_take_110 rfl rfl ?_
  refine fp_X2_23 hC h0 dX2_take_111 ?_
  refine J_iload_n 3 hC dX2_take_114 rfl rfl ?_
  refine J_iload 0 hC dX2_take_115 rfl ?_
  refine J_iadd hC dX2_take_117 ?_
  refine J_aload_n 2 hC dX2_take_118 rfl rfl ?_
  refine fg_X2_47 hC h1 dX2_take_119 ?_
  refine J_iadd hC dX2_take_122 ?_
  exact J_iretI hC dX2_take_123 (Nat.le_of_ble_eq_true rfl) (Nat.le_of_ble_eq_true rfl) ⟨rfl, rfl⟩
