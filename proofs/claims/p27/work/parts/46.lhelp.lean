/-! the law's helpers: printed by wip/p27/law1.py -/
set_option maxHeartbeats 4000000 in
set_option maxRecDepth 100000 in
/-- a number below m -/
theorem c_L_below {G : JG} (S : HS) (v : Int32) (m : Nat) (h0 : 0 < m) (h1 : m < 2147483648) : Ct G yL_below cL_below 2 (some .int) 0 0 0 0 [.int v, .int (nI m)] S (rI (fun r S' => (∃ j, j < m ∧ r = nI j) ∧ S' = S)) noX := by
  refine Ct.of (by decide) (Nat.le_of_ble_eq_true rfl) (fun X hC hT hin => ?_)
  refine J_iload_n 0 hC dL_below_0 rfl rfl ?_
  refine J_ldc (v := 2147483647) hC dL_below_1 (mG 494 (by decide +kernel) rfl) ?_
  refine J_iand hC dL_below_3 ?_
  refine J_iload_n 1 hC dL_below_4 rfl rfl ?_
  refine J_irem hC dL_below_5 (nI_ne0 h0 h1) ?_
  exact J_iretI hC dL_below_6 (Nat.le_of_ble_eq_true rfl) (Nat.le_of_ble_eq_true rfl) ⟨im_nn (and_nn v) h0 h1, rfl⟩

set_option maxHeartbeats 4000000 in
set_option maxRecDepth 100000 in
/-- a cell of the script -/
theorem c_L_cell {G : JG} (S : HS) (n : Nat) (hL : gLen G ≤ 260) (hn : n < 100000) : Ct G yL_cell cL_cell 2 (some .int) 0 0 0 0 [.ref (gScr G), .int (nI n)] S (rI (fun _ S' => S' = S)) noX := by
  refine Ct.of (by decide) (Nat.le_of_ble_eq_true rfl) (fun X hC hT hin => ?_)
  refine J_iload_n 1 hC dL_cell_0 rfl rfl ?_
  refine J_aload_n 0 hC dL_cell_1 rfl rfl ?_
  refine J_slen hC dL_cell_2 ?_
  refine J_icmp_ge 12 hC dL_cell_3 (by decide) (fun c3 => ?_) (fun c3 => ?_)
  · refine J_ldc (v := 790386105) hC dL_cell_12 (mG 498 (by decide +kernel) rfl) ?_
    refine J_iload_n 1 hC dL_cell_14 rfl rfl ?_
    refine J_iconst (v := 3) hC dL_cell_15 (by decide) ?_
    refine J_iadd hC dL_cell_16 ?_
    refine J_imul hC dL_cell_17 ?_
    exact J_iretI hC dL_cell_18 (Nat.le_of_ble_eq_true rfl) (Nat.le_of_ble_eq_true rfl) rfl
  · refine J_aload_n 0 hC dL_cell_6 rfl rfl ?_
    refine J_iload_n 1 hC dL_cell_7 rfl rfl ?_
    refine J_sld hC (vp_in_nI (Nat.not_le.mp (fun z => c3 (nI_le z (by omega)))) (by omega)) dL_cell_8 ?_
    refine J_goto 18 hC dL_cell_9 (by decide) ?_
    exact J_iretI hC dL_cell_18 (Nat.le_of_ble_eq_true rfl) (Nat.le_of_ble_eq_true rfl) rfl

theorem v_cell {X : JX} {G : JG} {Q : State → Prop} {nL cs ss pc : Nat} {lv : List (Nat × Value)} {st : List Value} {S : HS} {cc : ByteArray} {ret : Option FieldType} {fr lo mc ms : Nat} (hC : JC X G RL cc nL ret fr lo mc ms) (hL : gLen G ≤ 260) {n : Nat} (hn : n < 100000) (h8 : (st.map fun v => v.category).sum ≤ 8) (hf : 1 ≤ fr) (hl : 21 ≤ lo) (h1 : cs ≤ mc) (h2 : ss ≤ ms) (d : decode cc pc = .ok (.invokestatic 9, 3)) (kk : ∀ z : Int32, J X G Q nL cs ss (pc + 3) lv (.int z :: st) S) : J X G Q nL cs ss pc lv (.int (nI n) :: .ref (gScr G) :: st) S := by
  refine cl_L_9 hC (c_L_cell S n hL hn) h8 ⟨⟨hf, hl⟩, h1, h2⟩ d (fun r T e => ?_)
  subst e
  exact kk r
theorem v_below {X : JX} {G : JG} {Q : State → Prop} {nL cs ss pc : Nat} {lv : List (Nat × Value)} {st : List Value} {S : HS} {cc : ByteArray} {ret : Option FieldType} {fr lo mc ms : Nat} (hC : JC X G RL cc nL ret fr lo mc ms) {v : Int32} {m : Nat} (h0 : 0 < m) (hm : m < 2147483648) (h8 : (st.map fun v => v.category).sum ≤ 8) (hf : 1 ≤ fr) (hl : 21 ≤ lo) (h1 : cs ≤ mc) (h2 : ss ≤ ms) (d : decode cc pc = .ok (.invokestatic 15, 3)) (kk : ∀ j : Nat, j < m → J X G Q nL cs ss (pc + 3) lv (.int (nI j) :: st) S) : J X G Q nL cs ss pc lv (.int (nI m) :: .int v :: st) S := by
  refine cl_L_15 hC (c_L_below S v m h0 hm) h8 ⟨⟨hf, hl⟩, h1, h2⟩ d (fun r T e => ?_)
  obtain ⟨⟨j, hj, rfl⟩, rfl⟩ := e
  exact kk j hj
/-- a number of which nothing more is wanted -/
theorem J_any {X : JX} {G : JG} {Q : State → Prop} {nL cs ss pc : Nat} {lv : List (Nat × Value)} {st : List Value} {S : HS} {v : Int32} (k : ∀ w : Int32, J X G Q nL cs ss pc lv (.int w :: st) S) : J X G Q nL cs ss pc lv (.int v :: st) S := k v

