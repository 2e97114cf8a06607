/-! the law's calls of the class, as they go where nothing is thrown: printed by wip/p27/vcalls.py -/
set_option maxHeartbeats 4000000 in
set_option maxRecDepth 100000 in
theorem v_setSite {X : JX} {G : JG} {Q : State → Prop} (hC : JCL X G) {x : Nat} {σ : Sg} {S : HS} (h : CE G x σ S) {v w : Int32} (c : (-90 ≤ v ∧ v ≤ 90) ∧ (0 ≤ w ∧ w ≤ 1439)) {cs ss pc : Nat} {lv : List (Nat × Value)} {st : List Value} (h8 : (st.map fun v => v.category).sum ≤ 8) (h1 : cs + 4 ≤ room_1.cells) (h2 : ss + 40 ≤ room_1.slots) (d : decode cL_law pc = .ok (.invokevirtual 30, 3)) (kk : ∀ (r : Int32) (T : HS), CE G x (setG (setG σ 0 v) 1 w) T → FrC S T → J X G Q 16 (cs + 4) (ss + 40) (pc + 3) lv (.int r :: st) T) : J X G Q 16 cs ss pc lv (.int w :: .int v :: .ref x :: st) S := by
  obtain ⟨A, hA⟩ := h
  refine cl_L_30 hC (c_X5_setSite S x A σ hA v w) hA.1.kx h8 ⟨⟨Nat.le_of_ble_eq_true rfl, Nat.le_of_ble_eq_true rfl⟩, h1, h2⟩ d (fun E T e => ?_) (fun r T e => ?_)
  · exact absurd c e.2.2
  · exact kk r T e.1.1 e.1.2
set_option maxHeartbeats 4000000 in
set_option maxRecDepth 100000 in
theorem v_setMoon {X : JX} {G : JG} {Q : State → Prop} (hC : JCL X G) {x : Nat} {σ : Sg} {S : HS} (h : CE G x σ S) {u v w : Int32} (c : ((0 ≤ u ∧ u ≤ 1439) ∧ (-90 ≤ v ∧ v ≤ 90)) ∧ (0 ≤ w ∧ w ≤ 29)) {cs ss pc : Nat} {lv : List (Nat × Value)} {st : List Value} (h8 : (st.map fun v => v.category).sum ≤ 8) (h1 : cs + 4 ≤ room_1.cells) (h2 : ss + 40 ≤ room_1.slots) (d : decode cL_law pc = .ok (.invokevirtual 33, 3)) (kk : ∀ (r : Int32) (T : HS), CE G x (setG (setG (setG σ 4 u) 5 v) 6 w) T → FrC S T → J X G Q 16 (cs + 4) (ss + 40) (pc + 3) lv (.int r :: st) T) : J X G Q 16 cs ss pc lv (.int w :: .int v :: .int u :: .ref x :: st) S := by
  obtain ⟨A, hA⟩ := h
  refine cl_L_33 hC (c_X5_setMoon S x A σ hA u v w) hA.1.kx h8 ⟨⟨Nat.le_of_ble_eq_true rfl, Nat.le_of_ble_eq_true rfl⟩, h1, h2⟩ d (fun E T e => ?_) (fun r T e => ?_)
  · exact absurd c e.2.2
  · exact kk r T e.1.1 e.1.2
set_option maxHeartbeats 4000000 in
set_option maxRecDepth 100000 in
theorem v_want {X : JX} {G : JG} {Q : State → Prop} (hC : JCL X G) {x : Nat} {σ : Sg} {S : HS} (h : CE G x σ S) {k : Nat} {u v w : Int32} (hk : k < vn σ) (c : (-1000 ≤ u ∧ u ≤ 1000) ∧ (1 ≤ v ∧ v ≤ 10) ∧ (1 ≤ w ∧ w ≤ 20)) {cs ss pc : Nat} {lv : List (Nat × Value)} {st : List Value} (h8 : (st.map fun v => v.category).sum ≤ 8) (h1 : cs + 4 ≤ room_1.cells) (h2 : ss + 40 ≤ room_1.slots) (d : decode cL_law pc = .ok (.invokevirtual 37, 3)) (kk : ∀ (r : Int32) (T : HS), CE G x (upT σ k (wnF σ k u v w)) T → FrC S T → J X G Q 16 (cs + 4) (ss + 40) (pc + 3) lv (.int r :: st) T) : J X G Q 16 cs ss pc lv (.int w :: .int v :: .int u :: .int (nI k) :: .ref x :: st) S := by
  obtain ⟨A, hA⟩ := h
  refine cl_L_37 hC (c_X5_want S x A σ hA (nI k) u v w) hA.1.kx h8 ⟨⟨Nat.le_of_ble_eq_true rfl, Nat.le_of_ble_eq_true rfl⟩, h1, h2⟩ d (fun E T e => ?_) (fun r T e => ?_)
  · rcases e with ⟨-, -, e⟩ | ⟨-, -, -, e⟩
    · exact absurd ⟨k, hk, rfl⟩ e
    · exact absurd c e
  · obtain ⟨-, j, hj, ej, e, -⟩ := e
    have n20 := hA.1.n20
    have : k = j := nI_inj (by omega) (by omega) ej
    subst this
    exact kk r T e.1 e.2
set_option maxHeartbeats 4000000 in
set_option maxRecDepth 100000 in
theorem v_setLength {X : JX} {G : JG} {Q : State → Prop} (hC : JCL X G) {x : Nat} {σ : Sg} {S : HS} (h : CE G x σ S) {v : Int32} (c : 60 ≤ v ∧ v ≤ 900) {cs ss pc : Nat} {lv : List (Nat × Value)} {st : List Value} (h8 : (st.map fun v => v.category).sum ≤ 8) (h1 : cs + 4 ≤ room_1.cells) (h2 : ss + 40 ≤ room_1.slots) (d : decode cL_law pc = .ok (.invokevirtual 41, 3)) (kk : ∀ (r : Int32) (T : HS), CE G x (setG σ 2 v) T → FrC S T → J X G Q 16 (cs + 4) (ss + 40) (pc + 3) lv (.int r :: st) T) : J X G Q 16 cs ss pc lv (.int v :: .ref x :: st) S := by
  obtain ⟨A, hA⟩ := h
  refine cl_L_41 hC (c_X5_setLength S x A σ hA v) hA.1.kx h8 ⟨⟨Nat.le_of_ble_eq_true rfl, Nat.le_of_ble_eq_true rfl⟩, h1, h2⟩ d (fun E T e => ?_) (fun r T e => ?_)
  · exact absurd c e.2.2
  · exact kk r T e.1.1 e.1.2
set_option maxHeartbeats 4000000 in
set_option maxRecDepth 100000 in
theorem v_addClouds {X : JX} {G : JG} {Q : State → Prop} (hC : JCL X G) {x : Nat} {σ : Sg} {S : HS} (h : CE G x σ S) {v w : Int32} (c : 0 ≤ v ∧ v ≤ w ∧ w < vg σ 2) (h0 : vc σ = 0) {cs ss pc : Nat} {lv : List (Nat × Value)} {st : List Value} (h8 : (st.map fun v => v.category).sum ≤ 8) (h1 : cs + 4 ≤ room_1.cells) (h2 : ss + 40 ≤ room_1.slots) (d : decode cL_law pc = .ok (.invokevirtual 45, 3)) (kk : ∀ (r : Int32) (T : HS), CE G x (addC σ v w) T → FrC S T → J X G Q 16 (cs + 4) (ss + 40) (pc + 3) lv (.int r :: st) T) : J X G Q 16 cs ss pc lv (.int w :: .int v :: .ref x :: st) S := by
  obtain ⟨A, hA⟩ := h
  refine cl_L_45 hC (c_X5_addClouds S x A σ hA v w) hA.1.kx h8 ⟨⟨Nat.le_of_ble_eq_true rfl, Nat.le_of_ble_eq_true rfl⟩, h1, h2⟩ d (fun E T e => ?_) (fun r T e => ?_)
  · rcases e with ⟨-, -, e⟩ | ⟨-, -, -, e⟩
    · exact absurd c e
    · omega
  · exact kk r T e.1.1 e.1.2
set_option maxHeartbeats 4000000 in
set_option maxRecDepth 100000 in
theorem v_visits {X : JX} {G : JG} {Q : State → Prop} (hC : JCL X G) {x : Nat} {σ : Sg} {S : HS} (h : CE G x σ S) {cs ss pc : Nat} {lv : List (Nat × Value)} {st : List Value} (h8 : (st.map fun v => v.category).sum ≤ 8) (h1 : cs + 4 ≤ room_1.cells) (h2 : ss + 40 ≤ room_1.slots) (d : decode cL_law pc = .ok (.invokevirtual 48, 3)) (kk : ∀ (T : HS), CE G x σ T → FrC S T → J X G Q 16 (cs + 4) (ss + 40) (pc + 3) lv (.int (nI (nV σ)) :: st) T) : J X G Q 16 cs ss pc lv (.ref x :: st) S := by
  obtain ⟨A, hA⟩ := h
  refine cl_L_48 hC (c_X5_visits S x A σ hA) hA.1.kx h8 ⟨⟨Nat.le_of_ble_eq_true rfl, Nat.le_of_ble_eq_true rfl⟩, h1, h2⟩ d (fun r T e => ?_)
  obtain ⟨e1, e2, rfl⟩ := e
  exact kk T ⟨A, e1⟩ e2
set_option maxHeartbeats 4000000 in
set_option maxRecDepth 100000 in
theorem v_visit {X : JX} {G : JG} {Q : State → Prop} (hC : JCL X G) {x : Nat} {σ : Sg} {S : HS} (h : CE G x σ S) {i j : Nat} (hi : i < nV σ) (hj : j < 4) {cs ss pc : Nat} {lv : List (Nat × Value)} {st : List Value} (h8 : (st.map fun v => v.category).sum ≤ 8) (h1 : cs + 4 ≤ room_1.cells) (h2 : ss + 40 ≤ room_1.slots) (d : decode cL_law pc = .ok (.invokevirtual 52, 3)) (kk : ∀ (T : HS), CE G x σ T → FrC S T → J X G Q 16 (cs + 4) (ss + 40) (pc + 3) lv (.int (pV σ i j) :: st) T) : J X G Q 16 cs ss pc lv (.int (nI j) :: .int (nI i) :: .ref x :: st) S := by
  obtain ⟨A, hA⟩ := h
  refine cl_L_52 hC (c_X5_visit S x A σ hA (nI i) (nI j)) hA.1.kx h8 ⟨⟨Nat.le_of_ble_eq_true rfl, Nat.le_of_ble_eq_true rfl⟩, h1, h2⟩ d (fun E T e => ?_) (fun r T e => ?_)
  · exact absurd ⟨⟨i, hi, rfl⟩, (isTg_iff (n := 4) (by decide)).mp ⟨j, hj, rfl⟩⟩ e.2.2.2
  · obtain ⟨e1, e2, k, l, hk, hl, ek, el, rfl⟩ := e
    have n20 := hA.1.n20
    have b1 := nV_le σ
    have b2 : k < nV σ := hk
    have q1 : i = k := nI_inj (by omega) (by omega) ek
    have q2 : j = l := nI_inj (by omega) (by omega) el
    subst q1 q2
    exact kk T ⟨A, e1⟩ e2
set_option maxHeartbeats 4000000 in
set_option maxRecDepth 100000 in
theorem v_isOpen {X : JX} {G : JG} {Q : State → Prop} (hC : JCL X G) {x : Nat} {σ : Sg} {S : HS} (h : CE G x σ S) {k : Nat} (hk : k < vn σ) {cs ss pc : Nat} {lv : List (Nat × Value)} {st : List Value} (h8 : (st.map fun v => v.category).sum ≤ 8) (h1 : cs + 4 ≤ room_1.cells) (h2 : ss + 40 ≤ room_1.slots) (d : decode cL_law pc = .ok (.invokevirtual 55, 3)) (kk : J X G Q 16 (cs + 4) (ss + 40) (pc + 3) lv (.int (opI σ k) :: st) S) : J X G Q 16 cs ss pc lv (.int (nI k) :: .ref x :: st) S := by
  obtain ⟨A, hA⟩ := h
  refine cl_L_55 hC (c_X5_isOpen S x A σ hA (nI k)) hA.1.kx h8 ⟨⟨Nat.le_of_ble_eq_true rfl, Nat.le_of_ble_eq_true rfl⟩, h1, h2⟩ d (fun E T e => ?_) (fun r T e => ?_)
  · exact absurd ⟨k, hk, rfl⟩ e.2.2
  · obtain ⟨rfl, j, hj, ek, rfl⟩ := e
    have n20 := hA.1.n20
    have q1 : k = j := nI_inj (by omega) (by omega) ek
    subst q1
    exact kk
set_option maxHeartbeats 4000000 in
set_option maxRecDepth 100000 in
theorem v_window {X : JX} {G : JG} {Q : State → Prop} (hC : JCL X G) {x : Nat} {σ : Sg} {S : HS} (h : CE G x σ S) {k : Nat} (hk : k < vn σ) {cs ss pc : Nat} {lv : List (Nat × Value)} {st : List Value} (h8 : (st.map fun v => v.category).sum ≤ 8) (h1 : cs + 4 ≤ room_1.cells) (h2 : ss + 40 ≤ room_1.slots) (d : decode cL_law pc = .ok (.invokevirtual 59, 3)) (kk : ∀ (T : HS), CE G x σ T → FrC S T → J X G Q 16 (cs + 4) (ss + 40) (pc + 3) lv (.int (wnV σ k 4) :: st) T) : J X G Q 16 cs ss pc lv (.int (nI 4) :: .int (nI k) :: .ref x :: st) S := by
  obtain ⟨A, hA⟩ := h
  refine cl_L_59 hC (c_X5_window S x A σ hA (nI k) (nI 4)) hA.1.kx h8 ⟨⟨Nat.le_of_ble_eq_true rfl, Nat.le_of_ble_eq_true rfl⟩, h1, h2⟩ d (fun E T e => ?_) (fun r T e => ?_)
  · exact absurd ⟨⟨k, hk, rfl⟩, (isTg_iff (n := 5) (by decide)).mp ⟨4, by decide, rfl⟩⟩ e.2.2
  · obtain ⟨e1, e2, j, l, hj, hl, ek, el, rfl⟩ := e
    have n20 := hA.1.n20
    have q1 : k = j := nI_inj (by omega) (by omega) ek
    have q2 : 4 = l := nI_inj (by omega) (by omega) el
    subst q1 q2
    exact kk T ⟨A, e1⟩ e2
set_option maxHeartbeats 4000000 in
set_option maxRecDepth 100000 in
theorem v_reason {X : JX} {G : JG} {Q : State → Prop} (hC : JCL X G) {x : Nat} {σ : Sg} {S : HS} (h : CE G x σ S) {k t : Nat} (hk : k < vn σ) (ht : t < lnV σ) {cs ss pc : Nat} {lv : List (Nat × Value)} {st : List Value} (h8 : (st.map fun v => v.category).sum ≤ 8) (h1 : cs + 4 ≤ room_1.cells) (h2 : ss + 40 ≤ room_1.slots) (d : decode cL_law pc = .ok (.invokevirtual 62, 3)) (kk : J X G Q 16 (cs + 4) (ss + 40) (pc + 3) lv (.int (rsnV σ k (nI t)) :: st) S) : J X G Q 16 cs ss pc lv (.int (nI t) :: .int (nI k) :: .ref x :: st) S := by
  obtain ⟨A, hA⟩ := h
  refine cl_L_62 hC (c_X5_reason S x A σ hA (nI k) (nI t)) hA.1.kx h8 ⟨⟨Nat.le_of_ble_eq_true rfl, Nat.le_of_ble_eq_true rfl⟩, h1, h2⟩ d (fun E T e => ?_) (fun r T e => ?_)
  · have hln := hA.2.2.1.ln
    rcases e with ⟨-, -, e⟩ | ⟨-, -, -, e⟩
    · exact absurd ⟨k, hk, rfl⟩ e
    · refine absurd ⟨nI_pos' (by omega), ?_⟩ e
      rw [hln.1, show (1 : Int32) = nI 1 from rfl, nI_sub (a := 1) (by omega) (by omega)]
      exact nI_le (by omega) (by omega)
  · obtain ⟨rfl, -, j, hj, ek, rfl⟩ := e
    have n20 := hA.1.n20
    have q1 : k = j := nI_inj (by omega) (by omega) ek
    subst q1
    exact kk
set_option maxHeartbeats 4000000 in
set_option maxRecDepth 100000 in
theorem v_count {X : JX} {G : JG} {Q : State → Prop} (hC : JCL X G) {x : Nat} {σ : Sg} {S : HS} (h : CE G x σ S) {j : Nat} (hj : j < 4) {cs ss pc : Nat} {lv : List (Nat × Value)} {st : List Value} (h8 : (st.map fun v => v.category).sum ≤ 8) (h1 : cs + 4 ≤ room_1.cells) (h2 : ss + 40 ≤ room_1.slots) (d : decode cL_law pc = .ok (.invokevirtual 65, 3)) (kk : J X G Q 16 (cs + 4) (ss + 40) (pc + 3) lv (.int (cnV σ j (vn σ)) :: st) S) : J X G Q 16 cs ss pc lv (.int (nI j) :: .ref x :: st) S := by
  obtain ⟨A, hA⟩ := h
  refine cl_L_65 hC (c_X5_count S x A σ hA (nI j)) hA.1.kx h8 ⟨⟨Nat.le_of_ble_eq_true rfl, Nat.le_of_ble_eq_true rfl⟩, h1, h2⟩ d (fun E T e => ?_) (fun r T e => ?_)
  · exact absurd ((isTg_iff (n := 4) (by decide)).mp ⟨j, hj, rfl⟩) e.2.2
  · obtain ⟨rfl, l, hl, el, rfl⟩ := e
    have q1 : j = l := nI_inj (by omega) (by omega) el
    subst q1
    exact kk
set_option maxHeartbeats 4000000 in
set_option maxRecDepth 100000 in
theorem v_use {X : JX} {G : JG} {Q : State → Prop} (hC : JCL X G) {x : Nat} {σ : Sg} {S : HS} (h : CE G x σ S) {cs ss pc : Nat} {lv : List (Nat × Value)} {st : List Value} (h8 : (st.map fun v => v.category).sum ≤ 8) (h1 : cs + 4 ≤ room_1.cells) (h2 : ss + 40 ≤ room_1.slots) (d : decode cL_law pc = .ok (.invokevirtual 68, 3)) (kk : ∀ (T : HS), CE G x σ T → FrC S T → J X G Q 16 (cs + 4) (ss + 40) (pc + 3) lv (.double (FP.ddiv (FP.i2d (pM (plV σ))) (FP.i2d (vg σ 2))) :: st) T) : J X G Q 16 cs ss pc lv (.ref x :: st) S := by
  obtain ⟨A, hA⟩ := h
  refine cl_L_68 hC (c_X5_use S x A σ hA) hA.1.kx h8 ⟨⟨Nat.le_of_ble_eq_true rfl, Nat.le_of_ble_eq_true rfl⟩, h1, h2⟩ d (fun r T e => ?_)
  obtain ⟨e1, e2, rfl⟩ := e
  exact kk T ⟨A, e1⟩ e2
set_option maxHeartbeats 4000000 in
set_option maxRecDepth 100000 in
theorem v_observe {X : JX} {G : JG} {Q : State → Prop} (hC : JCL X G) {x : Nat} {σ : Sg} {S : HS} (h : CE G x σ S) (c : vg σ 3 < 60) {cs ss pc : Nat} {lv : List (Nat × Value)} {st : List Value} (h8 : (st.map fun v => v.category).sum ≤ 8) (h1 : cs + 4 ≤ room_1.cells) (h2 : ss + 40 ≤ room_1.slots) (d : decode cL_law pc = .ok (.invokevirtual 72, 3)) (kk : ∀ (T : HS), CE G x (obN σ) T → FrC S T → J X G Q 16 (cs + 4) (ss + 40) (pc + 3) lv (.int (nI (nV σ)) :: st) T) : J X G Q 16 cs ss pc lv (.ref x :: st) S := by
  obtain ⟨A, hA⟩ := h
  refine cl_L_72 hC (c_X5_observe S x A σ hA) hA.1.kx h8 ⟨⟨Nat.le_of_ble_eq_true rfl, Nat.le_of_ble_eq_true rfl⟩, h1, h2⟩ d (fun E T e => ?_) (fun r T e => ?_)
  · exact absurd c e.2.2
  · obtain ⟨-, e1, rfl⟩ := e
    exact kk T e1.1 e1.2
set_option maxHeartbeats 4000000 in
set_option maxRecDepth 100000 in
theorem v_target {X : JX} {G : JG} {Q : State → Prop} (hC : JCL X G) {x : Nat} {σ : Sg} {S : HS} (h : CE G x σ S) {k j : Nat} (hk : k < vn σ) (hj : j < 10) {cs ss pc : Nat} {lv : List (Nat × Value)} {st : List Value} (h8 : (st.map fun v => v.category).sum ≤ 8) (h1 : cs + 4 ≤ room_1.cells) (h2 : ss + 40 ≤ room_1.slots) (d : decode cL_law pc = .ok (.invokevirtual 75, 3)) (kk : J X G Q 16 (cs + 4) (ss + 40) (pc + 3) lv (.int (vt σ k j) :: st) S) : J X G Q 16 cs ss pc lv (.int (nI j) :: .int (nI k) :: .ref x :: st) S := by
  obtain ⟨A, hA⟩ := h
  refine cl_L_75 hC (c_X5_target S x A σ hA (nI k) (nI j)) hA.1.kx h8 ⟨⟨Nat.le_of_ble_eq_true rfl, Nat.le_of_ble_eq_true rfl⟩, h1, h2⟩ d (fun E T e => ?_) (fun r T e => ?_)
  · exact absurd ⟨⟨k, hk, rfl⟩, (isTg_iff (n := 10) (by decide)).mp ⟨j, hj, rfl⟩⟩ e.2.2
  · obtain ⟨rfl, i, l, hi, hl, ek, el, rfl⟩ := e
    have n20 := hA.1.n20
    have q1 : k = i := nI_inj (by omega) (by omega) ek
    have q2 : j = l := nI_inj (by omega) (by omega) el
    subst q1 q2
    exact kk
set_option maxHeartbeats 4000000 in
set_option maxRecDepth 100000 in
theorem v_night {X : JX} {G : JG} {Q : State → Prop} (hC : JCL X G) {x : Nat} {σ : Sg} {S : HS} (h : CE G x σ S) {cs ss pc : Nat} {lv : List (Nat × Value)} {st : List Value} (h8 : (st.map fun v => v.category).sum ≤ 8) (h1 : cs + 4 ≤ room_1.cells) (h2 : ss + 40 ≤ room_1.slots) (d : decode cL_law pc = .ok (.invokevirtual 78, 3)) (kk : J X G Q 16 (cs + 4) (ss + 40) (pc + 3) lv (.int (vg σ 3) :: st) S) : J X G Q 16 cs ss pc lv (.ref x :: st) S := by
  obtain ⟨A, hA⟩ := h
  refine cl_L_78 hC (c_X5_night S x A σ hA) hA.1.kx h8 ⟨⟨Nat.le_of_ble_eq_true rfl, Nat.le_of_ble_eq_true rfl⟩, h1, h2⟩ d (fun r T e => ?_)
  obtain ⟨rfl, rfl⟩ := e
  exact kk
