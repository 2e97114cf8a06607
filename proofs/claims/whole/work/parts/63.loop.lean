/-! the law's loop -/
theorem sc_neg : ∀ L, L < 6 → ∀ i, i < 6 → nI L - 6 < nI i := by decide +kernel
theorem sc_hi {i L : Nat} (h : i ≤ L) (hL : L ≤ 3072) (c : ¬ nI L - 6 < nI i) : i + 6 ≤ L := by
  by_cases h6 : L < 6
  · exact absurd (sc_neg L h6 i (by omega)) c
  · rw [show nI L - 6 = nI (L - 6) from nI_sub (a := 6) (by omega) (by omega)] at c
    have := Nat.not_lt.mp (fun q => c (nI_lt q (by omega)))
    omega
/-! printed: by wip/whole/law4.py -/
set_option maxHeartbeats 4000000 in
set_option maxRecDepth 100000 in
theorem law_disp {X : JX} {G : JG} {Q : State → Prop} (hC : JCL X G) {b L : Nat} {zs : Nat → Int32} (hX : Scr X G b L zs) {x y o i : Nat} {σ : Sg} {S : HS} (hi : i + 6 ≤ L) (hL : L ≤ 3072) (hI : LIv G x y o σ S) {cs ss : Nat} (h1 : cs + 370 ≤ room_1.cells) (h2 : ss + 3800 ≤ room_1.slots) (v : Int32) (kk : ∀ (σ' : Sg) (T : HS), LIv G x y o σ' T → J X G Q 9 (cs + 370) (ss + 3800) 1509 [(4, .int (nI i)), (3, .ref o), (2, .ref y), (1, .ref x), (0, .ref b)] [] T) : J X G Q 9 cs ss 40 [(4, .int (nI i)), (3, .ref o), (2, .ref y), (1, .ref x), (0, .ref b)] [.int v] S := by
  by_cases hv : v.toInt < 0 ∨ 23 < v.toInt
  · refine J_tableOut 1509 hC dL_law_40 hv (by decide) ?_
    exact J_wd (by omega) (by omega) (kk σ S hI)
  · have hz : v.toInt = 0 ∨ v.toInt = 1 ∨ v.toInt = 2 ∨ v.toInt = 3 ∨ v.toInt = 4 ∨ v.toInt = 5 ∨ v.toInt = 6 ∨ v.toInt = 7 ∨ v.toInt = 8 ∨ v.toInt = 9 ∨ v.toInt = 10 ∨ v.toInt = 11 ∨ v.toInt = 12 ∨ v.toInt = 13 ∨ v.toInt = 14 ∨ v.toInt = 15 ∨ v.toInt = 16 ∨ v.toInt = 17 ∨ v.toInt = 18 ∨ v.toInt = 19 ∨ v.toInt = 20 ∨ v.toInt = 21 ∨ v.toInt = 22 ∨ v.toInt = 23 := by omega
    rcases hz with hz | hz | hz | hz | hz | hz | hz | hz | hz | hz | hz | hz | hz | hz | hz | hz | hz | hz | hz | hz | hz | hz | hz | hz
    · exact J_tableIn (off := 112) 152 hC dL_law_40 (by omega) (by omega) (by rw [hz]; rfl) (by decide) (lc_setSite hC hX hi hL hI h1 h2 kk)
    · exact J_tableIn (off := 180) 220 hC dL_law_40 (by omega) (by omega) (by rw [hz]; rfl) (by decide) (lc_setLength hC hX hi hL hI h1 h2 kk)
    · exact J_tableIn (off := 236) 276 hC dL_law_40 (by omega) (by omega) (by rw [hz]; rfl) (by decide) (lc_setMoon hC hX hi hL hI h1 h2 kk)
    · exact J_tableIn (off := 316) 356 hC dL_law_40 (by omega) (by omega) (by rw [hz]; rfl) (by decide) (lc_addClouds hC hX hi hL hI h1 h2 kk)
    · exact J_tableIn (off := 384) 424 hC dL_law_40 (by omega) (by omega) (by rw [hz]; rfl) (by decide) (lc_sine hC hX hi hL hI h1 h2 kk)
    · exact J_tableIn (off := 440) 480 hC dL_law_40 (by omega) (by omega) (by rw [hz]; rfl) (by decide) (lc_addTarget hC hX hi hL hI h1 h2 kk)
    · exact J_tableIn (off := 544) 584 hC dL_law_40 (by omega) (by omega) (by rw [hz]; rfl) (by decide) (lc_want hC hX hi hL hI h1 h2 kk)
    · exact J_tableIn (off := 636) 676 hC dL_law_40 (by omega) (by omega) (by rw [hz]; rfl) (by decide) (lc_target hC hX hi hL hI h1 h2 kk)
    · exact J_tableIn (off := 704) 744 hC dL_law_40 (by omega) (by omega) (by rw [hz]; rfl) (by decide) (lc_height hC hX hi hL hI h1 h2 kk)
    · exact J_tableIn (off := 772) 812 hC dL_law_40 (by omega) (by omega) (by rw [hz]; rfl) (by decide) (lc_nearness hC hX hi hL hI h1 h2 kk)
    · exact J_tableIn (off := 840) 880 hC dL_law_40 (by omega) (by omega) (by rw [hz]; rfl) (by decide) (lc_moonNearness hC hX hi hL hI h1 h2 kk)
    · exact J_tableIn (off := 896) 936 hC dL_law_40 (by omega) (by omega) (by rw [hz]; rfl) (by decide) (lc_moonHeight hC hX hi hL hI h1 h2 kk)
    · exact J_tableIn (off := 952) 992 hC dL_law_40 (by omega) (by omega) (by rw [hz]; rfl) (by decide) (lc_reason hC hX hi hL hI h1 h2 kk)
    · exact J_tableIn (off := 1020) 1060 hC dL_law_40 (by omega) (by omega) (by rw [hz]; rfl) (by decide) (lc_window hC hX hi hL hI h1 h2 kk)
    · exact J_tableIn (off := 1088) 1128 hC dL_law_40 (by omega) (by omega) (by rw [hz]; rfl) (by decide) (lc_isOpen hC hX hi hL hI h1 h2 kk)
    · exact J_tableIn (off := 1151) 1191 hC dL_law_40 (by omega) (by omega) (by rw [hz]; rfl) (by decide) (lc_count hC hX hi hL hI h1 h2 kk)
    · exact J_tableIn (off := 1207) 1247 hC dL_law_40 (by omega) (by omega) (by rw [hz]; rfl) (by decide) (lc_visits hC hX hi hL hI h1 h2 kk)
    · exact J_tableIn (off := 1220) 1260 hC dL_law_40 (by omega) (by omega) (by rw [hz]; rfl) (by decide) (lc_visit hC hX hi hL hI h1 h2 kk)
    · exact J_tableIn (off := 1288) 1328 hC dL_law_40 (by omega) (by omega) (by rw [hz]; rfl) (by decide) (lc_use hC hX hi hL hI h1 h2 kk)
    · exact J_tableIn (off := 1329) 1369 hC dL_law_40 (by omega) (by omega) (by rw [hz]; rfl) (by decide) (lc_observe hC hX hi hL hI h1 h2 kk)
    · exact J_tableIn (off := 1373) 1413 hC dL_law_40 (by omega) (by omega) (by rw [hz]; rfl) (by decide) (lc_pass hC hX hi hL hI h1 h2 kk)
    · exact J_tableIn (off := 1429) 1469 hC dL_law_40 (by omega) (by omega) (by rw [hz]; rfl) (by decide) (lc_night hC hX hi hL hI h1 h2 kk)
    · exact J_tableIn (off := 1442) 1482 hC dL_law_40 (by omega) (by omega) (by rw [hz]; rfl) (by decide) (lc_light hC hX hi hL hI h1 h2 kk)
    · exact J_tableIn (off := 1455) 1495 hC dL_law_40 (by omega) (by omega) (by rw [hz]; rfl) (by decide) (lc_digest hC hX hi hL hI h1 h2 kk)
set_option maxHeartbeats 4000000 in
set_option maxRecDepth 100000 in
theorem law_loop {X : JX} {G : JG} {Q : State → Prop} (hC : JCL X G) {b L : Nat} {zs : Nat → Int32} (hX : Scr X G b L zs) {x y o : Nat} (hL : L ≤ 3072) (fin : ∀ (i : Nat) (S : HS) (cs ss : Nat), cs ≤ room_1.cells → ss ≤ room_1.slots → J X G Q 9 cs ss 1515 [(4, .int (nI i)), (3, .ref o), (2, .ref y), (1, .ref x), (0, .ref b)] [] S) :
    ∀ (n i c : Nat) (σ : Sg) (S : HS), L - i < n → i = 6 * c → i ≤ L → LIv G x y o σ S → J X G Q 9 (49 + 370 * c) (37415 + 3800 * c) 23 [(4, .int (nI i)), (3, .ref o), (2, .ref y), (1, .ref x), (0, .ref b)] [] S := by
  have hz1 : 300000 ≤ room_1.cells := Nat.le_of_ble_eq_true rfl
  have hz2 : 3000000 ≤ room_1.slots := Nat.le_of_ble_eq_true rfl
  intro n
  induction n with
  | zero => intro i c σ S h; omega
  | succ n ih =>
    intro i c σ S hn hc hi hI
    refine J_iload 0 hC dL_law_23 rfl ?_
    refine J_aload_n 4 hC dL_law_25 rfl rfl ?_
    refine J_slen hC hX dL_law_26 ?_
    refine J_bipush (v := 6) hC dL_law_27 (by decide) ?_
    refine J_isub hC dL_law_29 ?_
    refine J_icmp_gt 1515 hC dL_law_30 (by decide) (fun c30 => ?_) (fun c30 => ?_)
    · exact fin i S _ _ (by omega) (by omega)
    · have hi6 := sc_hi hi hL c30
      refine J_aload_n 4 hC dL_law_33 rfl rfl ?_
      refine J_iload 0 hC dL_law_34 rfl ?_
      refine J_sld hC hX (sc_0 hi6 hL) dL_law_36 ?_
      refine J_bipush (v := 31) hC dL_law_37 (by decide) ?_
      refine J_iand hC dL_law_39 ?_
      refine law_disp hC hX hi6 hL hI (by omega) (by omega) _ (fun σ' T hT => ?_)
      refine J_iinc (lv' := [(4, _), (3, _), (2, _), (1, _), (0, _)]) 0 hC dL_law_1509 rfl (nI_add i 6) (by decide) rfl ?_
      refine J_goto 23 hC dL_law_1512 (by decide) ?_
      refine J_wd (cs' := 49 + 370 * (c + 1)) (ss' := 37415 + 3800 * (c + 1)) (by omega) (by omega) ?_
      exact ih (i + 6) (c + 1) σ' T (by omega) (by omega) (by omega) hT
theorem FrC.new {S T : HS} {q lab n : Nat} (h : FrC S T) (hq : hK T q = 0) : FrC S (sNew T q lab n) := h.trans ⟨fun a h14 => (newAt.of hq).old (fun z => by omega), fun _ h0 => ((newAt.of hq).old h0).1⟩
/-- nothing is there yet -/
def H00 : HS := (fun _ => 0, fun _ _ => 0, fun _ _ => none, fun _ => 0, fun _ _ => 0, fun _ _ => 0)
set_option maxHeartbeats 4000000 in
set_option maxRecDepth 100000 in
theorem law_walk {X : JX} {G : JG} {Q : State → Prop} (hC : JCL X G) {b L : Nat} {zs : Nat → Int32} (hX : Scr X G b L zs) (hL : L ≤ 3072) (fin : ∀ (x y o i : Nat) (S : HS) (cs ss : Nat), cs ≤ room_1.cells → ss ≤ room_1.slots → J X G Q 9 cs ss 1515 [(4, .int (nI i)), (3, .ref o), (2, .ref y), (1, .ref x), (0, .ref b)] [] S) : J X G Q 9 0 0 0 [(0, .ref b)] [] H00 := by
  refine nw_L_8 hC (Nat.le_of_ble_eq_true rfl) (Nat.le_of_ble_eq_true rfl) dL_law_0 (fun x fx => ?_)
  refine J_dup hC dL_law_3 rfl ?_
  refine cl_L_79 hC (c_X5_init _ x (if_pos rfl) (fun k => if_pos rfl)) (Nat.le_of_ble_eq_true rfl) ⟨⟨Nat.le_of_ble_eq_true rfl, Nat.le_of_ble_eq_true rfl⟩, Nat.le_of_ble_eq_true rfl, Nat.le_of_ble_eq_true rfl⟩ dL_law_4 (fun S1 e1 => ?_)
  obtain ⟨⟨A, hA⟩, -⟩ := e1
  refine J_astore_n (lv' := [(1, _), (0, _)]) hC dL_law_7 rfl (by decide) rfl ?_
  refine nw_L_80 hC (Nat.le_of_ble_eq_true rfl) (Nat.le_of_ble_eq_true rfl) dL_law_8 (fun y fy => ?_)
  have hA2 := hA.frm (FrM.rfl.new (lab := 17) (n := 0) fy)
  refine J_dup hC dL_law_11 rfl ?_
  refine cl_L_82 hC (c_X6_init _ y (if_pos rfl) (fun k => if_pos rfl)) (Nat.le_of_ble_eq_true rfl) ⟨⟨Nat.le_of_ble_eq_true rfl, Nat.le_of_ble_eq_true rfl⟩, Nat.le_of_ble_eq_true rfl, Nat.le_of_ble_eq_true rfl⟩ dL_law_12 (fun S2 e2 => ?_)
  obtain ⟨⟨B, hB⟩, fr⟩ := e2
  have hA3 := hA2.frm fr
  clear hA hA2 fr
  refine J_astore_n (lv' := [(2, _), (1, _), (0, _)]) hC dL_law_15 rfl (by decide) rfl ?_
  refine J_iconst (v := 1) hC dL_law_16 (by decide) ?_
  refine J_newL (N := 1) hC (mG 1037 (by decide +kernel) rfl) (by decide) (by decide) (by decide) (Nat.le_of_ble_eq_true rfl) (Nat.le_of_ble_eq_true rfl) dL_law_17 (fun o fo => ?_)
  refine J_astore_n (lv' := [(3, _), (2, _), (1, _), (0, _)]) hC dL_law_19 rfl (by decide) rfl ?_
  refine J_iconst (v := 0) hC dL_law_20 (by decide) ?_
  refine J_istore (lv' := [(4, _), (3, _), (2, _), (1, _), (0, _)]) hC dL_law_21 (by decide) rfl ?_
  exact law_loop hC hX hL (fun i S cs ss => fin x y o i S cs ss) (L + 1) 0 0 σ0 _ (by omega) (by omega) (by omega) ⟨⟨A, hA3.frm (FrM.rfl.new fo)⟩, ⟨B, hB.frc (FrC.rfl.new fo)⟩, if_pos rfl, if_pos rfl⟩
