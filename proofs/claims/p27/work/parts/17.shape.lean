/-! the class's cells: what hangs where -/
/-- A 0 0 zenith 0 1 moon 0 2 clouds 0 3 from 0 4 to 0 5 list 0 6 its array 0 7 plan 0 8 its rows; A 1 k target A 2 k place A 3 k outlook A 4 k runs; A 5 i row i -/
def Shp (G : JG) (x : Nat) (A : Nat → Nat → Nat) (n : Nat) (S : HS) : Prop :=
  (hK S x = 7 ∧ hP S 0 x = some (A 0 0) ∧ hK S (A 0 0) = 5 ∧ hP S 1 x = some (A 0 1) ∧ hK S (A 0 1) = 5) ∧
  (hP S 5 x = some (A 0 2) ∧ hK S (A 0 2) = 2 ∧ hP S 0 (A 0 2) = some (A 0 3) ∧ hK S (A 0 3) = 8 ∧ hN S (A 0 3) = 8 ∧ hP S 1 (A 0 2) = some (A 0 4) ∧ hK S (A 0 4) = 9 ∧ hN S (A 0 4) = 8) ∧
  (hP S 6 x = some (A 0 5) ∧ hK S (A 0 5) = 1 ∧ hP S 1 (A 0 5) = some (A 0 6) ∧ n ≤ 20 ∧ ((n = 0 ∧ A 0 6 = gE G) ∨ (hK S (A 0 6) = 12 ∧ n ≤ hN S (A 0 6) ∧ (hN S (A 0 6) = 10 ∨ hN S (A 0 6) = 15 ∨ hN S (A 0 6) = 22)))) ∧
  (hP S 7 x = some (A 0 7) ∧ hK S (A 0 7) = 4 ∧ hP S 0 (A 0 7) = some (A 0 8) ∧ hK S (A 0 8) = 13 ∧ hN S (A 0 8) = 20) ∧
  (∀ i, i < 20 → hP S i (A 0 8) = some (A 5 i) ∧ hK S (A 5 i) = 11 ∧ hN S (A 5 i) = 4) ∧ (∀ i j, i < 20 → j < 20 → A 5 i = A 5 j → i = j) ∧
  (∀ k, k < n → hP S k (A 0 6) = some (A 1 k) ∧ hK S (A 1 k) = 6 ∧ hP S 1 (A 1 k) = some (A 2 k) ∧ hK S (A 2 k) = 5 ∧ hP S 5 (A 1 k) = some (A 3 k) ∧ hK S (A 3 k) = 3 ∧ hP S 0 (A 3 k) = some (A 4 k) ∧ hK S (A 4 k) = 10 ∧ hN S (A 4 k) = 900) ∧
  (∀ i j, i < n → j < n → (A 1 i = A 1 j ∨ A 3 i = A 3 j ∨ A 4 i = A 4 j) → i = j) ∧
  (∀ q, hP S 4 (A 0 7) = some q → ∃ k, k < n ∧ q = A 1 k)
section
variable {G : JG} {x n k i : Nat} {A : Nat → Nat → Nat} {S : HS}
theorem Shp.kx (h : Shp G x A n S) : hK S x = 7 := h.1.1
theorem Shp.pz (h : Shp G x A n S) : hP S 0 x = some (A 0 0) := h.1.2.1
theorem Shp.kz (h : Shp G x A n S) : hK S (A 0 0) = 5 := h.1.2.2.1
theorem Shp.pm (h : Shp G x A n S) : hP S 1 x = some (A 0 1) := h.1.2.2.2.1
theorem Shp.km (h : Shp G x A n S) : hK S (A 0 1) = 5 := h.1.2.2.2.2
theorem Shp.pc (h : Shp G x A n S) : hP S 5 x = some (A 0 2) := h.2.1.1
theorem Shp.kc (h : Shp G x A n S) : hK S (A 0 2) = 2 := h.2.1.2.1
theorem Shp.pf (h : Shp G x A n S) : hP S 0 (A 0 2) = some (A 0 3) := h.2.1.2.2.1
theorem Shp.kf (h : Shp G x A n S) : hK S (A 0 3) = 8 := h.2.1.2.2.2.1
theorem Shp.nf (h : Shp G x A n S) : hN S (A 0 3) = 8 := h.2.1.2.2.2.2.1
theorem Shp.pt (h : Shp G x A n S) : hP S 1 (A 0 2) = some (A 0 4) := h.2.1.2.2.2.2.2.1
theorem Shp.kt (h : Shp G x A n S) : hK S (A 0 4) = 9 := h.2.1.2.2.2.2.2.2.1
theorem Shp.nt (h : Shp G x A n S) : hN S (A 0 4) = 8 := h.2.1.2.2.2.2.2.2.2
theorem Shp.pl (h : Shp G x A n S) : hP S 6 x = some (A 0 5) := h.2.2.1.1
theorem Shp.kl (h : Shp G x A n S) : hK S (A 0 5) = 1 := h.2.2.1.2.1
theorem Shp.pe (h : Shp G x A n S) : hP S 1 (A 0 5) = some (A 0 6) := h.2.2.1.2.2.1
theorem Shp.n20 (h : Shp G x A n S) : n ≤ 20 := h.2.2.1.2.2.2.1
theorem Shp.ed (h : Shp G x A n S) : ((n = 0 ∧ A 0 6 = gE G) ∨ (hK S (A 0 6) = 12 ∧ n ≤ hN S (A 0 6) ∧ (hN S (A 0 6) = 10 ∨ hN S (A 0 6) = 15 ∨ hN S (A 0 6) = 22))) := h.2.2.1.2.2.2.2
theorem Shp.pp (h : Shp G x A n S) : hP S 7 x = some (A 0 7) := h.2.2.2.1.1
theorem Shp.kp (h : Shp G x A n S) : hK S (A 0 7) = 4 := h.2.2.2.1.2.1
theorem Shp.pr (h : Shp G x A n S) : hP S 0 (A 0 7) = some (A 0 8) := h.2.2.2.1.2.2.1
theorem Shp.kr (h : Shp G x A n S) : hK S (A 0 8) = 13 := h.2.2.2.1.2.2.2.1
theorem Shp.nr (h : Shp G x A n S) : hN S (A 0 8) = 20 := h.2.2.2.1.2.2.2.2
theorem Shp.row (h : Shp G x A n S) (hi : i < 20) : hP S i (A 0 8) = some (A 5 i) := (h.2.2.2.2.1 i hi).1
theorem Shp.krow (h : Shp G x A n S) (hi : i < 20) : hK S (A 5 i) = 11 := (h.2.2.2.2.1 i hi).2.1
theorem Shp.nrow (h : Shp G x A n S) (hi : i < 20) : hN S (A 5 i) = 4 := (h.2.2.2.2.1 i hi).2.2
theorem Shp.irow (h : Shp G x A n S) {j : Nat} (hi : i < 20) (hj : j < 20) (e : A 5 i = A 5 j) : i = j := h.2.2.2.2.2.1 i j hi hj e
theorem Shp.pg (h : Shp G x A n S) (hk : k < n) : hP S k (A 0 6) = some (A 1 k) := (h.2.2.2.2.2.2.1 k hk).1
theorem Shp.kg (h : Shp G x A n S) (hk : k < n) : hK S (A 1 k) = 6 := (h.2.2.2.2.2.2.1 k hk).2.1
theorem Shp.ppt (h : Shp G x A n S) (hk : k < n) : hP S 1 (A 1 k) = some (A 2 k) := (h.2.2.2.2.2.2.1 k hk).2.2.1
theorem Shp.kpt (h : Shp G x A n S) (hk : k < n) : hK S (A 2 k) = 5 := (h.2.2.2.2.2.2.1 k hk).2.2.2.1
theorem Shp.po (h : Shp G x A n S) (hk : k < n) : hP S 5 (A 1 k) = some (A 3 k) := (h.2.2.2.2.2.2.1 k hk).2.2.2.2.1
theorem Shp.ko (h : Shp G x A n S) (hk : k < n) : hK S (A 3 k) = 3 := (h.2.2.2.2.2.2.1 k hk).2.2.2.2.2.1
theorem Shp.pru (h : Shp G x A n S) (hk : k < n) : hP S 0 (A 3 k) = some (A 4 k) := (h.2.2.2.2.2.2.1 k hk).2.2.2.2.2.2.1
theorem Shp.kru (h : Shp G x A n S) (hk : k < n) : hK S (A 4 k) = 10 := (h.2.2.2.2.2.2.1 k hk).2.2.2.2.2.2.2.1
theorem Shp.nru (h : Shp G x A n S) (hk : k < n) : hN S (A 4 k) = 900 := (h.2.2.2.2.2.2.1 k hk).2.2.2.2.2.2.2.2
theorem Shp.inj (h : Shp G x A n S) {i j : Nat} (hi : i < n) (hj : j < n) (e : A 1 i = A 1 j ∨ A 3 i = A 3 j ∨ A 4 i = A 4 j) : i = j := h.2.2.2.2.2.2.2.1 i j hi hj e
theorem Shp.pnt (h : Shp G x A n S) {q : Nat} (e : hP S 4 (A 0 7) = some q) : ∃ k, k < n ∧ q = A 1 k := h.2.2.2.2.2.2.2.2 q e
theorem Shp.ked (h : Shp G x A n S) (hk : k < n) : hK S (A 0 6) = 12 := by rcases h.ed with ⟨h1, -⟩ | ⟨h1, -⟩; omega; exact h1
theorem Shp.ned (h : Shp G x A n S) (hk : k < n) : k < hN S (A 0 6) := by rcases h.ed with ⟨h1, -⟩ | ⟨-, h1, -⟩ <;> omega
theorem Shp.ned2 (h : Shp G x A n S) (hk : k < n) : hN S (A 0 6) ≤ 22 := by rcases h.ed with ⟨h1, -⟩ | ⟨-, -, h1⟩ <;> omega
theorem Shp.w (h : Shp G x A n S) (I V : Nat → Nat → Int32) : Shp G x A n (wIV S I V) := h
end
abbrev exN : List String := ["java/lang/RuntimeException", "java/lang/Exception"]
theorem exN_ok : ∀ n ∈ exN, Bundle.fit n = true := by decide +kernel
abbrev eIA : String := "java/lang/IllegalArgumentException"
abbrev eIS : String := "java/lang/IllegalStateException"
abbrev eIO : String := "java/lang/IndexOutOfBoundsException"
theorem fit_IA : Bundle.fit eIA = true := by decide +kernel
theorem fit_IS : Bundle.fit eIS = true := by decide +kernel
theorem fit_IO : Bundle.fit eIO = true := by decide +kernel
theorem at_IA : atOK (vx_atS RX5 54 eIA exN) = true := by decide +kernel
theorem at_IS : atOK (vx_atS RX5 87 eIS exN) = true := by decide +kernel
theorem at_IO : atOK (vx_atS RX5 196 eIO exN) = true := by decide +kernel
theorem cl_J15_null {X : JX} {G : JG} {Q : State → Prop} {nL cs ss pc : Nat} {lv : List (Nat × Value)} {st : List Value} {S : HS} {cc : ByteArray} {ret : Option FieldType} {fr lo mc ms : Nat} {fr' lo' mc' ms' : Nat} {a0 a1 : Int32} {P : Int32 → HS → Prop} (hC : JC X G RJ15 cc nL ret fr lo mc ms) (hM : Ct G yJ3_checkIndex_8e157 cJ3_checkIndex_8e157 3 (some .int) fr' lo' mc' ms' [.int a0, .int a1, .null] S (rI P) noX) (h8 : (st.map fun v => v.category).sum ≤ 8) (hr : rOK fr lo mc ms cs ss 3 fr' lo' mc' ms') (d : decode cc pc = .ok (.invokestatic 105, 3)) (kk : ∀ (r : Int32) (S' : HS), P r S' → J X G Q nL (cs + mc') (ss + ms') (pc + 3) lv (.int r :: st) S') : J X G Q nL cs ss pc lv (.null :: .int a1 :: .int a0 :: st) S := J_callS hC (n := 3) (as := [.int a0, .int a1, .null]) hM (mG 262 (by decide +kernel) rfl) (mG 263 (by decide +kernel) rfl) (mG 37 (by decide +kernel) rfl) (mG 264 (by decide +kernel) rfl) ⟨by decide +kernel, by decide +kernel, by decide +kernel⟩ rfl rfl h8 hr d (fun _ _ h => h.elim) (fun v S' h => by obtain ⟨r, rfl, h⟩ := h; exact kk r S' h)
/-- is the number one of a target? -/
def isTg (n : Nat) (t : Int32) : Prop := ∃ k, k < n ∧ t = nI k
theorem isTg_iff {n : Nat} {t : Int32} (hn : n ≤ 20) : isTg n t ↔ 0 ≤ t ∧ t < nI n := by
  constructor
  · rintro ⟨k, hk, rfl⟩
    exact ⟨nI_pos' (by omega), nI_lt hk (by omega)⟩
  · rintro ⟨h1, h2⟩
    obtain ⟨j, hj, rfl⟩ := nI_of (Int32.not_lt.mpr h1)
    exact ⟨j, (nI_ltI hj (by omega)).mp h2, rfl⟩
