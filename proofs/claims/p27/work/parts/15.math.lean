/-! the heap rewritten, and the planner's numbers as functions of its state -/
def wIV (S : HS) (I V : Nat → Nat → Int32) : HS := (S.1, I, S.2.2.1, S.2.2.2.1, S.2.2.2.2.1, V)
theorem hK_wIV (S : HS) (I V : Nat → Nat → Int32) (a : Nat) : hK (wIV S I V) a = hK S a := rfl
theorem hI_wIV (S : HS) (I V : Nat → Nat → Int32) (k a : Nat) : hI (wIV S I V) k a = I k a := rfl
theorem hV_wIV (S : HS) (I V : Nat → Nat → Int32) (k a : Nat) : hV (wIV S I V) k a = V k a := rfl
theorem hP_wIV (S : HS) (I V : Nat → Nat → Int32) (k a : Nat) : hP (wIV S I V) k a = hP S k a := rfl
theorem hN_wIV (S : HS) (I V : Nat → Nat → Int32) (a : Nat) : hN (wIV S I V) a = hN S a := rfl
theorem hL_wIV (S : HS) (I V : Nat → Nat → Int32) (k a : Nat) : hL (wIV S I V) k a = hL S k a := rfl
theorem wIV_self (S : HS) : wIV S (hI S) (hV S) = S := rfl
def up2 (f : Nat → Nat → Int32) (k a : Nat) (v : Int32) : Nat → Nat → Int32 := fun k' a' => if k' = k ∧ a' = a then v else f k' a'
theorem sI_wIV (S : HS) (I V : Nat → Nat → Int32) (k a : Nat) (v : Int32) : sI (wIV S I V) k a v = wIV S (up2 I k a v) V := rfl
theorem sV_wIV (S : HS) (I V : Nat → Nat → Int32) (k a : Nat) (v : Int32) : sV (wIV S I V) k a v = wIV S I (up2 V k a v) := rfl
theorem sI_w (S : HS) (k a : Nat) (v : Int32) : sI S k a v = wIV S (up2 (hI S) k a v) (hV S) := rfl
theorem sV_w (S : HS) (k a : Nat) (v : Int32) : sV S k a v = wIV S (hI S) (up2 (hV S) k a v) := rfl
theorem wIV_wIV (S : HS) (I V I' V' : Nat → Nat → Int32) : wIV (wIV S I V) I' V' = wIV S I' V' := rfl
theorem wIV_ext {S : HS} {I V I' V' : Nat → Nat → Int32} (h1 : ∀ k a, I k a = I' k a) (h2 : ∀ k a, V k a = V' k a) : wIV S I V = wIV S I' V' := by
  rw [show I = I' from funext fun k => funext fun a => h1 k a, show V = V' from funext fun k => funext fun a => h2 k a]
theorem up2_same (f : Nat → Nat → Int32) (k a : Nat) (v : Int32) : up2 f k a v k a = v := if_pos ⟨rfl, rfl⟩
theorem up2_na {f : Nat → Nat → Int32} {k a : Nat} {v : Int32} {j b : Nat} (h : b ≠ a) : up2 f k a v j b = f j b := if_neg (fun z => h z.2)
theorem up2_nk {f : Nat → Nat → Int32} {k a : Nat} {v : Int32} {j b : Nat} (h : j ≠ k) : up2 f k a v j b = f j b := if_neg (fun z => h z.1)
theorem J_eqS {X : JX} {G : JG} {Q : State → Prop} {nL cs ss pc : Nat} {lv : List (Nat × Value)} {st : List Value} {S S' : HS} (h : S = S') (k : J X G Q nL cs ss pc lv st S') : J X G Q nL cs ss pc lv st S := h ▸ k
theorem J_eqL {X : JX} {G : JG} {Q : State → Prop} {nL cs ss pc : Nat} {lv lv' : List (Nat × Value)} {st : List Value} {S : HS} (h : lv = lv') (k : J X G Q nL cs ss pc lv' st S) : J X G Q nL cs ss pc lv st S := h ▸ k
/-! state: g 0 latitude 1 start 2 length 3 night 4 the moon's rise 5 its declination 6 its age; t k j: target k's fact j; how many targets; how many clouds, from, to -/
abbrev Sg : Type := (Nat → Int32) × (Nat → Nat → Int32) × Nat × Nat × (Nat → Int32) × (Nat → Int32)
abbrev vg (σ : Sg) (i : Nat) : Int32 := σ.1 i
abbrev vt (σ : Sg) (k j : Nat) : Int32 := σ.2.1 k j
abbrev vn (σ : Sg) : Nat := σ.2.2.1
abbrev vc (σ : Sg) : Nat := σ.2.2.2.1
abbrev vf (σ : Sg) (i : Nat) : Int32 := σ.2.2.2.2.1 i
abbrev vo (σ : Sg) (i : Nat) : Int32 := σ.2.2.2.2.2 i
/-- is a minute under one of the first m clouds? -/
def cvB (ff tt : Nat → Int32) : Nat → Int32 → Bool
  | 0, _ => false
  | m + 1, t => cvB ff tt m t || (decide (ff m ≤ t) && decide (t ≤ tt m))
theorem cvB_iff {ff tt : Nat → Int32} {m : Nat} {t : Int32} : cvB ff tt m t = true ↔ ∃ i, i < m ∧ ff i ≤ t ∧ t ≤ tt i := by
  induction m with
  | zero => simp [cvB]
  | succ m ih =>
    rw [cvB, Bool.or_eq_true, ih, Bool.and_eq_true, decide_eq_true_eq, decide_eq_true_eq]
    constructor
    · rintro (⟨i, h1, h2⟩ | h)
      · exact ⟨i, by omega, h2⟩
      · exact ⟨m, by omega, h⟩
    · rintro ⟨i, h1, h2⟩
      by_cases e : i = m
      · subst e; exact Or.inr h2
      · exact Or.inl ⟨i, by omega, h2⟩
theorem cvB_no {ff tt : Nat → Int32} {m : Nat} {t : Int32} (h : ∀ i, i < m → ¬ (ff i ≤ t ∧ t ≤ tt i)) : cvB ff tt m t = false := by
  cases e : cvB ff tt m t with
  | false => rfl
  | true => obtain ⟨i, h1, h2⟩ := cvB_iff.mp e; exact (h i h1 h2).elim
def zI (b : Bool) : Int32 := if b = true then 1 else 0
def cldV (σ : Sg) (t : Int32) : Bool := cvB (vf σ) (vo σ) (vc σ) t
def hgtV (σ : Sg) (rise decl t : Int32) : Int32 := mx (vg σ 0) decl (angV (vg σ 1) (vg σ 3) t rise)
def mhV (σ : Sg) (t : Int32) : Int32 := hgtV σ (vg σ 4) (vg σ 5) t
def mnV (σ : Sg) (k : Nat) : Int32 := nearV (vt σ k 0) (vt σ k 1) (vg σ 4) (vg σ 5)
def liV (σ : Sg) : Int32 := lightV (vg σ 6)
def thV (σ : Sg) (k : Nat) (t : Int32) : Int32 := hgtV σ (vt σ k 0) (vt σ k 1) t
def rsnV (σ : Sg) (k : Nat) (t : Int32) : Int32 := if cldV σ t = true then 1 else if thV σ k t < vt σ k 4 then 2 else if mnV σ k ≤ 1000 - 5 * liV σ then 0 else if mhV σ t ≤ 0 then 0 else 3
/-- the night's length as a number -/
def lnV (σ : Sg) : Nat := (vg σ 2).toNatClampNeg
/-- on how many minutes on end target k can be seen from the minute L - d on -/
def rnD (σ : Sg) (k L : Nat) : Nat → Nat
  | 0 => 0
  | d + 1 => if rsnV σ k (nI (L - (d + 1))) = 0 then rnD σ k L d + 1 else 0
theorem rnD_le (σ : Sg) (k L : Nat) : ∀ d, rnD σ k L d ≤ d
  | 0 => Nat.le_refl 0
  | d + 1 => by
    have := rnD_le σ k L d
    unfold rnD
    split <;> omega
/-- .. from the minute i on, nothing behind the night -/
def rnA (σ : Sg) (k i : Nat) : Nat := if i < lnV σ then rnD σ k (lnV σ) (lnV σ - i) else 0
/-- the class's notes over the last d minutes, by slot: 2 first 3 last 4 seen 5 highest 6 its height 7 begin -/
def oF (σ : Sg) (k L : Nat) : Nat → Nat → Int32
  | 0, j => if j = 4 ∨ j = 6 then 0 else -1
  | d + 1, j =>
    let t := L - (d + 1)
    let r := rnD σ k L (d + 1)
    let hi := oF σ k L d 5 < 0 ∨ oF σ k L d 6 ≤ thV σ k (nI t)
    if j = 5 then (if hi then nI t else oF σ k L d 5)
    else if j = 6 then (if hi then thV σ k (nI t) else oF σ k L d 6)
    else if 0 < r then
      (if j = 2 then nI t else if j = 3 then (if oF σ k L d 3 < 0 then nI t else oF σ k L d 3) else if j = 4 then oF σ k L d 4 + 1 else if j = 7 then (if vt σ k 5 ≤ nI r then nI t else oF σ k L d 7) else oF σ k L d j)
    else oF σ k L d j
def opV (σ : Sg) (k : Nat) : Bool := decide (vt σ k 8 < vt σ k 6) && (decide (vt σ k 8 = 0) || decide (vt σ k 7 ≤ vg σ 3 - vt σ k 9))
theorem in8 {x : Int32} (h : 0 ≤ x) (h2 : x < 8) : vp_in x 8 := vp_in_iff.mpr ⟨Int32.le_iff_toInt_le.mp h, Int32.lt_iff_toInt_lt.mp h2⟩
/-- the locals in another order -/
theorem J_re {X : JX} {G : JG} {Q : State → Prop} {nL cs ss pc : Nat} {lv lv' : List (Nat × Value)} {st : List Value} {S : HS} (ks : List Nat) (h : lv_pick lv ks = lv') (k : J X G Q nL cs ss pc lv' st S) : J X G Q nL cs ss pc lv st S := fun H locs ls hR hS hl => k H locs ls hR hS (lv_sub hl ks h)
theorem J_wd {X : JX} {G : JG} {Q : State → Prop} {nL cs ss cs' ss' pc : Nat} {lv : List (Nat × Value)} {st : List Value} {S : HS} (h1 : cs ≤ cs') (h2 : ss ≤ ss') (k : J X G Q nL cs' ss' pc lv st S) : J X G Q nL cs ss pc lv st S := fun H locs ls hR hS hl => W.widen h1 h2 (k H locs ls hR hS hl)
theorem in900 {x : Int32} (h : 0 ≤ x) (h2 : x < 900) : vp_in x 900 := vp_in_iff.mpr ⟨Int32.le_iff_toInt_le.mp h, Int32.lt_iff_toInt_lt.mp h2⟩
theorem in20 {x : Int32} (h : 0 ≤ x) (h2 : x < 20) : vp_in x 20 := vp_in_iff.mpr ⟨Int32.le_iff_toInt_le.mp h, Int32.lt_iff_toInt_lt.mp h2⟩
/-- a target's fact out of the heap -/
def tfS (S : HS) (g pt j : Nat) : Int32 := if j = 0 then hI S 0 pt else if j = 1 then hI S 1 pt else hI S (if j = 2 then 2 else if j = 3 then 3 else if j = 4 then 6 else if j = 5 then 4 else if j = 6 then 7 else if j = 7 then 8 else if j = 8 then 9 else 10) g
def nrP (S : HS) (a b : Nat) : Int32 := cl4 (hI S 2 a) (hI S 3 a) (hI S 2 b) (hI S 3 b) (sn (iabs (hI S 0 a - hI S 0 b) / 4 + 90))
/-- how long the telescope of the plan p takes to the target g -/
def wtS (S : HS) (p g : Nat) : Int32 := match hP S 4 p with
  | none => if hI S 2 g = 0 then 2 else 2 + 3
  | some q => if hI S 2 g = hI S 2 q then 1 + (1000 - nrP S ((hP S 1 q).getD 0) ((hP S 1 g).getD 0)) / 250 else 1 + (1000 - nrP S ((hP S 1 q).getD 0) ((hP S 1 g).getD 0)) / 250 + 3
theorem inN {S : HS} {a n : Nat} {i : Int32} (h1 : hN S a = n) (h : vp_in i n) : vp_in i (hN S a) := by rw [h1]; exact h
