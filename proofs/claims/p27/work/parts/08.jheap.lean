/-! the instructions that read or write the heap -/
theorem JC.k {X : JX} {G : JG} {own : String} {cc : ByteArray} {ret : Option FieldType} {nL fr lo mc ms : Nat} (h : JC X G own cc nL ret fr lo mc ms) : va_K (gD G) vwCl (tysG G) (xs X) := h.2.2.2.2.2.1.1
theorem JC.w {X : JX} {G : JG} {own : String} {cc : ByteArray} {ret : Option FieldType} {nL fr lo mc ms : Nat} (h : JC X G own cc nL ret fr lo mc ms) {w : Cond} (hw : w ∈ wG) : w.before (xa X) (xs X) = true := h.2.2.2.2.1 w hw
theorem J_get {X : JX} {G : JG} {Q : State → Prop} {nL cs ss pc : Nat} {lv : List (Nat × Value)} {st : List Value} {S : HS} {own : String} {cc : ByteArray} {ret : Option FieldType} {fr lo mc ms : Nat} {a lab : Nat} (hC : JC X G own cc nL ret fr lo mc ms)
    {C ref : String} {T : u_T} {N ci idx : Nat} (hin : ∀ w ∈ u_ws C T N, w ∈ wG) (hc : vwCl[ci]? = some (C, T, N)) (k : Nat) (hk : k < N) (hlink : Cond.fieldLink own idx ref (T k).2.1 (T k).2.2.1 ∈ wG)
    (hsame : ∀ x, (xs X).fieldFound? (T k).1 (T k).2.1 (T k).2.2.1 = some x → (xs X).fieldFound? ref (T k).2.1 (T k).2.2.1 = some x) (hl0 : hK S a = lab) {fs : List Value} (hf : hsh G S a lab = some (.inr (ci, fs))) {v : Value} (hv : fs[k]? = some v)
    (d : decode cc pc = .ok (.getfield idx, 3)) (kk : J X G Q nL cs ss (pc + 3) lv (v :: st) S) : J X G Q nL cs ss pc lv (.ref a :: st) S := by
  intro H locs ls hR hS hl
  exact va_get hC.1 hC.2.1 hC.2.2.2.2.1 hin hC.2.2.2.1 hC.k (hR.one ((hob_of hl0).trans hf)) 0 rfl hc k hk (hC.w hlink) hsame hv d (kk H locs ls hR hS hl)
theorem J_put {X : JX} {G : JG} {Q : State → Prop} {nL cs ss pc : Nat} {lv : List (Nat × Value)} {st : List Value} {S : HS} {own : String} {cc : ByteArray} {ret : Option FieldType} {fr lo mc ms : Nat} {a lab : Nat} (hC : JC X G own cc nL ret fr lo mc ms)
    {C ref : String} {T : u_T} {N ci idx : Nat} (hin : ∀ w ∈ u_ws C T N, w ∈ wG) (ty0 : Nat → FieldType) (hty : ∀ k, k < N → parseFieldDescriptor (T k).2.2.1 = some (ty0 k)) (hnm : ∀ a, a < N → ∀ b, b < N → a ≠ b → (T a).2.1 ≠ (T b).2.1) (hc : vwCl[ci]? = some (C, T, N)) (k : Nat) (hk : k < N) (hlink : Cond.fieldLink own idx ref (T k).2.1 (T k).2.2.1 ∈ wG)
    (hsame : ∀ x, (xs X).fieldFound? (T k).1 (T k).2.1 (T k).2.2.1 = some x → (xs X).fieldFound? ref (T k).2.1 (T k).2.2.1 = some x) (hfin : (T k).2.2.2 = false) {ty : FieldType} {v : Value} (hd : parseFieldDescriptor (T k).2.2.1 = some ty) (hn : narrow ty v = v) (hfit : fits ty v = true)
    (hl0 : hK S a = lab) {fs : List Value} (hf : hsh G S a lab = some (.inr (ci, fs))) (hlen : k < fs.length) {S' : HS} (h' : hob G S' a = some (.inr (ci, fs.set k v))) (ho : ∀ b : Nat, b ≠ a → hob G S' b = hob G S b)
    (d : decode cc pc = .ok (.putfield idx, 3)) (kk : J X G Q nL cs ss (pc + 3) lv st S') : J X G Q nL cs ss pc lv (v :: .ref a :: st) S := by
  intro H locs ls hR hS hl
  obtain ⟨ws, hP, hD, h3⟩ := hR
  obtain ⟨j, hj⟩ := h3 a _ ((hob_of hl0).trans hf)
  exact va_put hC.1 hC.2.1 hC.2.2.2.2.1 hin ty0 hty hnm hC.2.2.2.1 hC.k hP hD hS j hj hc k hk (hC.w hlink) hsame hfin hd hn hfit hlen d (fun H1 locs1 hP1 hD1 hS1 => kk H1 locs1 ls (Rep.put h3 hD hj hP1 hD1 h' ho) hS1 hl)
theorem J_putF {X : JX} {G : JG} {Q : State → Prop} {nL cs ss pc : Nat} {lv : List (Nat × Value)} {st : List Value} {S : HS} {own : String} {cc : ByteArray} {ret : Option FieldType} {fr lo mc ms : Nat} {a lab : Nat} (hC : JC X G own cc nL ret fr lo mc ms) (hin2 : (xt X).name = "<init>")
    {C ref : String} {T : u_T} {N ci idx : Nat} (hin : ∀ w ∈ u_ws C T N, w ∈ wG) (ty0 : Nat → FieldType) (hty : ∀ k, k < N → parseFieldDescriptor (T k).2.2.1 = some (ty0 k)) (hnm : ∀ a, a < N → ∀ b, b < N → a ≠ b → (T a).2.1 ≠ (T b).2.1) (hc : vwCl[ci]? = some (C, T, N)) (k : Nat) (hk : k < N) (hlink : Cond.fieldLink own idx ref (T k).2.1 (T k).2.2.1 ∈ wG)
    (hsame : ∀ x, (xs X).fieldFound? (T k).1 (T k).2.1 (T k).2.2.1 = some x → (xs X).fieldFound? ref (T k).2.1 (T k).2.2.1 = some x) (hfin : (T k).2.2.2 = true) (hdecl : (T k).1 = own) {ty : FieldType} {v : Value} (hd : parseFieldDescriptor (T k).2.2.1 = some ty) (hn : narrow ty v = v) (hfit : fits ty v = true)
    (hl0 : hK S a = lab) {fs : List Value} (hf : hsh G S a lab = some (.inr (ci, fs))) (hlen : k < fs.length) {S' : HS} (h' : hob G S' a = some (.inr (ci, fs.set k v))) (ho : ∀ b : Nat, b ≠ a → hob G S' b = hob G S b)
    (d : decode cc pc = .ok (.putfield idx, 3)) (kk : J X G Q nL cs ss (pc + 3) lv st S') : J X G Q nL cs ss pc lv (v :: .ref a :: st) S := by
  intro H locs ls hR hS hl
  obtain ⟨ws, hP, hD, h3⟩ := hR
  obtain ⟨j, hj⟩ := h3 a _ ((hob_of hl0).trans hf)
  exact va_putF hC.1 hC.2.1 hC.2.2.2.2.1 hin ty0 hty hnm hC.2.2.2.1 hC.k hP hD hS j hj hc k hk (hC.w hlink) hsame hfin hin2 hdecl hd hn hfit hlen d (fun H1 locs1 hP1 hD1 hS1 => kk H1 locs1 ls (Rep.put h3 hD hj hP1 hD1 h' ho) hS1 hl)
theorem J_new {X : JX} {G : JG} {Q : State → Prop} {nL cs ss pc : Nat} {lv : List (Nat × Value)} {st : List Value} {S : HS} {own : String} {cc : ByteArray} {ret : Option FieldType} {fr lo mc ms : Nat} (hC : JC X G own cc nL ret fr lo mc ms)
    {C : String} {T : u_T} {N ci idx : Nat} (hin : ∀ w ∈ u_ws C T N, w ∈ wG) (ty : Nat → FieldType) (hty : ∀ k, k < N → parseFieldDescriptor (T k).2.2.1 = some (ty k)) (hc : vwCl[ci]? = some (C, T, N)) (hcl : Cond.classLink own idx C ∈ wG) (hinst : Cond.instantiable C N ∈ wG) (hini : Cond.initialized C ∈ wG) (lab : Nat)
    {fs : List Value} (hfs : ∀ j, j < N → defaultValue (ty j) = vp_V fs j) (h' : ∀ q : Nat, hsh G (sNew S q lab 0) q lab = some (.inr (ci, fs))) (h1 : cs + 1 ≤ mc) (h2 : ss + N ≤ ms)
    (d : decode cc pc = .ok (.new idx, 3)) (kk : ∀ q : Nat, hK S q = 0 → J X G Q nL (cs + 1) (ss + N) (pc + 3) lv (.ref q :: st) (sNew S q lab 0)) : J X G Q nL cs ss pc lv st S := by
  intro H locs ls hR hS hl
  obtain ⟨ws, hP, hD, h3⟩ := hR
  have hrm := hC.2.2.2.2.2.2.2.2.2
  exact va_new hC.1 hC.2.1 hC.2.2.2.2.1 hin ty hty hC.2.2.2.1 (hC.w hcl) (hC.w hinst) (hC.w hini) hC.k hP hD hS (fun q hq => Nat.le_trans (GI.base hC.2.2.2.2.2.1) hq) hc hfs (by rw [hrm]; exact h1) (by rw [hrm]; exact h2) d
    (fun q H1 hP1 hD1 hS1 => kk q (Rep.fresh h3 hD1) H1 locs ls (Rep.push h3 hP1 hD1 ((hob_of (by rw [hK_sNew, if_pos rfl])).trans (h' q)) (fun b hb => hob_sNew hb)) hS1 hl)
