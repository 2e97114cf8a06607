/-! calls, throws, handlers -/
theorem J_ofRun {X : JX} {G : JG} {Q : State → Prop} {nL cs ss pc : Nat} {lv : List (Nat × Value)} {st st0 : List Value} {S : HS} {mc' ms' : Nat} {a : Array Value} {R : Option Value → HS → Prop} {RX : String → HS → Prop}
    (hr : ∀ (H : Heap) (locs : List Loc) (ls : Array Slot), Rep G S H → va_S (gA G) (xs X).heap H locs → lv_has ls nL lv → vx_Run (xp X) (xl X) (xe X) (xR X) (xs X) (xm X) (xa X) (xb X) (xt X) (xc X) H locs cs ss mc' ms' (F0 (xm X) pc ls st0) st (jQc G R a) (jXC G RX) (gA G))
    (kx : ∀ (E : String) (S' : HS), RX E S' → JT X G Q nL (cs + mc') (ss + ms') pc lv S' E)
    (kk : ∀ (v : Option Value) (S' : HS), R v S' → J X G Q nL (cs + mc') (ss + ms') (pc + 3) lv (v.toList ++ st) S') : J X G Q nL cs ss pc lv st0 S := by
  intro H locs ls hR hS hl T hT Xs
  rcases hr H locs ls hR hS hl T hT Xs with ⟨v, st₀, t, T', L, h0, X', hL, e1, e2, ⟨⟨v', S', hv, hq, hRep⟩, hF⟩, st9⟩ | ⟨q, st₀, t, T', L, E, ce, h0, X', hL, e1, e2, ⟨⟨S', hq, hRep⟩, hF⟩, hce, hcv, hcl, st9⟩
  · cases hv
    obtain ⟨k1, k2, k3⟩ := vx_keep h0 e1 hS (fun _ _ h => h) (fun _ h => h) hL hF
    obtain ⟨t2, a1, b1⟩ := kk v S' hq T'.heap (locs ++ L) ls (by rw [e1]; exact hRep) k3 hl T' rfl X'
    exact ⟨t2, st9 t2 a1, b1⟩
  · obtain ⟨k1, k2, k3⟩ := vx_keep h0 e1 hS (fun _ _ h => h) (fun _ h => h) hL hF
    obtain ⟨t2, a1, b1⟩ := kx E S' hq T'.heap (locs ++ L) ls st ce q (by rw [e1]; exact hRep) k3 hl (by rw [e1]; exact hce) hcv hcl T' rfl X'
    exact ⟨t2, st9.trans a1, b1⟩
theorem vx_of_va {p : Program} {l : Launch} {e : Env} {R : Room} {s : State} {m : MethodId} {args : Array Value} {below : List Frame} {meth : Method} {c : Code} {H : Heap} {locs : List Loc} {cells slots mc ms : Nat} {g : JFrame} {rest : List Value} {Qa : State → Outcome → State → Prop} {XC : String → State → State → Prop} {free : Addr → Prop}
    (h : va_Run p l e R s m args below meth c H locs cells slots mc ms g rest Qa free) : vx_Run p l e R s m args below meth c H locs cells slots mc ms g rest Qa XC free := fun T hT X => Or.inl (h T hT X)
/-- the words of a method's own list -/
theorem goodIn_y {y : MethodName} {cc : ByteArray} {nL : Nat} {ret : Option FieldType} {pre : List Cond} (h0 : Cond.code y cc nL ret ∈ wG) (h : ∀ w ∈ pre, w ∈ wG) : GoodIn wG (pre ++ (Cond.code y cc nL ret :: wG)) := goodIn_wG (fun w hw => by
  rcases List.mem_append.mp hw with h1 | h1
  · exact h w h1
  · rcases List.mem_cons.mp h1 with rfl | h2
    · exact h0
    · exact h2)
theorem fa4 {α : Type} {P : α → Prop} {a b c d : α} (h1 : P a) (h2 : P b) (h3 : P c) (h4 : P d) : ∀ w ∈ [a, b, c, d], P w := by
  intro w hw
  simp only [List.mem_cons, List.not_mem_nil, or_false] at hw
  rcases hw with rfl | rfl | rfl | rfl <;> assumption
theorem fa3 {α : Type} {P : α → Prop} {a b c : α} (h1 : P a) (h2 : P b) (h3 : P c) : ∀ w ∈ [a, b, c], P w := by
  intro w hw
  simp only [List.mem_cons, List.not_mem_nil, or_false] at hw
  rcases hw with rfl | rfl | rfl <;> assumption
/-- a method's descriptor has n parameters, and isn't one of the two classes apart -/
def yOK (y : MethodName) (n : Nat) : Prop := y.cls ≠ "java/lang/invoke/MethodHandle" ∧ y.cls ≠ "java/lang/invoke/VarHandle" ∧ (parseMethodDescriptor y.desc).map (fun d => d.parameters.length) = some n
/-- room for a callee -/
def rOK (fr lo mc ms cs ss nL' fr' lo' mc' ms' : Nat) : Prop := (fr' + 1 ≤ fr ∧ 8 + (nL' + 11) + lo' ≤ lo) ∧ cs + mc' ≤ mc ∧ ss + ms' ≤ ms
theorem GI.at {G : JG} {own : String} {cc : ByteArray} {ret : Option FieldType} {nL fr lo mc ms : Nat} {X : JX} (hC : JC X G own cc nL ret fr lo mc ms) {H : Heap} {locs : List Loc} (hS : va_S (gA G) (xs X).heap H locs) : GI G (xs X) H := hC.2.2.2.2.2.1.kept hS.1 (fun q hq hA => hS.2.1 q hq hA)
theorem J_callV {X : JX} {G : JG} {Q : State → Prop} {nL cs ss pc : Nat} {lv : List (Nat × Value)} {st st0 : List Value} {S : HS} {own : String} {cc : ByteArray} {ret : Option FieldType} {fr lo mc ms : Nat} (hC : JC X G own cc nL ret fr lo mc ms)
    {y : MethodName} {cy : ByteArray} {nL' : Nat} {ret' : Option FieldType} {fr' lo' mc' ms' idx n ci lab b : Nat} {r : vw_C} {fs as : List Value} {R : Option Value → HS → Prop} {RX : String → HS → Prop} (hM : Ct G y cy nL' ret' fr' lo' mc' ms' (.ref b :: as) S R RX)
    (w1 : Cond.methodLink own idx y ∈ wG) (w2 : Cond.instanceMethod y ∈ wG) (w3 : Cond.selects r.1 y y ∈ wG) (w4 : Cond.initialized r.1 ∈ wG) (w5 : Cond.code y cy nL' ret' ∈ wG) (hy : yOK y n) (hyc : y.cls = r.1) (hn : as.length = n)
    (hk : hK S b = lab) (hf : hsh G S b lab = some (.inr (ci, fs))) (hc : vwCl[ci]? = some r) (hst : st0 = as.reverse ++ .ref b :: st) (h8 : (st.map fun v => v.category).sum ≤ 8) (hr : rOK fr lo mc ms cs ss nL' fr' lo' mc' ms') (d : decode cc pc = .ok (.invokevirtual idx, 3))
    (kx : ∀ (E : String) (S' : HS), RX E S' → JT X G Q nL (cs + mc') (ss + ms') pc lv S' E)
    (kk : ∀ (v : Option Value) (S' : HS), R v S' → J X G Q nL (cs + mc') (ss + ms') (pc + 3) lv (v.toList ++ st) S') : J X G Q nL cs ss pc lv st0 S := by
  refine J_ofRun (a := (Value.ref b :: as).toArray) (fun H locs ls hR hS hl => ?_) kx kk
  have hrm := hC.2.2.2.2.2.2.2.2.2
  refine vx_runV (As := as) (rest := st) ⟨hC.1, hC.2.1, hC.2.2.1, hC.2.2.2.1, hC.2.2.2.2.1⟩ (hM (xl X) hC.2.2.2.2.2.2.2.2.1) (cwV (C := r.1) n hC.2.2.2.2.1 (goodIn_y w5 (fa4 w1 w2 w3 w4)) rfl rfl rfl ⟨hyc, hy⟩ (by rw [hrm]; exact hr.1)) ⟨jPc_blind, va_recv (q0 := 0) (ci := ci) (fs := fs) hC.k (hR.one ((hob_of hk).trans hf)) hc rfl, fun U hU hW => ⟨rfl, ?_, by rw [hU]; exact hR⟩⟩ rfl hn hl.1 hst (lv_room h8) d (by rw [hrm]; exact hr.2)
  rw [hU]
  exact (GI.at hC hS).warm hW
theorem J_callS {X : JX} {G : JG} {Q : State → Prop} {nL cs ss pc : Nat} {lv : List (Nat × Value)} {st st0 : List Value} {S : HS} {own : String} {cc : ByteArray} {ret : Option FieldType} {fr lo mc ms : Nat} (hC : JC X G own cc nL ret fr lo mc ms)
    {y : MethodName} {cy : ByteArray} {nL' : Nat} {ret' : Option FieldType} {fr' lo' mc' ms' idx n : Nat} {as : List Value} {R : Option Value → HS → Prop} {RX : String → HS → Prop} (hM : Ct G y cy nL' ret' fr' lo' mc' ms' as S R RX)
    (w1 : Cond.methodLink own idx y ∈ wG) (w2 : Cond.static y ∈ wG) (w4 : Cond.initialized y.cls ∈ wG) (w5 : Cond.code y cy nL' ret' ∈ wG) (hy : yOK y n) (hn : as.length = n)
    (hst : st0 = as.reverse ++ st) (h8 : (st.map fun v => v.category).sum ≤ 8) (hr : rOK fr lo mc ms cs ss nL' fr' lo' mc' ms') (d : decode cc pc = .ok (.invokestatic idx, 3))
    (kx : ∀ (E : String) (S' : HS), RX E S' → JT X G Q nL (cs + mc') (ss + ms') pc lv S' E)
    (kk : ∀ (v : Option Value) (S' : HS), R v S' → J X G Q nL (cs + mc') (ss + ms') (pc + 3) lv (v.toList ++ st) S') : J X G Q nL cs ss pc lv st0 S := by
  refine J_ofRun (a := as.toArray) (fun H locs ls hR hS hl => ?_) kx kk
  have hrm := hC.2.2.2.2.2.2.2.2.2
  refine vx_runS (As := as) (rest := st) ⟨hC.1, hC.2.1, hC.2.2.1, hC.2.2.2.1, hC.2.2.2.2.1⟩ (hM (xl X) hC.2.2.2.2.2.2.2.2.1) (va_cwS n hC.2.2.2.2.1 (goodIn_y w5 (fa3 w1 w2 w4)) rfl rfl rfl hy (by rw [hrm]; exact hr.1)) ⟨jPc_blind, fun U hU hW => ⟨rfl, ?_, by rw [hU]; exact hR⟩⟩ rfl hn hl.1 hst (lv_room h8) d (by rw [hrm]; exact hr.2)
  rw [hU]
  exact (GI.at hC hS).warm hW
theorem J_callI {X : JX} {G : JG} {Q : State → Prop} {nL cs ss pc : Nat} {lv : List (Nat × Value)} {st st0 : List Value} {S : HS} {own : String} {cc : ByteArray} {ret : Option FieldType} {fr lo mc ms : Nat} (hC : JC X G own cc nL ret fr lo mc ms)
    {y : MethodName} {cy : ByteArray} {nL' : Nat} {fr' lo' mc' ms' idx n b : Nat} {as : List Value} {R : Option Value → HS → Prop} (hM : Ct G y cy nL' none fr' lo' mc' ms' (.ref b :: as) S R noX)
    (w1 : Cond.methodLink own idx y ∈ wG) (w2 : Cond.instanceMethod y ∈ wG) (w4 : Cond.initialized y.cls ∈ wG) (w5 : Cond.code y cy nL' none ∈ wG) (hy : yOK y n) (hyn : y.name = "<init>") (hn : as.length = n)
    (hst : st0 = as.reverse ++ .ref b :: st) (h8 : (st.map fun v => v.category).sum ≤ 8) (hr : rOK fr lo mc ms cs ss nL' fr' lo' mc' ms') (d : decode cc pc = .ok (.invokespecial idx, 3))
    (kk : ∀ (v : Option Value) (S' : HS), R v S' → J X G Q nL (cs + mc') (ss + ms') (pc + 3) lv (v.toList ++ st) S') : J X G Q nL cs ss pc lv st0 S := by
  refine J_ofRun (a := (Value.ref b :: as).toArray) (RX := noX) (fun H locs ls hR hS hl => vx_of_va ?_) (fun _ _ h => h.elim) kk
  have hrm := hC.2.2.2.2.2.2.2.2.2
  refine va_runI (As := as) (rest := st) ⟨hC.1, hC.2.1, hC.2.2.1, hC.2.2.2.1, hC.2.2.2.2.1⟩ (hM.met (xl X) hC.2.2.2.2.2.2.2.2.1) (cwI n hC.2.2.2.2.1 (goodIn_y (pre := []) w5 (fun _ h => nomatch h)) rfl rfl rfl (hC.w w4) (hC.w w1) (hC.w w2) hyn hy (by rw [hrm]; exact hr.1)) ⟨jPc_blind, fun U hU hW => ⟨rfl, ?_, by rw [hU]; exact hR⟩⟩ rfl hn hl.1 hst (lv_room h8) d (by rw [hrm]; exact hr.2)
  rw [hU]
  exact (GI.at hC hS).warm hW
theorem J_callIN {X : JX} {G : JG} {Q : State → Prop} {nL cs ss pc : Nat} {lv : List (Nat × Value)} {st st0 : List Value} {S : HS} {own : String} {cc : ByteArray} {ret : Option FieldType} {fr lo mc ms : Nat} (hC : JC X G own cc nL ret fr lo mc ms)
    {y : MethodName} {cy : ByteArray} {nL' : Nat} {fr' lo' mc' ms' idx n b : Nat} {host : String} {as : List Value} {R : Option Value → HS → Prop} (hM : Ct G y cy nL' none fr' lo' mc' ms' (.ref b :: as) S R noX)
    (w1 : Cond.methodLinkNest own idx y host ∈ wN) (w2 : Cond.instanceMethod y ∈ wG) (w4 : Cond.initialized y.cls ∈ wG) (w5 : Cond.code y cy nL' none ∈ wG) (hy : yOK y n) (hyn : y.name = "<init>") (hn : as.length = n)
    (hst : st0 = as.reverse ++ .ref b :: st) (h8 : (st.map fun v => v.category).sum ≤ 8) (hr : rOK fr lo mc ms cs ss nL' fr' lo' mc' ms') (d : decode cc pc = .ok (.invokespecial idx, 3))
    (kk : ∀ (v : Option Value) (S' : HS), R v S' → J X G Q nL (cs + mc') (ss + ms') (pc + 3) lv (v.toList ++ st) S') : J X G Q nL cs ss pc lv st0 S := by
  refine J_ofRun (a := (Value.ref b :: as).toArray) (RX := noX) (fun H locs ls hR hS hl => vx_of_va ?_) (fun _ _ h => h.elim) kk
  have hrm := hC.2.2.2.2.2.2.2.2.2
  refine va_runIN (As := as) (rest := st) ⟨hC.1, hC.2.1, hC.2.2.1, hC.2.2.2.1, hC.2.2.2.2.1⟩ (hM.met (xl X) hC.2.2.2.2.2.2.2.2.1) ⟨va_cnB n hC.2.2.2.2.1 (goodIn_y (pre := []) w5 (fun _ h => nomatch h)) rfl rfl rfl (hC.2.2.2.2.2.1.2.1 _ w1) (hC.w w4) hy (by rw [hrm]; exact hr.1), hyn, hC.w w2⟩ ⟨jPc_blind, fun U hU hW => ⟨rfl, ?_, by rw [hU]; exact hR⟩⟩ rfl hn hl.1 hst (lv_room h8) d (by rw [hrm]; exact hr.2)
  rw [hU]
  exact (GI.at hC hS).warm hW
theorem J_callSN {X : JX} {G : JG} {Q : State → Prop} {nL cs ss pc : Nat} {lv : List (Nat × Value)} {st st0 : List Value} {S : HS} {own : String} {cc : ByteArray} {ret : Option FieldType} {fr lo mc ms : Nat} (hC : JC X G own cc nL ret fr lo mc ms)
    {y : MethodName} {cy : ByteArray} {nL' : Nat} {ret' : Option FieldType} {fr' lo' mc' ms' idx n : Nat} {host : String} {as : List Value} {R : Option Value → HS → Prop} (hM : Ct G y cy nL' ret' fr' lo' mc' ms' as S R noX)
    (w1 : Cond.methodLinkNest own idx y host ∈ wN) (w2 : Cond.static y ∈ wG) (w4 : Cond.initialized y.cls ∈ wG) (w5 : Cond.code y cy nL' ret' ∈ wG) (hy : yOK y n) (hn : as.length = n)
    (hst : st0 = as.reverse ++ st) (h8 : (st.map fun v => v.category).sum ≤ 8) (hr : rOK fr lo mc ms cs ss nL' fr' lo' mc' ms') (d : decode cc pc = .ok (.invokestatic idx, 3))
    (kk : ∀ (v : Option Value) (S' : HS), R v S' → J X G Q nL (cs + mc') (ss + ms') (pc + 3) lv (v.toList ++ st) S') : J X G Q nL cs ss pc lv st0 S := by
  refine J_ofRun (a := as.toArray) (RX := noX) (fun H locs ls hR hS hl => vx_of_va ?_) (fun _ _ h => h.elim) kk
  have hrm := hC.2.2.2.2.2.2.2.2.2
  refine va_runSN (As := as) (rest := st) ⟨hC.1, hC.2.1, hC.2.2.1, hC.2.2.2.1, hC.2.2.2.2.1⟩ (hM.met (xl X) hC.2.2.2.2.2.2.2.2.1) ⟨va_cnB n hC.2.2.2.2.1 (goodIn_y (pre := []) w5 (fun _ h => nomatch h)) rfl rfl rfl (hC.2.2.2.2.2.1.2.1 _ w1) (hC.w w4) hy (by rw [hrm]; exact hr.1), hC.w w2, trivial⟩ ⟨jPc_blind, fun U hU hW => ⟨rfl, ?_, by rw [hU]; exact hR⟩⟩ rfl hn hl.1 hst (lv_room h8) d (by rw [hrm]; exact hr.2)
  rw [hU]
  exact (GI.at hC hS).warm hW
/-- a static method with handlers of its own -/
def CtX (G : JG) (y : MethodName) (cc : ByteArray) (nL : Nat) (ret : Option FieldType) (hh : List (Nat × Nat × Nat × Nat)) (fr lo mc ms : Nat) (as : List Value) (S : HS) (R : Option Value → HS → Prop) (RX : String → HS → Prop) : Prop :=
  ∀ l : Launch, l.stackTraces = false → vx_Met l y (.codeWith y cc nL ret hh :: wG) (jRm fr lo mc ms) (va_Pc as (jPc G S)) (jQc G R) (jXC G RX) mc ms (gA G)
theorem J_callSX {X : JX} {G : JG} {Q : State → Prop} {nL cs ss pc : Nat} {lv : List (Nat × Value)} {st st0 : List Value} {S : HS} {own : String} {cc : ByteArray} {ret : Option FieldType} {fr lo mc ms : Nat} (hC : JC X G own cc nL ret fr lo mc ms)
    {y : MethodName} {cy : ByteArray} {nL' : Nat} {ret' : Option FieldType} {hh : List (Nat × Nat × Nat × Nat)} {fr' lo' mc' ms' idx n : Nat} {as : List Value} {R : Option Value → HS → Prop} {RX : String → HS → Prop} (hM : CtX G y cy nL' ret' hh fr' lo' mc' ms' as S R RX)
    (w1 : Cond.methodLink own idx y ∈ wG) (w2 : Cond.static y ∈ wG) (w4 : Cond.initialized y.cls ∈ wG) (w5 : Cond.codeWith y cy nL' ret' hh ∈ wG) (hy : yOK y n) (hn : as.length = n)
    (hst : st0 = as.reverse ++ st) (h8 : (st.map fun v => v.category).sum ≤ 8) (hr : rOK fr lo mc ms cs ss nL' fr' lo' mc' ms') (d : decode cc pc = .ok (.invokestatic idx, 3))
    (kx : ∀ (E : String) (S' : HS), RX E S' → JT X G Q nL (cs + mc') (ss + ms') pc lv S' E)
    (kk : ∀ (v : Option Value) (S' : HS), R v S' → J X G Q nL (cs + mc') (ss + ms') (pc + 3) lv (v.toList ++ st) S') : J X G Q nL cs ss pc lv st0 S := by
  refine J_ofRun (a := as.toArray) (fun H locs ls hR hS hl => ?_) kx kk
  have hrm := hC.2.2.2.2.2.2.2.2.2
  refine vx_runSX (hh := hh) (As := as) (rest := st) ⟨hC.1, hC.2.1, hC.2.2.1, hC.2.2.2.1, hC.2.2.2.2.1⟩ (hM (xl X) hC.2.2.2.2.2.2.2.2.1) (vx_cwSW n hC.2.2.2.2.1 ?_ rfl rfl rfl hy (by rw [hrm]; exact hr.1)) ⟨jPc_blind, fun U hU hW => ⟨rfl, ?_, by rw [hU]; exact hR⟩⟩ rfl hn hl.1 hst (lv_room h8) d (by rw [hrm]; exact hr.2)
  · refine goodIn_wG (fun w hw => ?_)
    rcases List.mem_append.mp hw with h1 | h1
    · exact fa3 w1 w2 w4 w h1
    · rcases List.mem_cons.mp h1 with rfl | h2
      · exact w5
      · exact h2
  · rw [hU]
    exact (GI.at hC hS).warm hW
/-- Object.<init> does nothing -/
theorem J_objInit {X : JX} {G : JG} {Q : State → Prop} {nL cs ss pc : Nat} {lv : List (Nat × Value)} {st : List Value} {S : HS} {own : String} {cc : ByteArray} {ret : Option FieldType} {fr lo mc ms idx a : Nat} (hC : JC X G own cc nL ret fr lo mc ms)
    (w1 : Cond.methodLink own idx objectInit ∈ wG) (w2 : Cond.instanceMethod objectInit ∈ wG) (w3 : Cond.code objectInit ⟨#[0xb1]⟩ 1 none ∈ wG) (hf : 1 ≤ fr) (hlo : (st.map fun v => v.category).sum + 12 ≤ lo) (d : decode cc pc = .ok (.invokespecial idx, 3))
    (kk : J X G Q nL cs ss (pc + 3) lv st S) : J X G Q nL cs ss pc lv (.ref a :: st) S := by
  intro H locs ls hR hS hl
  have hrm := hC.2.2.2.2.2.2.2.2.2
  refine W.objInit hC.1 hC.2.1 hC.2.2.2.1 (hC.w w1) (hC.w w2) (hC.w w3) rfl (by rw [hC.2.2.1]; exact hl.1) rfl d (by rw [hrm]; exact hf) (by rw [hrm]; show 2 * 0 + _ + 12 ≤ lo; omega) ?_
  refine W.eq (g2 := F0 _ (pc + 3) ls st) rfl ?_
  exact kk H locs ls hR hS hl
theorem JT_out {X : JX} {G : JG} {nL cs ss pc : Nat} {lv : List (Nat × Value)} {S : HS} {own : String} {cc : ByteArray} {ret : Option FieldType} {fr lo mc ms : Nat} {E : String} {R : Option Value → HS → Prop} {RX : String → HS → Prop} (hC : JC X G own cc nL ret fr lo mc ms) (hout : ∀ x ∈ (xc X).exceptionTable.toList, covers x pc = false)
    (h : RX E S) (h1 : cs ≤ mc) (h2 : ss ≤ ms) : JT X G (QQ X G R RX mc ms) nL cs ss pc lv S E := by
  intro H locs ls rest ce q hR hS hl hce hcv hcl
  exact vx_out hout hC.2.2.2.2.2.2.1 hce hcv hcl (fun t ht _ => ⟨⟨S, h, by rw [ht]; exact hR⟩, hS.F ht⟩) hS.2.2 h1 h2
theorem JT_catch {X : JX} {G : JG} {Q : State → Prop} {nL cs ss pc : Nat} {lv : List (Nat × Value)} {S : HS} {own : String} {cc : ByteArray} {ret : Option FieldType} {fr lo mc ms : Nat} {E name : String} (hC : JC X G own cc nL ret fr lo mc ms)
    (pre : List ExceptionTableEntry) (x : ExceptionTableEntry) (suf : List ExceptionTableEntry) (hsplit : (xc X).exceptionTable.toList = pre ++ x :: suf)
    (hpass : ∀ z ∈ pre, covers z pc = false ∨ (z.catchType ≠ 0 ∧ ∃ nm : String, Cond.classLink own z.catchType nm ∈ wG ∧ (E, nm) ∈ ncsG)) (hx : covers x pc = true) (h0 : x.catchType ≠ 0)
    (hlink : Cond.classLink own x.catchType name ∈ wG) (hcast : Cond.castable E name ∈ wN) (kk : ∀ q : Nat, J X G Q nL cs ss x.handlerPc lv [.ref q] S) : JT X G Q nL cs ss pc lv S E := by
  intro H locs ls rest ce q hR hS hl hce hcv hcl
  refine vx_catch hC.2.2.2.1 pre x suf hsplit (fun z hz => ?_) hx h0 (hC.w hlink) (va_Nw.use rfl (hC.2.2.2.2.2.1.2.1 _ hcast)) hce hcv hcl (kk q H locs ls hR hS hl)
  rcases hpass z hz with h | ⟨h9, nm, h1, h2⟩
  · exact Or.inl h
  · exact Or.inr ⟨h9, nm, hC.w h1, hC.2.2.2.2.2.1.2.2.1 _ h2⟩
theorem CtX.of {G : JG} {y : MethodName} {cc : ByteArray} {nL : Nat} {ret : Option FieldType} {hh : List (Nat × Nat × Nat × Nat)} {fr lo mc ms : Nat} {as : List Value} {S : HS} {R : Option Value → HS → Prop} {RX : String → HS → Prop} (hy : plainName y.cls = true) (hn : (lg_sl as).length ≤ nL)
    (body : ∀ X : JX, JC X G y.cls cc nL ret fr lo mc ms → (xc X).exceptionTable.toList = tableOf hh → J X G (QQ X G R RX mc ms) nL 0 0 0 (lv_args 0 as) [] S) : CtX G y cc nL ret hh fr lo mc ms as S R RX := by
  intro l hl
  refine vx_ofWH (cc := cc) (maxL := nL) (ret := ret) (hh := hh) hy rfl ?_
  intro p e s m args below meth c s₁ B hml hv
  obtain ⟨rfl, hG, hR⟩ := hv
  have hts := atoms_spec (ws := .codeWith y cc nL ret hh :: wG) B.pre
  have hown : s.vm.findClass y.cls = some m.cls := findClass_of_methodNamed B.named
  have K := body (p, l, e, jRm fr lo mc ms, s, m, as.toArray, below, meth, c) ⟨B.exec, B.bytes, hml, hown, fun w hw => hts w (List.mem_cons_of_mem _ hw), hG, B.notSynchronized, B.returns, hl, rfl⟩ (vx_table (x := y) B (hts _ List.mem_cons_self))
  rw [lg_entry_eq]
  exact K s.heap [] _ hR va_S.rf (lv_entry as hn)
def atOK (L : List Cond) : Bool := L.all (fun w => decide (w ∈ lw_tbl) && (goodWord w || nestish w) && vx_ot w)
theorem at_before {X : JX} {G : JG} {own : String} {cc : ByteArray} {ret : Option FieldType} {nL fr lo mc ms : Nat} (hC : JC X G own cc nL ret fr lo mc ms) {L : List Cond} (h : atOK L = true) : ∀ w ∈ L, w.before (xa X) (xs X) = true := by
  intro w hw
  have h1 := List.all_eq_true.mp h w hw
  simp only [Bool.and_eq_true, decide_eq_true_eq, Bool.or_eq_true] at h1
  obtain ⟨⟨h2, h3⟩, h4⟩ := h1
  rcases h3 with h3 | h3
  · exact hC.w (List.mem_filter.mpr ⟨h2, h3⟩)
  · exact va_Nw.use (by cases w <;> first | rfl | cases h3) (hC.2.2.2.2.2.1.2.1 _ (List.mem_filter.mpr ⟨h2, h3⟩))
theorem at_ot {L : List Cond} (h : atOK L = true) : ∀ w ∈ L, vx_ot w = true := by
  intro w hw
  have h1 := List.all_eq_true.mp h w hw
  simp only [Bool.and_eq_true] at h1
  exact h1.2
theorem XC_hx {X : JX} {G : JG} {E : String} {RX : String → HS → Prop} {S : HS} {H : Heap} {locs : List Loc} (h : RX E S) (hR : Rep G S H) (hS : va_S (gA G) (xs X).heap H locs) : ∀ t : State, (xs X).vm.Alike t.vm → H.size ≤ t.heap.size → (∀ q : Nat, q < H.size → t.heap[q]? = H[q]?) → jXC G RX E (xs X) t :=
  fun t _ hz hq => ⟨⟨S, h, hR.kept hq⟩, Nat.le_trans hS.1 hz, fun q h1 h2 => (hq q (Nat.lt_of_lt_of_le h1 hS.1)).trans (hS.2.1 q h1 h2)⟩
theorem J_throwS {X : JX} {G : JG} {nL cs ss pc : Nat} {lv : List (Nat × Value)} {st : List Value} {S : HS} {own : String} {cc : ByteArray} {ret : Option FieldType} {fr lo mc ms : Nat} {R : Option Value → HS → Prop} {RX : String → HS → Prop} (hC : JC X G own cc nL ret fr lo mc ms) (hT : noT X)
    {cls text : String} {names : List String} {ik is ic : Nat} (hcls : Bundle.fit cls = true) (hnames : ∀ n ∈ names, Bundle.fit n = true) (hk : Cond.classLink own ik cls ∈ wG) (hini : Cond.initialized cls ∈ wG) (hstr : (own, is, text) ∈ strG) (hat : atOK (vx_atS own ic cls names) = true)
    (d0 : decode cc pc = .ok (.new ik, 3)) (d3 : decode cc (pc + 3) = .ok (.dup, 1)) (d4 : decode cc (pc + 4) = .ok (.ldc is, 2)) (d6 : decode cc (pc + 6) = .ok (.invokespecial ic, 3)) (d9 : decode cc (pc + 9) = .ok (.athrow, 1))
    (hf : names.length + 3 < fr) (hlo : (st.map fun v => v.category).sum + (13 * (names.length + 1) + 43) ≤ lo) (h1 : cs + 1 ≤ mc) (h2 : ss + 6 ≤ ms) (h : RX cls S) : J X G (QQ X G R RX mc ms) nL cs ss pc lv st S := by
  intro H locs ls hR hS hl
  have hrm := hC.2.2.2.2.2.2.2.2.2
  have hg := hC.2.2.2.2.2.1
  obtain ⟨sa, hsa⟩ := hg.2.2.2.1 _ hstr
  refine vx_throwS (A := gA G) (names := names) hC.1 hC.2.1 hC.2.2.2.2.2.2.2.2.1 hC.2.2.2.1 hcls hnames (hC.w hk) (hC.w hini) hsa (at_before hC hat) ?_ hg.2.2.2.2.1 hg.2.2.2.2.2.1 hS (hl.1.trans hC.2.2.1.symm) d0 d3 d4 d6 d9 (fun x hx => (hT x hx).elim) (by rw [hrm]; exact hf) (by rw [hrm]; exact hlo) (by rw [hrm]; exact h1) (by rw [hrm]; exact h2) hC.2.2.2.2.2.2.1 (XC_hx h hR hS) hS.2.2 h1 h2
  intro w hw
  rcases List.mem_cons.mp hw with rfl | hw
  · rfl
  · rcases List.mem_cons.mp hw with rfl | hw
    · rfl
    · exact at_ot hat w hw
theorem J_throwSW {X : JX} {G : JG} {nL cs ss pc : Nat} {lv : List (Nat × Value)} {st : List Value} {S : HS} {own : String} {cc : ByteArray} {ret : Option FieldType} {fr lo mc ms : Nat} {R : Option Value → HS → Prop} {RX : String → HS → Prop} (hC : JC X G own cc nL ret fr lo mc ms) (hT : noT X)
    {cls text : String} {names : List String} {ik is ic : Nat} (hcls : Bundle.fit cls = true) (hnames : ∀ n ∈ names, Bundle.fit n = true) (hk : Cond.classLink own ik cls ∈ wG) (hini : Cond.initialized cls ∈ wG) (hstr : (own, is, text) ∈ strG) (hat : atOK (vx_atS own ic cls names) = true)
    (d0 : decode cc pc = .ok (.new ik, 3)) (d3 : decode cc (pc + 3) = .ok (.dup, 1)) (d4 : decode cc (pc + 4) = .ok (.ldc_w is, 3)) (d6 : decode cc (pc + 7) = .ok (.invokespecial ic, 3)) (d9 : decode cc (pc + 10) = .ok (.athrow, 1))
    (hf : names.length + 3 < fr) (hlo : (st.map fun v => v.category).sum + (13 * (names.length + 1) + 43) ≤ lo) (h1 : cs + 1 ≤ mc) (h2 : ss + 6 ≤ ms) (h : RX cls S) : J X G (QQ X G R RX mc ms) nL cs ss pc lv st S := by
  intro H locs ls hR hS hl
  have hrm := hC.2.2.2.2.2.2.2.2.2
  have hg := hC.2.2.2.2.2.1
  obtain ⟨sa, hsa⟩ := hg.2.2.2.1 _ hstr
  refine vx_throwSW (A := gA G) (names := names) hC.1 hC.2.1 hC.2.2.2.2.2.2.2.2.1 hC.2.2.2.1 hcls hnames (hC.w hk) (hC.w hini) hsa (at_before hC hat) ?_ hg.2.2.2.2.1 hg.2.2.2.2.2.1 hS (hl.1.trans hC.2.2.1.symm) d0 d3 d4 d6 d9 (fun x hx => (hT x hx).elim) (by rw [hrm]; exact hf) (by rw [hrm]; exact hlo) (by rw [hrm]; exact h1) (by rw [hrm]; exact h2) hC.2.2.2.2.2.2.1 (XC_hx h hR hS) hS.2.2 h1 h2
  intro w hw
  rcases List.mem_cons.mp hw with rfl | hw
  · rfl
  · rcases List.mem_cons.mp hw with rfl | hw
    · rfl
    · exact at_ot hat w hw
