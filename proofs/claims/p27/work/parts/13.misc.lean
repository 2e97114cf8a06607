/-! ends by type, and what else stands alone -/
theorem J_iretI {X : JX} {G : JG} {nL cs ss pc : Nat} {lv : List (Nat × Value)} {S : HS} {own : String} {cc : ByteArray} {fr lo mc ms : Nat} {v : Int32} {P : Int32 → HS → Prop} {RX : String → HS → Prop} (hC : JC X G own cc nL (some .int) fr lo mc ms) (d : decode cc pc = .ok (.ireturn, 1)) (h1 : cs ≤ mc) (h2 : ss ≤ ms) (h : P v S) : J X G (QQ X G (rI P) RX mc ms) nL cs ss pc lv [.int v] S := J_iret hC d h1 h2 ⟨v, rfl, h⟩
theorem J_zretI {X : JX} {G : JG} {nL cs ss pc : Nat} {lv : List (Nat × Value)} {S : HS} {own : String} {cc : ByteArray} {fr lo mc ms : Nat} {v : Int32} {P : Int32 → HS → Prop} {RX : String → HS → Prop} (hC : JC X G own cc nL (some .boolean) fr lo mc ms) (d : decode cc pc = .ok (.ireturn, 1)) (hn : narrow .boolean (.int v) = .int v) (h1 : cs ≤ mc) (h2 : ss ≤ ms) (h : P v S) : J X G (QQ X G (rI P) RX mc ms) nL cs ss pc lv [.int v] S := J_zret hC d hn h1 h2 ⟨v, rfl, h⟩
theorem J_lretI {X : JX} {G : JG} {nL cs ss pc : Nat} {lv : List (Nat × Value)} {S : HS} {own : String} {cc : ByteArray} {fr lo mc ms : Nat} {v : Int64} {P : Int64 → HS → Prop} {RX : String → HS → Prop} (hC : JC X G own cc nL (some .long) fr lo mc ms) (d : decode cc pc = .ok (.lreturn, 1)) (h1 : cs ≤ mc) (h2 : ss ≤ ms) (h : P v S) : J X G (QQ X G (rL P) RX mc ms) nL cs ss pc lv [.long v] S := J_lret hC d h1 h2 ⟨v, rfl, h⟩
theorem J_dretI {X : JX} {G : JG} {nL cs ss pc : Nat} {lv : List (Nat × Value)} {S : HS} {own : String} {cc : ByteArray} {fr lo mc ms : Nat} {v : UInt64} {P : UInt64 → HS → Prop} {RX : String → HS → Prop} (hC : JC X G own cc nL (some .double) fr lo mc ms) (d : decode cc pc = .ok (.dreturn, 1)) (h1 : cs ≤ mc) (h2 : ss ≤ ms) (h : P v S) : J X G (QQ X G (rD P) RX mc ms) nL cs ss pc lv [.double v] S := J_dret hC d h1 h2 ⟨v, rfl, h⟩
theorem J_vretI {X : JX} {G : JG} {nL cs ss pc : Nat} {lv : List (Nat × Value)} {S : HS} {own : String} {cc : ByteArray} {fr lo mc ms : Nat} {P : HS → Prop} {RX : String → HS → Prop} (hC : JC X G own cc nL none fr lo mc ms) (d : decode cc pc = .ok (.return_, 1)) (h1 : cs ≤ mc) (h2 : ss ≤ ms) (h : P S) : J X G (QQ X G (rV P) RX mc ms) nL cs ss pc lv [] S := J_vret hC d h1 h2 ⟨rfl, h⟩
theorem J_aretI {X : JX} {G : JG} {nL cs ss pc : Nat} {lv : List (Nat × Value)} {S : HS} {own : String} {cc : ByteArray} {fr lo mc ms : Nat} {a : Nat} {rt : FieldType} {P : Nat → HS → Prop} {RX : String → HS → Prop} (hC : JC X G own cc nL (some rt) fr lo mc ms) (d : decode cc pc = .ok (.areturn, 1)) (hrt : (∃ n, rt = .object n) ∨ ∃ t, rt = .array t) (h1 : cs ≤ mc) (h2 : ss ≤ ms) (h : P a S) : J X G (QQ X G (rA P) RX mc ms) nL cs ss pc lv [.ref a] S := J_aret hC d hrt h1 h2 ⟨a, rfl, h⟩
theorem J_ldcw {X : JX} {G : JG} {Q : State → Prop} {nL cs ss pc : Nat} {lv : List (Nat × Value)} {st : List Value} {S : HS} {own : String} {cc : ByteArray} {ret : Option FieldType} {fr lo mc ms : Nat} {i : Nat} {v : Int32} (hC : JC X G own cc nL ret fr lo mc ms) (d : decode cc pc = .ok (.ldc_w i, 3)) (hw : Cond.constant own i v ∈ wG)
    (k : J X G Q nL cs ss (pc + 3) lv (.int v :: st) S) : J X G Q nL cs ss pc lv st S := by
  intro H locs ls hR hS hl
  exact lv_ldcw hC.1 hC.2.1 hC.2.2.2.1 (hC.w hw) d (k H locs ls hR hS hl)
theorem J_ifnonnullN {X : JX} {G : JG} {Q : State → Prop} {nL cs ss pc : Nat} {lv : List (Nat × Value)} {st : List Value} {S : HS} {own : String} {cc : ByteArray} {ret : Option FieldType} {fr lo mc ms : Nat} {off : Int} (hC : JC X G own cc nL ret fr lo mc ms) (d : decode cc pc = .ok (.ifnonnull off, 3))
    (k : J X G Q nL cs ss (pc + 3) lv st S) : J X G Q nL cs ss pc lv (.null :: st) S := by
  intro H locs ls hR hS hl
  exact lv_ifnonnullN hC.1 hC.2.1 d (k H locs ls hR hS hl)
theorem J_castT {X : JX} {G : JG} {Q : State → Prop} {nL cs ss pc : Nat} {lv : List (Nat × Value)} {st : List Value} {S : HS} {cc : ByteArray} {ret : Option FieldType} {fr lo mc ms a : Nat} (hC : JC X G RX5 cc nL ret fr lo mc ms) (h : hK S a = 6) (d : decode cc pc = .ok (.checkcast 107, 3))
    (k : J X G Q nL cs ss (pc + 3) lv (.ref a :: st) S) : J X G Q nL cs ss pc lv (.ref a :: st) S := by
  intro H locs ls hR hS hl
  exact va_castS hC.1 hC.2.1 hC.2.2.2.1 (hC.w (w := .classLink RX5 107 RX4) (mG 269 (by decide +kernel) rfl)) (hC.k.1 5 (RX4, TX4, 12) rfl).2 (va_recv (q0 := 0) (ci := 5) hC.k (hR.one (hob_of h)) (q := (RX4, TX4, 12)) rfl rfl) d (k H locs ls hR hS hl)
/-- a contract's start for the JDK's own methods: no native entry stands for the method -/
theorem Ct.ofF {G : JG} {y : MethodName} {cc : ByteArray} {nL : Nat} {ret : Option FieldType} {fr lo mc ms : Nat} {as : List Value} {S : HS} {R : Option Value → HS → Prop} {RX : String → HS → Prop} (hy : plainFor y = true) (hn : (lg_sl as).length ≤ nL)
    (body : ∀ X : JX, JC X G y.cls cc nL ret fr lo mc ms → noT X → (xt X).name = y.name → J X G (QQ X G R RX mc ms) nL 0 0 0 (lv_args 0 as) [] S) : Ct G y cc nL ret fr lo mc ms as S R RX := by
  intro l hl
  refine MetFree.of_bodySF (code := cc) (maxLocals := nL) (ret := ret) hy ?_ ?_
  · intro args s m h hn
    obtain ⟨meth, c, h1, h2, h3, h4, h5, h6, -, -⟩ := Cond.code_spec hn (atoms_spec (ws := .code y cc nL ret :: wG) h _ List.mem_cons_self)
    exact ⟨meth, c, h1, h2, h3, h4, h5, h6⟩
  · intro p e s m args below meth c s₁ B hml hv _
    obtain ⟨rfl, hG, hR⟩ := hv
    have hh0 : s₁.heap = s.heap := by rw [B.state]; rfl
    have hts := atoms_spec (ws := .code y cc nL ret :: wG) B.pre
    have ht : ∀ x ∈ c.exceptionTable.toList, False := by
      obtain ⟨meth9, c9, h1, h2, -, -, -, -, h7, -⟩ := Cond.code_spec B.named (hts _ List.mem_cons_self)
      cases Option.some.inj (h1.symm.trans B.method)
      cases Option.some.inj (h2.symm.trans (Stand.of_body B).code)
      intro x hx
      rw [Array.isEmpty_iff.mp h7] at hx
      cases hx
    have hown : s.vm.findClass y.cls = some m.cls := findClass_of_methodNamed B.named
    have hin : meth.name = y.name := (name_of_methodNamed B.named B.method).1
    have K := body (p, l, e, jRm fr lo mc ms, s, m, as.toArray, below, meth, c) ⟨B.exec, B.bytes, hml, hown, fun w hw => hts w (List.mem_cons_of_mem _ hw), hG, B.notSynchronized, B.returns, hl, rfl⟩ ht hin
    have K2 := K s.heap [] _ hR va_S.rf (lv_entry as hn)
    obtain ⟨t, a1, o, b1, b2, b3⟩ := K2 s₁ hh0 (Stand.of_body B)
    rw [lg_entry_eq]
    exact ⟨t, o, a1, b1, b2, b3⟩
/-! the sky's numbers -/
def iabs (x : Int32) : Int32 := if 0 ≤ x then x else -x
def bI (c : Prop) [Decidable c] : Int32 := if c then 1 else 0
def snT (d : Int32) : Int32 := im (im d 360 + 360) 360
def snH (d : Int32) : Int32 := im (snT d) 180
def snA (d : Int32) : Int32 := snH d * (180 - snH d)
def snZ (d : Int32) : Int32 := if 40500 - snA d ≤ 0 then 0 else 4000 * snA d / (40500 - snA d)
/-- the sine in thousandths -/
def sn (d : Int32) : Int32 := if 180 ≤ snT d then -(snZ d) else snZ d
def cl4 (s1 c1 s2 c2 cosine : Int32) : Int32 := (s1 * s2 + c1 * c2 / 1000 * cosine) / 1000
/-- height or nearness by two declinations and an angle -/
def mx (one other angle : Int32) : Int32 := cl4 (sn one) (sn (one + 90)) (sn other) (sn (other + 90)) (sn (angle + 90))
def nearV (r1 d1 r2 d2 : Int32) : Int32 := mx d1 d2 (iabs (r1 - r2) / 4)
def angV (start night t rise : Int32) : Int32 := im (im (start + 4 * night + t) 1440 - rise + 1440) 1440 / 4
def lightV (age : Int32) : Int32 := 100 - 100 * iabs (age - 15) / 15
def fmV (x y : Int32) : Int32 := if 0 ≤ x ^^^ y then im x y else if im x y = 0 then im x y else im x y + y
