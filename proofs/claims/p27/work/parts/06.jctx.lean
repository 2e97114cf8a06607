/-- words that move with the tables, but not by 'keeps' -/
def nestish : Cond → Bool
  | .methodLinkNest .. => true
  | .castable .. => true
  | .declares .. => true
  | _ => false
def wN : List Cond := lw_tbl.filter nestish
theorem mN {w : Cond} (k : Nat) (h : lw_tbl[k]? = some w) (g : nestish w = true) : w ∈ wN := List.mem_filter.mpr ⟨List.mem_of_getElem? h, g⟩
def tysG (G : JG) : List (ClassId × FieldType) := [(gC G 0, .int), (gC G 1, .boolean), (gC G 2, .object "java/lang/Object"), (gC G 3, .array .int)]
/-- exceptions that a row of another class doesn't catch -/
def ncsG : List (String × String) := []
theorem va_AOA.moved {t : FieldType} {u U : State} (hvm : u.vm.Alike U.vm) (h : va_AOA t u) : va_AOA t U := by
  have h1 : (Cond.arrayOver (.array t)).before #[] (u.setVm U.vm) = true := (Cond.arrayOver_setVmC hvm (.array t)).trans h
  exact h1
def strWord : Cond → Option (String × Nat × String)
  | .stringRef o k t => some (o, k, t)
  | _ => none
def strG : List (String × Nat × String) := tables_1.filterMap strWord
abbrev dAL : String := "[Ljava/lang/Object;"
/-- an empty array of objects that was there before: nothing is said of its monitor, its hash -/
def E0 (a : Nat) (U : State) (H : Heap) : Prop := ∃ cell : Cell, H[a]? = some cell ∧ U.isArrayOf cell (.object "java/lang/Object") ∧ cell.slots.size = 0
theorem E0.moved {a : Nat} {u U : State} {H : Heap} (hvm : u.vm.Alike U.vm) (h : E0 a u H) : E0 a U H := by
  obtain ⟨cell, h1, h2, h3⟩ := h
  exact ⟨cell, h1, State.isArrayOf_alike hvm h2, h3⟩
theorem E0.lt {a : Nat} {U : State} {H : Heap} (h : E0 a U H) : a < H.size := by
  obtain ⟨cell, h1, -⟩ := h
  exact (Array.getElem?_eq_some_iff.mp h1).1
theorem E0.kept {a : Nat} {U : State} {H H1 : Heap} (h : E0 a U H) (hq : H1[a]? = H[a]?) : E0 a U H1 := by
  obtain ⟨cell, h1, h2, h3⟩ := h
  exact ⟨cell, hq.trans h1, h2, h3⟩
/-- the law's script lies below the base -/
def ScI (G : JG) (U : State) (H : Heap) : Prop := va_X (gScr G) (gLen G) (gInt G) U H ∧ gScr G < H.size ∧ ¬ gA G (gScr G)
theorem ScI.moved {G : JG} {u U : State} {H : Heap} (hvm : u.vm.Alike U.vm) (h : ScI G u H) : ScI G U H := by
  obtain ⟨⟨scr, h1, h2, h3⟩, h4⟩ := h
  exact ⟨⟨scr, h1, State.isArrayOf_alike hvm h2, h3⟩, h4⟩
theorem ScI.kept {G : JG} {U : State} {H H1 : Heap} (h : ScI G U H) (hz : H.size ≤ H1.size) (hq : ∀ a : Nat, a < H.size → ¬ gA G a → H1[a]? = H[a]?) : ScI G U H1 := by
  obtain ⟨⟨scr, h1, h2⟩, h4, h5⟩ := h
  exact ⟨⟨scr, (hq _ h4 h5).trans h1, h2⟩, Nat.lt_of_lt_of_le h4 hz, h5⟩
/-- what every walk may ask of the machine's tables and of the cells below the base -/
def GI (G : JG) (U : State) (H : Heap) : Prop :=
  va_K (gD G) vwCl (tysG G) U ∧ (∀ w ∈ wN, va_Nw w U) ∧ (∀ q ∈ ncsG, va_Nc q.1 q.2 U) ∧ (∀ q ∈ strG, ∃ a : Nat, vk_R q.1 q.2.1 q.2.2 a U) ∧
  vx_Zq Bundle.tN "UNASSIGNED_STACK" Bundle.steD (gA G) U H ∧ vx_Zq Bundle.tN "SUPPRESSED_SENTINEL" Bundle.listD (gA G) U H ∧
  va_Z "java/util/ArrayList" "DEFAULTCAPACITY_EMPTY_ELEMENTDATA" dAL (.ref (gE G)) (gA G) U H ∧ E0 (gE G) U H ∧ ¬ gA G (gE G) ∧ va_Mi "[Ljava/lang/Object;" (gM G) U ∧ va_AO "java/lang/Object" U ∧ va_AOA .int U ∧ ScI G U H ∧ gB G ≤ H.size
theorem GI.same {G : JG} {u U : State} {H : Heap} (hv : u.vm = U.vm) (h : GI G u H) : GI G U H := by
  obtain ⟨h1, h2, h3, h4, h5, h6, h7, h8, h9, h10, h11, h12, h13, h14⟩ := h
  have ha : u.vm.Alike U.vm := hv ▸ Vm.Alike.refl _
  refine ⟨h1.moved ha, fun w hw => ?_, fun q hq => (h3 q hq).moved ha, fun q hq => ?_, h5.moved ha, h6.moved ha, h7.moved ha, h8.moved ha, h9, h10.moved ha, h11.moved ha, h12.moved ha, h13.moved ha, h14⟩
  · have hn := (List.mem_filter.mp hw).2
    have ho : w.onTables = true := by cases w <;> first | rfl | cases hn
    exact va_Nw.same ho hv (h2 w hw)
  · obtain ⟨a, ha⟩ := h4 q hq
    exact ⟨a, vk_R.same hv.symm ha⟩
theorem GI.warm {G : JG} {s U : State} {H : Heap} (hW : s.WarmedH U.vm) (h : GI G s H) : GI G U H := by
  obtain ⟨h1, h2, h3, h4, h5, h6, h7, h8, h9, h10, h11, h12, h13, h14⟩ := h
  have ha : s.vm.Alike U.vm := hW.alike
  refine ⟨h1.moved ha, fun w hw => ?_, fun q hq => (h3 q hq).moved ha, fun q hq => ?_, h5.moved ha, h6.moved ha, h7.moved ha, h8.moved ha, h9, h10.moved ha, h11.moved ha, h12.moved ha, h13.moved ha, h14⟩
  · have hn := (List.mem_filter.mp hw).2
    have hz := h2 w hw
    cases w with
    | methodLinkNest a i x h => exact va_Nw.warmM hW hz
    | declares x => exact va_tabs (U := U) rfl (rfl : (s.setVm U.vm).vm = U.vm) ((Cond.declares_setVm (args := #[]) ha x).trans hz)
    | castable c t => exact va_tabs (U := U) rfl (rfl : (s.setVm U.vm).vm = U.vm) ((Cond.castable_setVm (args := #[]) ha c t).trans hz)
    | _ => cases hn
  · obtain ⟨a, ha⟩ := h4 q hq
    exact ⟨a, vk_R.warm hW ha⟩
theorem GI.base {G : JG} {U : State} {H : Heap} (h : GI G U H) : gB G ≤ H.size := h.2.2.2.2.2.2.2.2.2.2.2.2.2
theorem GI.kept {G : JG} {U : State} {H H1 : Heap} (h : GI G U H) (hz : H.size ≤ H1.size) (hq : ∀ a : Nat, a < H.size → ¬ gA G a → H1[a]? = H[a]?) : GI G U H1 := by
  obtain ⟨h1, h2, h3, h4, h5, h6, h7, h8, h9, h10, h11, h12, h13, h14⟩ := h
  exact ⟨h1, h2, h3, h4, h5.kept hq, h6.kept hq, h7.kept hq, h8.kept (hq _ h8.lt h9), h9, h10, h11, h12, h13.kept hz hq, Nat.le_trans h14 hz⟩
def jPc (G : JG) (S : HS) : State → Prop := fun U => GI G U U.heap ∧ Rep G S U.heap
theorem jPc_blind {G : JG} {S : HS} {as : List Value} : FrameBlind (va_Pc as (jPc G S)) := fun _ U g mk h => ⟨h.1, GI.same (u := U) rfl (show GI G U U.heap from h.2.1), (show Rep G S U.heap from h.2.2)⟩
def jQc (G : JG) (R : Option Value → HS → Prop) : Array Value → State → Outcome → State → Prop := fun _ st o t => (∃ (v : Option Value) (S' : HS), o = .returned v ∧ R v S' ∧ Rep G S' t.heap) ∧ va_F (gA G) st t
def jXC (G : JG) (RX : String → HS → Prop) : String → State → State → Prop := fun E st t => (∃ S' : HS, RX E S' ∧ Rep G S' t.heap) ∧ va_F (gA G) st t
abbrev jRm (fr lo mc ms : Nat) : Room := { frames := fr, cells := mc, slots := ms, locals := lo }
/-- a method's contract: from S, with these arguments, it returns as R says or throws as RX says; nothing below the base changes -/
def Ct (G : JG) (y : MethodName) (cc : ByteArray) (nL : Nat) (ret : Option FieldType) (fr lo mc ms : Nat) (as : List Value) (S : HS) (R : Option Value → HS → Prop) (RX : String → HS → Prop) : Prop :=
  ∀ l : Launch, l.stackTraces = false → vx_Met l y (.code y cc nL ret :: wG) (jRm fr lo mc ms) (va_Pc as (jPc G S)) (jQc G R) (jXC G RX) mc ms (gA G)
def noX : String → HS → Prop := fun _ _ => False
theorem jXC_no {G : JG} {E : String} {st t : State} (h : jXC G noX E st t) : False := by
  obtain ⟨⟨_, h, _⟩, _⟩ := h
  exact h
theorem Ct.met {G : JG} {y : MethodName} {cc : ByteArray} {nL : Nat} {ret : Option FieldType} {fr lo mc ms : Nat} {as : List Value} {S : HS} {R : Option Value → HS → Prop} (h : Ct G y cc nL ret fr lo mc ms as S R noX) (l : Launch) (hl : l.stackTraces = false) :
    Met l y (.code y cc nL ret :: wG) (jRm fr lo mc ms) (va_Pc as (jPc G S)) (jQc G R) mc ms (gA G) := by
  refine MetFree.mono (h l hl) (fun _ _ hp => hp) (fun _ _ _ _ _ hk => hk) ?_
  · intro a st o t hp hq
    rcases hq with h1 | ⟨q, -, E, ce, L, hx, -⟩
    · exact h1
    · exact (jXC_no hx).elim
abbrev JX : Type := Program × Launch × Env × Room × State × MethodId × Array Value × List Frame × Method × Code
abbrev xp (X : JX) : Program := X.1
abbrev xl (X : JX) : Launch := X.2.1
abbrev xe (X : JX) : Env := X.2.2.1
abbrev xR (X : JX) : Room := X.2.2.2.1
abbrev xs (X : JX) : State := X.2.2.2.2.1
abbrev xm (X : JX) : MethodId := X.2.2.2.2.2.1
abbrev xa (X : JX) : Array Value := X.2.2.2.2.2.2.1
abbrev xb (X : JX) : List Frame := X.2.2.2.2.2.2.2.1
abbrev xt (X : JX) : Method := X.2.2.2.2.2.2.2.2.1
abbrev xc (X : JX) : Code := X.2.2.2.2.2.2.2.2.2
/-- the method stands at pc with these locals, this stack, this heap; cs cells and ss slots are made so far -/
def J (X : JX) (G : JG) (Q : State → Prop) (nL : Nat) (cs ss pc : Nat) (lv : List (Nat × Value)) (st : List Value) (S : HS) : Prop :=
  ∀ (H : Heap) (locs : List Loc) (ls : Array Slot), Rep G S H → va_S (gA G) (xs X).heap H locs → lv_has ls nL lv →
    W (xp X) (xl X) (xe X) (xR X) (xs X) (xm X) (xa X) (xb X) (xt X) (xc X) H locs cs ss Q (F0 (xm X) pc ls st)
/-- .. with an exception of the class E over the frame -/
def JT (X : JX) (G : JG) (Q : State → Prop) (nL : Nat) (cs ss pc : Nat) (lv : List (Nat × Value)) (S : HS) (E : String) : Prop :=
  ∀ (H : Heap) (locs : List Loc) (ls : Array Slot) (rest : List Value) (ce : Cell) (q : Addr), Rep G S H → va_S (gA G) (xs X).heap H locs → lv_has ls nL lv → H[q]? = some ce → ce.vm = .none → (xs X).vm.findClass E = some ce.cls →
    vx_W (xp X) (xl X) (xe X) (xR X) (xs X) (xm X) (xa X) (xb X) (xt X) (xc X) H locs cs ss Q (F0 (xm X) pc ls rest) q
/-- what is fixed while a method runs -/
def JC (X : JX) (G : JG) (own : String) (cc : ByteArray) (nL : Nat) (ret : Option FieldType) (fr lo mc ms : Nat) : Prop :=
  (xp X).tables.exec = Jvm.exec ∧ (xc X).code = cc ∧ (xc X).maxLocals = nL ∧ (xs X).vm.findClass own = some (xm X).cls ∧ (∀ w ∈ wG, w.before (xa X) (xs X) = true) ∧ GI G (xs X) (xs X).heap ∧ (xt X).locks = false ∧ (xt X).sig.returnType = ret ∧ (xl X).stackTraces = false ∧ xR X = jRm fr lo mc ms
def QQ (X : JX) (G : JG) (R : Option Value → HS → Prop) (RX : String → HS → Prop) (mc ms : Nat) : State → Prop := vx_MQ (xb X) (jQc G R) (jXC G RX) (xa X) (xs X) mc ms (gA G)
def noT (X : JX) : Prop := ∀ x ∈ (xc X).exceptionTable.toList, False
theorem Ct.of {G : JG} {y : MethodName} {cc : ByteArray} {nL : Nat} {ret : Option FieldType} {fr lo mc ms : Nat} {as : List Value} {S : HS} {R : Option Value → HS → Prop} {RX : String → HS → Prop} (hy : plainName y.cls = true) (hn : (lg_sl as).length ≤ nL)
    (body : ∀ X : JX, JC X G y.cls cc nL ret fr lo mc ms → noT X → (xt X).name = y.name → J X G (QQ X G R RX mc ms) nL 0 0 0 (lv_args 0 as) [] S) : Ct G y cc nL ret fr lo mc ms as S R RX := by
  intro l hl
  refine vx_ofW (cc := cc) (maxL := nL) (ret := ret) hy rfl ?_
  intro p e s m args below meth c s₁ B hml ht hv
  obtain ⟨rfl, hG, hR⟩ := hv
  have hts := atoms_spec (ws := .code y cc nL ret :: wG) B.pre
  have hown : s.vm.findClass y.cls = some m.cls := findClass_of_methodNamed B.named
  have hin : meth.name = y.name := (name_of_methodNamed B.named B.method).1
  have K := body (p, l, e, jRm fr lo mc ms, s, m, as.toArray, below, meth, c) ⟨B.exec, B.bytes, hml, hown, fun w hw => hts w (List.mem_cons_of_mem _ hw), hG, B.notSynchronized, B.returns, hl, rfl⟩ ht hin
  rw [lg_entry_eq]
  exact K s.heap [] _ hR va_S.rf (lv_entry as hn)
