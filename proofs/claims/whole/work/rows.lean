section
-- ===== PART A: goes FIRST, ahead of the names: the tables' words, and 'selects' of the private methods out of them =====
/-- a private method of a class that the tables say can be made, by its rows of tables_1 -/
def lw_okq (q : MethodName × Nat) : Prop := (q.1.cls ≠ "java/lang/invoke/MethodHandle" ∧ q.1.cls ≠ "java/lang/invoke/VarHandle") ∧ Cond.instantiable q.1.cls q.2 ∈ tables_1 ∧ Cond.privateMethod q.1 ∈ tables_1 ∧ Cond.instanceMethod q.1 ∈ tables_1
theorem lw_p0 : lw_okq (⟨"SkyPlan", "settlePlan", "()V"⟩, 8) := ⟨⟨by decide +kernel, by decide +kernel⟩, List.mem_of_getElem? (i := 24) (by decide +kernel), List.mem_of_getElem? (i := 161) (by decide +kernel), List.mem_of_getElem? (i := 162) (by decide +kernel)⟩
theorem lw_p1 : lw_okq (⟨"SkyPlan", "survey", "(LSkyPlan$Target;)V"⟩, 8) := ⟨⟨by decide +kernel, by decide +kernel⟩, List.mem_of_getElem? (i := 24) (by decide +kernel), List.mem_of_getElem? (i := 188) (by decide +kernel), List.mem_of_getElem? (i := 189) (by decide +kernel)⟩
theorem lw_p2 : lw_okq (⟨"SkyPlan", "heightOf", "(LSkyPlan$Point;I)I"⟩, 8) := ⟨⟨by decide +kernel, by decide +kernel⟩, List.mem_of_getElem? (i := 24) (by decide +kernel), List.mem_of_getElem? (i := 199) (by decide +kernel), List.mem_of_getElem? (i := 200) (by decide +kernel)⟩
theorem lw_p3 : lw_okq (⟨"SkyPlan", "reasonAgainst", "(LSkyPlan$Target;II)I"⟩, 8) := ⟨⟨by decide +kernel, by decide +kernel⟩, List.mem_of_getElem? (i := 24) (by decide +kernel), List.mem_of_getElem? (i := 207) (by decide +kernel), List.mem_of_getElem? (i := 208) (by decide +kernel)⟩
theorem lw_p4 : lw_okq (⟨"SkyPlan", "moonLight", "()I"⟩, 8) := ⟨⟨by decide +kernel, by decide +kernel⟩, List.mem_of_getElem? (i := 24) (by decide +kernel), List.mem_of_getElem? (i := 221) (by decide +kernel), List.mem_of_getElem? (i := 222) (by decide +kernel)⟩
theorem lw_p5 : lw_okq (⟨"SkyPlan", "takeBest", "(I)I"⟩, 8) := ⟨⟨by decide +kernel, by decide +kernel⟩, List.mem_of_getElem? (i := 24) (by decide +kernel), List.mem_of_getElem? (i := 233) (by decide +kernel), List.mem_of_getElem? (i := 234) (by decide +kernel)⟩
theorem lw_p6 : lw_okq (⟨"SkyPlan", "meritAt", "(LSkyPlan$Target;I)I"⟩, 8) := ⟨⟨by decide +kernel, by decide +kernel⟩, List.mem_of_getElem? (i := 24) (by decide +kernel), List.mem_of_getElem? (i := 238) (by decide +kernel), List.mem_of_getElem? (i := 239) (by decide +kernel)⟩
theorem lw_p7 : lw_okq (⟨"SkyPlan", "blendTargets", "(J)J"⟩, 8) := ⟨⟨by decide +kernel, by decide +kernel⟩, List.mem_of_getElem? (i := 24) (by decide +kernel), List.mem_of_getElem? (i := 284) (by decide +kernel), List.mem_of_getElem? (i := 285) (by decide +kernel)⟩
theorem lw_p8 : lw_okq (⟨"SkyPlan", "blendPlan", "(J)J"⟩, 8) := ⟨⟨by decide +kernel, by decide +kernel⟩, List.mem_of_getElem? (i := 24) (by decide +kernel), List.mem_of_getElem? (i := 296) (by decide +kernel), List.mem_of_getElem? (i := 297) (by decide +kernel)⟩
theorem lw_p9 : lw_okq (⟨"java/lang/Throwable", "fillInStackTrace", "(I)Ljava/lang/Throwable;"⟩, 6) := ⟨⟨by decide +kernel, by decide +kernel⟩, List.mem_of_getElem? (i := 349) (by decide +kernel), List.mem_of_getElem? (i := 347) (by decide +kernel), List.mem_of_getElem? (i := 348) (by decide +kernel)⟩
theorem lw_p10 : lw_okq (⟨"SkyPlan", "forgetNight", "()V"⟩, 8) := ⟨⟨by decide +kernel, by decide +kernel⟩, List.mem_of_getElem? (i := 24) (by decide +kernel), List.mem_of_getElem? (i := 379) (by decide +kernel), List.mem_of_getElem? (i := 380) (by decide +kernel)⟩
theorem lw_p11 : lw_okq (⟨"SkyPlan", "clearMinutes", "()I"⟩, 8) := ⟨⟨by decide +kernel, by decide +kernel⟩, List.mem_of_getElem? (i := 24) (by decide +kernel), List.mem_of_getElem? (i := 431) (by decide +kernel), List.mem_of_getElem? (i := 432) (by decide +kernel)⟩
theorem lw_p12 : lw_okq (⟨"java/util/ArrayList", "add", "(Ljava/lang/Object;[Ljava/lang/Object;I)V"⟩, 3) := ⟨⟨by decide +kernel, by decide +kernel⟩, List.mem_of_getElem? (i := 79) (by decide +kernel), List.mem_of_getElem? (i := 543) (by decide +kernel), List.mem_of_getElem? (i := 544) (by decide +kernel)⟩
theorem lw_p13 : lw_okq (⟨"java/util/ArrayList", "grow", "()[Ljava/lang/Object;"⟩, 3) := ⟨⟨by decide +kernel, by decide +kernel⟩, List.mem_of_getElem? (i := 79) (by decide +kernel), List.mem_of_getElem? (i := 547) (by decide +kernel), List.mem_of_getElem? (i := 548) (by decide +kernel)⟩
theorem lw_p14 : lw_okq (⟨"java/util/ArrayList", "grow", "(I)[Ljava/lang/Object;"⟩, 3) := ⟨⟨by decide +kernel, by decide +kernel⟩, List.mem_of_getElem? (i := 79) (by decide +kernel), List.mem_of_getElem? (i := 551) (by decide +kernel), List.mem_of_getElem? (i := 552) (by decide +kernel)⟩
theorem lw_p15 : lw_okq (⟨"SkyPlan", "findTarget", "(I)LSkyPlan$Target;"⟩, 8) := ⟨⟨by decide +kernel, by decide +kernel⟩, List.mem_of_getElem? (i := 24) (by decide +kernel), List.mem_of_getElem? (i := 603) (by decide +kernel), List.mem_of_getElem? (i := 604) (by decide +kernel)⟩
def lw_privs_1 : List (MethodName × Nat) := [(⟨"SkyPlan", "settlePlan", "()V"⟩, 8), (⟨"SkyPlan", "survey", "(LSkyPlan$Target;)V"⟩, 8), (⟨"SkyPlan", "heightOf", "(LSkyPlan$Point;I)I"⟩, 8), (⟨"SkyPlan", "reasonAgainst", "(LSkyPlan$Target;II)I"⟩, 8), (⟨"SkyPlan", "moonLight", "()I"⟩, 8), (⟨"SkyPlan", "takeBest", "(I)I"⟩, 8), (⟨"SkyPlan", "meritAt", "(LSkyPlan$Target;I)I"⟩, 8), (⟨"SkyPlan", "blendTargets", "(J)J"⟩, 8), (⟨"SkyPlan", "blendPlan", "(J)J"⟩, 8), (⟨"java/lang/Throwable", "fillInStackTrace", "(I)Ljava/lang/Throwable;"⟩, 6), (⟨"SkyPlan", "forgetNight", "()V"⟩, 8), (⟨"SkyPlan", "clearMinutes", "()I"⟩, 8), (⟨"java/util/ArrayList", "add", "(Ljava/lang/Object;[Ljava/lang/Object;I)V"⟩, 3), (⟨"java/util/ArrayList", "grow", "()[Ljava/lang/Object;"⟩, 3), (⟨"java/util/ArrayList", "grow", "(I)[Ljava/lang/Object;"⟩, 3), (⟨"SkyPlan", "findTarget", "(I)LSkyPlan$Target;"⟩, 8)]
theorem lw_r1 : ∀ q ∈ lw_privs_1, lw_okq q := List.forall_mem_cons.mpr ⟨lw_p0, List.forall_mem_cons.mpr ⟨lw_p1, List.forall_mem_cons.mpr ⟨lw_p2, List.forall_mem_cons.mpr ⟨lw_p3, List.forall_mem_cons.mpr ⟨lw_p4, List.forall_mem_cons.mpr ⟨lw_p5, List.forall_mem_cons.mpr ⟨lw_p6, List.forall_mem_cons.mpr ⟨lw_p7, List.forall_mem_cons.mpr ⟨lw_p8, List.forall_mem_cons.mpr ⟨lw_p9, List.forall_mem_cons.mpr ⟨lw_p10, List.forall_mem_cons.mpr ⟨lw_p11, List.forall_mem_cons.mpr ⟨lw_p12, List.forall_mem_cons.mpr ⟨lw_p13, List.forall_mem_cons.mpr ⟨lw_p14, List.forall_mem_cons.mpr ⟨lw_p15, fun _ h => absurd h List.not_mem_nil⟩⟩⟩⟩⟩⟩⟩⟩⟩⟩⟩⟩⟩⟩⟩⟩
theorem lw_p16 : lw_okq (⟨"SkyPlan", "checkMinute", "(I)V"⟩, 8) := ⟨⟨by decide +kernel, by decide +kernel⟩, List.mem_of_getElem? (i := 24) (by decide +kernel), List.mem_of_getElem? (i := 642) (by decide +kernel), List.mem_of_getElem? (i := 643) (by decide +kernel)⟩
theorem lw_p17 : lw_okq (⟨"SkyPlan", "share", "(LSkyPlan$Target;I)I"⟩, 8) := ⟨⟨by decide +kernel, by decide +kernel⟩, List.mem_of_getElem? (i := 24) (by decide +kernel), List.mem_of_getElem? (i := 696) (by decide +kernel), List.mem_of_getElem? (i := 697) (by decide +kernel)⟩
theorem lw_p18 : lw_okq (⟨"SkyPlan", "beginNextNight", "()V"⟩, 8) := ⟨⟨by decide +kernel, by decide +kernel⟩, List.mem_of_getElem? (i := 24) (by decide +kernel), List.mem_of_getElem? (i := 720) (by decide +kernel), List.mem_of_getElem? (i := 721) (by decide +kernel)⟩
theorem lw_p19 : lw_okq (⟨"SkyPlanModel", "no", "(I)I"⟩, 26) := ⟨⟨by decide +kernel, by decide +kernel⟩, List.mem_of_getElem? (i := 732) (by decide +kernel), List.mem_of_getElem? (i := 829) (by decide +kernel), List.mem_of_getElem? (i := 830) (by decide +kernel)⟩
theorem lw_p20 : lw_okq (⟨"SkyPlanModel", "lightOf", "()I"⟩, 26) := ⟨⟨by decide +kernel, by decide +kernel⟩, List.mem_of_getElem? (i := 732) (by decide +kernel), List.mem_of_getElem? (i := 844) (by decide +kernel), List.mem_of_getElem? (i := 845) (by decide +kernel)⟩
theorem lw_p21 : lw_okq (⟨"SkyPlanModel", "isMinute", "(I)Z"⟩, 26) := ⟨⟨by decide +kernel, by decide +kernel⟩, List.mem_of_getElem? (i := 732) (by decide +kernel), List.mem_of_getElem? (i := 853) (by decide +kernel), List.mem_of_getElem? (i := 854) (by decide +kernel)⟩
theorem lw_p22 : lw_okq (⟨"SkyPlanModel", "isTarget", "(I)Z"⟩, 26) := ⟨⟨by decide +kernel, by decide +kernel⟩, List.mem_of_getElem? (i := 732) (by decide +kernel), List.mem_of_getElem? (i := 876) (by decide +kernel), List.mem_of_getElem? (i := 877) (by decide +kernel)⟩
theorem lw_p23 : lw_okq (⟨"SkyPlanModel", "told", "(II)I"⟩, 26) := ⟨⟨by decide +kernel, by decide +kernel⟩, List.mem_of_getElem? (i := 732) (by decide +kernel), List.mem_of_getElem? (i := 884) (by decide +kernel), List.mem_of_getElem? (i := 885) (by decide +kernel)⟩
theorem lw_p24 : lw_okq (⟨"SkyPlanModel", "heightOf", "(III)I"⟩, 26) := ⟨⟨by decide +kernel, by decide +kernel⟩, List.mem_of_getElem? (i := 732) (by decide +kernel), List.mem_of_getElem? (i := 892) (by decide +kernel), List.mem_of_getElem? (i := 893) (by decide +kernel)⟩
theorem lw_p25 : lw_okq (⟨"SkyPlanModel", "moonNear", "(I)I"⟩, 26) := ⟨⟨by decide +kernel, by decide +kernel⟩, List.mem_of_getElem? (i := 732) (by decide +kernel), List.mem_of_getElem? (i := 913) (by decide +kernel), List.mem_of_getElem? (i := 914) (by decide +kernel)⟩
theorem lw_p26 : lw_okq (⟨"SkyPlanModel", "moonHeightOf", "(I)I"⟩, 26) := ⟨⟨by decide +kernel, by decide +kernel⟩, List.mem_of_getElem? (i := 732) (by decide +kernel), List.mem_of_getElem? (i := 921) (by decide +kernel), List.mem_of_getElem? (i := 922) (by decide +kernel)⟩
theorem lw_p27 : lw_okq (⟨"SkyPlanModel", "reasonOf", "(II)I"⟩, 26) := ⟨⟨by decide +kernel, by decide +kernel⟩, List.mem_of_getElem? (i := 732) (by decide +kernel), List.mem_of_getElem? (i := 929) (by decide +kernel), List.mem_of_getElem? (i := 930) (by decide +kernel)⟩
theorem lw_p28 : lw_okq (⟨"SkyPlanModel", "windowOf", "(II)I"⟩, 26) := ⟨⟨by decide +kernel, by decide +kernel⟩, List.mem_of_getElem? (i := 732) (by decide +kernel), List.mem_of_getElem? (i := 937) (by decide +kernel), List.mem_of_getElem? (i := 938) (by decide +kernel)⟩
theorem lw_p29 : lw_okq (⟨"SkyPlanModel", "workOut", "()V"⟩, 26) := ⟨⟨by decide +kernel, by decide +kernel⟩, List.mem_of_getElem? (i := 732) (by decide +kernel), List.mem_of_getElem? (i := 941) (by decide +kernel), List.mem_of_getElem? (i := 942) (by decide +kernel)⟩
theorem lw_p30 : lw_okq (⟨"SkyPlanModel", "makePlan", "()V"⟩, 26) := ⟨⟨by decide +kernel, by decide +kernel⟩, List.mem_of_getElem? (i := 732) (by decide +kernel), List.mem_of_getElem? (i := 945) (by decide +kernel), List.mem_of_getElem? (i := 946) (by decide +kernel)⟩
theorem lw_p31 : lw_okq (⟨"SkyPlanModel", "isOpenNow", "(I)Z"⟩, 26) := ⟨⟨by decide +kernel, by decide +kernel⟩, List.mem_of_getElem? (i := 732) (by decide +kernel), List.mem_of_getElem? (i := 949) (by decide +kernel), List.mem_of_getElem? (i := 950) (by decide +kernel)⟩
def lw_privs_2 : List (MethodName × Nat) := [(⟨"SkyPlan", "checkMinute", "(I)V"⟩, 8), (⟨"SkyPlan", "share", "(LSkyPlan$Target;I)I"⟩, 8), (⟨"SkyPlan", "beginNextNight", "()V"⟩, 8), (⟨"SkyPlanModel", "no", "(I)I"⟩, 26), (⟨"SkyPlanModel", "lightOf", "()I"⟩, 26), (⟨"SkyPlanModel", "isMinute", "(I)Z"⟩, 26), (⟨"SkyPlanModel", "isTarget", "(I)Z"⟩, 26), (⟨"SkyPlanModel", "told", "(II)I"⟩, 26), (⟨"SkyPlanModel", "heightOf", "(III)I"⟩, 26), (⟨"SkyPlanModel", "moonNear", "(I)I"⟩, 26), (⟨"SkyPlanModel", "moonHeightOf", "(I)I"⟩, 26), (⟨"SkyPlanModel", "reasonOf", "(II)I"⟩, 26), (⟨"SkyPlanModel", "windowOf", "(II)I"⟩, 26), (⟨"SkyPlanModel", "workOut", "()V"⟩, 26), (⟨"SkyPlanModel", "makePlan", "()V"⟩, 26), (⟨"SkyPlanModel", "isOpenNow", "(I)Z"⟩, 26)]
theorem lw_r2 : ∀ q ∈ lw_privs_2, lw_okq q := List.forall_mem_cons.mpr ⟨lw_p16, List.forall_mem_cons.mpr ⟨lw_p17, List.forall_mem_cons.mpr ⟨lw_p18, List.forall_mem_cons.mpr ⟨lw_p19, List.forall_mem_cons.mpr ⟨lw_p20, List.forall_mem_cons.mpr ⟨lw_p21, List.forall_mem_cons.mpr ⟨lw_p22, List.forall_mem_cons.mpr ⟨lw_p23, List.forall_mem_cons.mpr ⟨lw_p24, List.forall_mem_cons.mpr ⟨lw_p25, List.forall_mem_cons.mpr ⟨lw_p26, List.forall_mem_cons.mpr ⟨lw_p27, List.forall_mem_cons.mpr ⟨lw_p28, List.forall_mem_cons.mpr ⟨lw_p29, List.forall_mem_cons.mpr ⟨lw_p30, List.forall_mem_cons.mpr ⟨lw_p31, fun _ h => absurd h List.not_mem_nil⟩⟩⟩⟩⟩⟩⟩⟩⟩⟩⟩⟩⟩⟩⟩⟩
theorem lw_p32 : lw_okq (⟨"SkyPlanModel", "ready", "(III)I"⟩, 26) := ⟨⟨by decide +kernel, by decide +kernel⟩, List.mem_of_getElem? (i := 732) (by decide +kernel), List.mem_of_getElem? (i := 953) (by decide +kernel), List.mem_of_getElem? (i := 954) (by decide +kernel)⟩
theorem lw_p33 : lw_okq (⟨"SkyPlanModel", "nextNight", "()V"⟩, 26) := ⟨⟨by decide +kernel, by decide +kernel⟩, List.mem_of_getElem? (i := 732) (by decide +kernel), List.mem_of_getElem? (i := 982) (by decide +kernel), List.mem_of_getElem? (i := 983) (by decide +kernel)⟩
def lw_privs_3 : List (MethodName × Nat) := [(⟨"SkyPlanModel", "ready", "(III)I"⟩, 26), (⟨"SkyPlanModel", "nextNight", "()V"⟩, 26)]
theorem lw_r3 : ∀ q ∈ lw_privs_3, lw_okq q := List.forall_mem_cons.mpr ⟨lw_p32, List.forall_mem_cons.mpr ⟨lw_p33, fun _ h => absurd h List.not_mem_nil⟩⟩
def lw_privs : List (MethodName × Nat) := lw_privs_1 ++ (lw_privs_2 ++ (lw_privs_3))
def lw_tbl : List Cond := k2_sels lw_privs ++ tables_1
theorem lw_privs_ok : ∀ q ∈ lw_privs, lw_okq q := by
  show ∀ q ∈ lw_privs_1 ++ (lw_privs_2 ++ (lw_privs_3)), lw_okq q
  exact List.forall_mem_append.mpr ⟨lw_r1, List.forall_mem_append.mpr ⟨lw_r2, lw_r3⟩⟩
/-- the streams that the claim lets the run draw from -/
abbrev lw_cs : List Choice := [Jvm.Choice.named "NaN.bits"]
theorem lw_bits : nanBits ∈ lw_cs := by first | decide | exact List.mem_cons_self | simp [lw_cs, nanBits]
-- ===== end of PART A; then your names; then what follows =====
end
section
/-- 'an array over [t can be made' as a premise of its own (the printed row of new T[n][m] names it; the kit of this claim has no such word) -/
def va_AOA (t : FieldType) (U : State) : Prop := (Cond.arrayOver (.array t)).before #[] U = true
theorem va_AOA.use {t : FieldType} {A : Array Value} {U : State} (h : va_AOA t U) : (Cond.arrayOver (.array t)).before A U = true := h
/-! ===== BEGIN words of one list among another's, by their places ===== -/
theorem goodIn_r {big : List Cond} (ws : List Cond) (ps : List Nat) (hp : ws = ps.filterMap (fun i => big[i]?)) (h : ws.all goodWord = true) : GoodIn big ws := by
  intro w hw
  have h1 := List.all_eq_true.mp h w hw
  rw [hp] at hw
  obtain ⟨i, -, hi⟩ := List.mem_filterMap.mp hw
  have hm : w ∈ big := by first | exact List.mem_of_getElem? hi | exact List.getElem?_mem hi
  exact ⟨hm, good_of_word h1⟩
theorem goodIn_app {big a b : List Cond} (ha : GoodIn big a) (hb : GoodIn big b) : GoodIn big (a ++ b) := fun w h => (List.mem_append.mp h).elim (ha w) (hb w)
theorem goodIn_ca {big a b : List Cond} {c : Cond} (ha : GoodIn big (c :: a)) (hb : GoodIn big b) : GoodIn big (c :: (a ++ b)) := fun w h => (List.mem_cons.mp h).elim (fun e => ha w (List.mem_cons.mpr (Or.inl e))) (fun h => (List.mem_append.mp h).elim (fun h => ha w (List.mem_cons.mpr (Or.inr h))) (hb w))
theorem goodIn_sub {big ws : List Cond} (hm : ∀ w ∈ ws, w ∈ big) (h : ws.all goodWord = true) : GoodIn big ws := fun w hw => ⟨hm w hw, good_of_word (List.all_eq_true.mp h w hw)⟩
/-! ===== END ===== -/

/-! ===== BEGIN new T[n][m]: the outer array a place, the inner ones among the pooled ===== -/
/-- f, but v at every address of l -/
def vr_up {α : Type} (f : Nat → α) (l : List Nat) (v : α) : Nat → α := fun a => if a ∈ l then v else f a
theorem vr_up_in {α : Type} {f : Nat → α} {l : List Nat} {v : α} {a : Nat} (h : a ∈ l) : vr_up f l v a = v := if_pos h
theorem vr_up_ne {α : Type} {f : Nat → α} {l : List Nat} {v : α} {a : Nat} (h : a ∉ l) : vr_up f l v a = f a := if_neg h
theorem vr_rows {L l : List Nat} {f : Nat → va_E} {e : va_E} (h : ∀ a, a ∈ l → a ∉ L) : va_pl L f ++ l.map (fun a => (a, e)) = va_pl (L ++ l) (vr_up f l e) := by
  unfold va_pl
  rw [List.map_append]
  congr 1
  · apply List.map_congr_left
    intro a ha
    rw [vr_up_ne (fun q => h a q ha)]
  · apply List.map_congr_left
    intro a ha
    rw [vr_up_in ha]
theorem vr_lay {X rows : va_W} {x : Nat × va_E} {pl : va_W} {D : va_G} {cl : List vw_C} {H : Heap} (hP : va_P D cl (((X ++ pl) ++ [x]) ++ rows) H) : va_P D cl ((X ++ [x]) ++ (pl ++ rows)) H := by
  rw [List.append_assoc (X ++ pl)] at hP
  have h := va_P.swap hP
  rw [← List.append_assoc X] at h
  have h2 := va_P.swap h
  rw [List.append_assoc (X ++ [x])] at h2
  exact h2
theorem vr_layD {X rows : va_W} {x : Nat × va_E} {pl : va_W} {A : Nat → Prop} (hD : va_D A (((X ++ pl) ++ [x]) ++ rows)) : va_D A ((X ++ [x]) ++ (pl ++ rows)) := by
  rw [List.append_assoc (X ++ pl)] at hD
  have h := va_D.swap hD
  rw [← List.append_assoc X] at h
  have h2 := va_D.swap h
  rw [List.append_assoc (X ++ [x])] at h2
  exact h2
theorem vr_outer (c : ClassId) (N h0 : Nat) : ∀ i : Nat, Jvm.Free.Multi.outerC c N h0 i = arrV c N (fun j => va_rf (if j < i then some (h0 + 1 + j) else none))
  | 0 => by
    show ({ cls := c, slots := Array.replicate N .null, vm := .none } : Cell) = _
    rw [arrV_new]
    refine congrArg (arrV c N) (funext fun j => ?_)
    simp [va_rf]
  | i + 1 => by
    show (Jvm.Free.Multi.outerC c N h0 i).setSlot i (.ref (h0 + 1 + i)) = _
    rw [vr_outer c N h0 i, arrV_store]
    refine congrArg (arrV c N) (funext fun j => ?_)
    by_cases e : j = i
    · subst e
      simp [updV, va_rf]
    · by_cases h : j < i
      · simp [updV, e, h, Nat.lt_succ_of_lt h]
      · simp [updV, e, h, show ¬ j < i + 1 by omega]
section VGM
variable {p : Program} {l : Launch} {e : Env} {R : Room} {s : State} {m : MethodId} {args : Array Value} {below : List Frame} {meth : Method} {c : Code} {H : Heap} {locs : List Loc} {cells slots : Nat} {Q : State → Prop}
variable {cc : ByteArray} {pc : Nat} {ls : Array Slot} {rest : List Value} {D : va_G} {cl : List vw_C} {A : Nat → Prop} {a : Nat} {tys : List (ClassId × FieldType)} {ws : va_W} {H0 : Heap}
theorem va_mna {X : va_W} {L : List Nat} {f : Nat → va_E} {cc : ByteArray} (hexec : p.tables.exec = Jvm.exec) (hb : c.code = cc) {own : String} {index : Nat} {ty : FieldType} {cy : ClassId} (hown : s.vm.findClass own = some m.cls) (hclink : (Cond.classLink own index ("[" ++ (FieldType.array ty).toString)).before args s = true) (hover : va_AOA ty s) (harr : (Cond.arrayClass ty).before args s = true) (hcy : s.vm.findClass (FieldType.array ty).toString = some cy)
    (hK : va_K D cl tys s) (hP : va_P D cl (X ++ va_pl L f) H) (hD : va_D A (X ++ va_pl L f)) (hS : va_S A H0 H locs) (hA : ∀ q, H0.size ≤ q → A q) {n k : Int32} {N' K' : Nat} {z : vp_A} (hn : ¬ n < 0) (hk : ¬ k < 0) (hN : n.toNatClampNeg = N') (hM : k.toNatClampNeg = K')
    (hb1 : N' * 4 ≤ 536870912) (hb2 : K' * componentBytes ty ≤ 536870912) (hb3 : K' ≤ 536870912) (hdf : fits ty (defaultValue ty) = true) (hdd : (defaultValue ty).isDefault = true) (hcells : cells + (1 + N') ≤ R.cells) (hslots : slots + (N' + N' * K') ≤ R.slots) (hz : ∀ c : ClassId, Jvm.Free.Multi.innerC c K' (defaultValue ty) = vp_cell c z) (hdg : decode cc pc = .ok (.multianewarray index 2, 4))
    (kk : ∀ (q : Nat) (r : Nat → Nat) (cA : ClassId) (H1 : Heap), (∀ i j : Nat, i < N' → j < N' → r i = r j → i = j) → (∀ i : Nat, i < N' → r i ∉ L) → va_K D cl (tys ++ [(cA, .array ty)]) s →
      va_P D cl ((X ++ [(q, .inl (cA, N', .inr (.inr (.inr (.inr (fun i => if i < N' then some (r i) else none))))))]) ++ va_pl (L ++ (List.range N').map r) (vr_up f ((List.range N').map r) (.inl (cy, z)))) H1 → va_D A ((X ++ [(q, .inl (cA, N', .inr (.inr (.inr (.inr (fun i => if i < N' then some (r i) else none))))))]) ++ va_pl (L ++ (List.range N').map r) (vr_up f ((List.range N').map r) (.inl (cy, z)))) → va_S A H0 H1 locs →
      W p l e R s m args below meth c H1 locs (cells + 1 + N') (slots + N' + N' * K') Q (F0 m (pc + 4) ls (.ref q :: rest))) : W p l e R s m args below meth c H locs cells slots Q (F0 m pc ls (.int k :: .int n :: rest)) := by
  subst hN
  subst hM
  intro T hT Xs
  obtain ⟨vm₁, cA, comp, -, fA, fC, hO, -, X', step⟩ := Xs.multianewarray2F hexec hown hclink (va_AOA.use hover) harr (g := F0 m pc ls (.int k :: .int n :: rest)) rfl (by rw [hb]; exact hdg) rfl hn hk hb1 hb2 hb3 hdf hdd hcells hslots
  have ec : some cy = some comp := hcy.symm.trans fC
  cases ec
  generalize hF : Jvm.Free.Multi.fill (T.setVm vm₁) cA cy n.toNatClampNeg k.toNatClampNeg (defaultValue ty) n.toNatClampNeg = F at X' step
  have hTh : (T.setVm vm₁).heap = H := hT
  obtain ⟨f1, f2, -, -⟩ := Jvm.Free.Multi.fill_facts (T.setVm vm₁) cA cy n.toNatClampNeg k.toNatClampNeg (defaultValue ty) n.toNatClampNeg
  rw [hF, hTh] at f1 f2
  have hold : ∀ x : Nat, x < H.size → F.heap[x]? = H[x]? := fun x hx => by
    have := Jvm.Free.Multi.fill_old (T.setVm vm₁) cA cy n.toNatClampNeg k.toNatClampNeg (defaultValue ty) (a := x) (by rw [hTh]; exact hx) n.toNatClampNeg
    rw [hF, hTh] at this
    exact this
  have hrow : ∀ j : Nat, j < n.toNatClampNeg → F.heap[H.size + 1 + j]? = some (vp_cell cy z) := fun j hj => by
    have := Jvm.Free.Multi.fill_inner (T.setVm vm₁) cA cy n.toNatClampNeg k.toNatClampNeg (defaultValue ty) n.toNatClampNeg j hj
    rw [hF, hTh, hz] at this
    exact this
  have hout : Jvm.Free.Multi.outerC cA n.toNatClampNeg H.size n.toNatClampNeg = vp_cell cA (n.toNatClampNeg, .inr (.inr (.inr (.inr (fun i => if i < n.toNatClampNeg then some (H.size + 1 + i) else none))))) := by
    rw [vp_cell_q]
    exact vr_outer cA n.toNatClampNeg H.size n.toNatClampNeg
  rw [hout] at f2
  have hlt : ∀ a, a ∈ L → a < H.size := fun a ha => by
    obtain ⟨k9, hk9⟩ := va_pl_get (X := X) (f := f) ha
    exact (hP k9 _ hk9).lt
  have hnl : ∀ i : Nat, i < n.toNatClampNeg → H.size + 1 + i ∉ L := fun i _ h => by
    have := hlt _ h
    omega
  have hnm : ∀ a, a ∈ (List.range n.toNatClampNeg).map (fun i => H.size + 1 + i) → a ∉ L := fun a ha h => by
    obtain ⟨i, -, rfl⟩ := List.mem_map.mp ha
    have := hlt _ h
    omega
  have hP0 : va_P D cl (X ++ va_pl L f) F.heap := hP.kept (fun k9 x hx => hold x.1 ((hP k9 x hx).lt))
  have hP1 : va_P D cl ((X ++ va_pl L f) ++ [(H.size, .inl (cA, n.toNatClampNeg, .inr (.inr (.inr (.inr (fun i => if i < n.toNatClampNeg then some (H.size + 1 + i) else none))))))]) F.heap := hP0.app (fun k9 x hx => by
    have h0 : k9 < 1 := (List.getElem?_eq_some_iff.mp hx).1
    rw [show k9 = 0 by omega] at hx
    cases hx
    exact f2)
  have hP2 : va_P D cl (((X ++ va_pl L f) ++ [(H.size, .inl (cA, n.toNatClampNeg, .inr (.inr (.inr (.inr (fun i => if i < n.toNatClampNeg then some (H.size + 1 + i) else none))))))]) ++ ((List.range n.toNatClampNeg).map (fun i => H.size + 1 + i)).map (fun a => (a, .inl (cy, z)))) F.heap := hP1.app (fun k9 x hx => by
    obtain ⟨a, ha, rfl⟩ := List.mem_map.mp (List.mem_of_getElem? hx)
    obtain ⟨i, hi, rfl⟩ := List.mem_map.mp ha
    exact hrow i (List.mem_range.mp hi))
  have hD2 : va_D A (((X ++ va_pl L f) ++ [(H.size, .inl (cA, n.toNatClampNeg, .inr (.inr (.inr (.inr (fun i => if i < n.toNatClampNeg then some (H.size + 1 + i) else none))))))]) ++ ((List.range n.toNatClampNeg).map (fun i => H.size + 1 + i)).map (fun a => (a, .inl (cy, z)))) := by
    have hD1 := hD.push (e := .inl (cA, n.toNatClampNeg, .inr (.inr (.inr (.inr (fun i => if i < n.toNatClampNeg then some (H.size + 1 + i) else none)))))) hP rfl (hA _ hS.1)
    generalize hW1 : (X ++ va_pl L f) ++ [(H.size, .inl (cA, n.toNatClampNeg, .inr (.inr (.inr (.inr (fun i => if i < n.toNatClampNeg then some (H.size + 1 + i) else none))))))] = W1 at hD1 hP1 ⊢
    have hle : ∀ (k9 : Nat) (x : Nat × va_E), W1[k9]? = some x → x.1 ≤ H.size := fun k9 x hx => by
      rw [← hW1] at hx
      by_cases hl : k9 < (X ++ va_pl L f).length
      · rw [List.getElem?_append_left hl] at hx
        exact Nat.le_of_lt ((hP k9 x hx).lt)
      · rw [List.getElem?_append_right (by omega)] at hx
        have h0 : k9 - (X ++ va_pl L f).length < 1 := (List.getElem?_eq_some_iff.mp hx).1
        rw [show k9 - (X ++ va_pl L f).length = 0 by omega] at hx
        cases hx
        exact Nat.le_refl _
    have hr : ∀ (k9 : Nat) (x : Nat × va_E), (((List.range n.toNatClampNeg).map (fun i => H.size + 1 + i)).map (fun a => ((a, .inl (cy, z)) : Nat × va_E)))[k9]? = some x → x.1 = H.size + 1 + k9 := fun k9 x hx => by
      rw [List.getElem?_map, List.getElem?_map] at hx
      by_cases h9 : k9 < n.toNatClampNeg
      · rw [List.getElem?_range h9] at hx
        cases hx
        rfl
      · have hn0 : (List.range n.toNatClampNeg)[k9]? = none := List.getElem?_eq_none (by rw [List.length_range]; omega)
        rw [hn0] at hx
        cases hx
    refine ⟨fun i j x y hi hj hxy => ?_, fun k9 x hx => ?_⟩
    · by_cases h1 : i < W1.length <;> by_cases h2 : j < W1.length
      · rw [List.getElem?_append_left h1] at hi
        rw [List.getElem?_append_left h2] at hj
        exact hD1.1 i j x y hi hj hxy
      · rw [List.getElem?_append_left h1] at hi
        rw [List.getElem?_append_right (by omega)] at hj
        have := hle _ _ hi
        have := hr _ _ hj
        omega
      · rw [List.getElem?_append_right (by omega)] at hi
        rw [List.getElem?_append_left h2] at hj
        have := hle _ _ hj
        have := hr _ _ hi
        omega
      · rw [List.getElem?_append_right (by omega)] at hi hj
        have := hr _ _ hi
        have := hr _ _ hj
        omega
    · by_cases h1 : k9 < W1.length
      · rw [List.getElem?_append_left h1] at hx
        exact hD1.2 k9 x hx
      · rw [List.getElem?_append_right (by omega)] at hx
        have := hr _ _ hx
        exact hA _ (by have := hS.1; omega)
  have hAr : ArrOfT s cA (.array ty) := fun N9 z9 => by
    obtain ⟨-, k9, hk9, cm9, hkk9⟩ := (hO 0 0 0).1
    exact ⟨(fun q hq => by cases hq), k9, hk9, cm9, hkk9⟩
  have hK2 : va_K D cl (tys ++ [(cA, .array ty)]) s := ⟨hK.1, fun k9 x hx => by
    by_cases hl : k9 < tys.length
    · rw [List.getElem?_append_left hl] at hx
      exact hK.2 k9 x hx
    · rw [List.getElem?_append_right (by omega)] at hx
      have h0 : k9 - tys.length < 1 := (List.getElem?_eq_some_iff.mp hx).1
      rw [show k9 - tys.length = 0 by omega] at hx
      cases hx
      exact ⟨hAr, fA⟩⟩
  obtain ⟨t, a1, b1⟩ := kk H.size (fun i => H.size + 1 + i) cA F.heap (fun i j _ _ h => by have h9 : H.size + 1 + i = H.size + 1 + j := h; omega) hnl hK2 (by rw [← vr_rows hnm]; exact vr_lay hP2) (by rw [← vr_rows hnm]; exact vr_layD hD2) ⟨by rw [f1]; have := hS.1; omega, fun x h1 h2 => (hold x (Nat.lt_of_lt_of_le h1 hS.1)).trans (hS.2.1 x h1 h2), hS.2.2⟩ F rfl X'
  refine ⟨t, step t ?_, b1⟩
  have e : T.heap.size = H.size := by rw [hT]
  rw [e]
  exact a1
end VGM
/-! ===== END ===== -/

/-! ===== BEGIN exceptions that leave a method, and their catching by the caller (launches without stack traces) ===== -/
section VXA
/-! The laws vx_back, vx_callV, vx_callS, vx_callSW, vx_throw0, vx_throwS follow proofs of the library, with one case more: JvmDerived/Free/Laws.lean (Back.of_free), Shelf42/LK1.lean (callV, callS), Shelf/KitTraced.lean (throwNew0V, throwNewS). -/
/-- where a method has thrown q: the class by its name, the cell, what was written, the world -/
def vx_T (XC : String → State → State → Prop) (st : State) (q : Addr) (t : State) (mc ms : Nat) (free : Addr → Prop) : Prop :=
  ∃ (E : String) (ce : Cell) (L : List Loc), XC E st t ∧ t.heap[q]? = some ce ∧ ce.vm = .none ∧ st.vm.findClass E = some ce.cls ∧ st.WarmedH t.vm ∧ st.sameButNew ({ t with vm := st.vm } : State) L mc ms ∧ ∀ z ∈ L, free z.base
def vx_Q (Qc : Array Value → State → Outcome → State → Prop) (XC : String → State → State → Prop) (mc ms : Nat) (free : Addr → Prop) : Array Value → State → Outcome → State → Prop := fun a st o t =>
  (Qc a st o t ∧ ∃ L, FrameEnd st o t L mc ms ∧ ∀ q ∈ L, free q.base) ∨ ∃ q, o = .threw q ∧ vx_T XC st q t mc ms free
/-- a callee that returns or throws -/
def vx_Met (l : Launch) (y : MethodName) (ws : List Cond) (rm : Room) (Pc : Array Value → State → Prop) (Qc : Array Value → State → Outcome → State → Prop) (XC : String → State → State → Prop) (mc ms : Nat) (free : Addr → Prop) : Prop :=
  MetFree l y (headSpec ws rm) Pc (fun _ _ _ _ _ => True) (vx_Q Qc XC mc ms free)
def vx_Post (XC : String → State → State → Prop) (mc ms : Nat) (free : Addr → Prop) : Pt → Array Value → Addr → Pt → Prop := fun A a q B =>
  ∃ (g : JFrame) (mk : MethodId) (t : State) (L : List Loc) (E : String) (ce : Cell), B.U.heap = t.heap ∧ B.U.vm = t.vm ∧ XC E (A.U.calling g mk a) t ∧ t.heap[q]? = some ce ∧ ce.vm = .none ∧ A.U.vm.findClass E = some ce.cls ∧ B.locs = A.locs ++ L ∧ (∀ z ∈ L, free z.base) ∧ B.cells = A.cells + mc ∧ B.slots = A.slots + ms
def vx_Back (l : Launch) (R : Room) (p : Program) (e : Env) (below : List Frame) (s : State) (sargs : Array Value) (y : MethodName) (len W9 : Nat)
    (Pre : Pt → Array Value → Prop) (Post : Pt → Array Value → Option Value → Pt → Prop) (PostX : Pt → Array Value → Addr → Pt → Prop) : Prop :=
  ∀ (m : MethodId) (meth : Method) (c : Code) (A : Pt) (g : JFrame) (ig : Instr) (mk : MethodId) (a : Array Value),
    Stand p l e R s m sargs below meth c A.U A.locs A.cells A.slots → g.method = m → g.locals.size = c.maxLocals → decode c.code g.pc = .ok (ig, len) →
    2 * g.monitorRoom + (g.stack.map fun v => v.category).sum ≤ W9 → A.U.methodNamed? y = some mk → Pre A a →
    (∃ (v : Option Value) (B : Pt), Stand p l e R s m sargs below meth c B.U B.locs B.cells B.slots ∧ Post A a v B ∧
      Steps p.tables e below (doInvoke e (A.U.setTop g) [] mk a).1 (B.U.setTop { g with pc := g.pc + len, stack := v.toList ++ g.stack })) ∨
    (∃ (q : Addr) (B : Pt), Stand p l e R s m sargs below meth c B.U B.locs B.cells B.slots ∧ PostX A a q B ∧
      Steps p.tables e below (doInvoke e (A.U.setTop g) [] mk a).1 ((B.U.setTop g).pushFrame (.throwing q)))
section Payer
variable {l : Launch} {R : Room} {p : Program} {e : Env} {below : List Frame} {s : State} {sargs : Array Value} {y : MethodName} {len W9 : Nat}
theorem vx_back {ws : List Cond} {rm : Room} {Pc : Array Value → State → Prop} {Qc : Array Value → State → Outcome → State → Prop} {XC : String → State → State → Prop} {mc ms : Nat} {free : Addr → Prop} {bytes : ByteArray} {maxL : Nat} {ret : Option FieldType}
    (hM : vx_Met l y ws rm Pc Qc XC mc ms free) (hblind : FrameBlind Pc) (hrc : rm.cells = mc) (hrs : rm.slots = ms)
    (hframes : rm.frames + 1 ≤ R.frames) (hlocals : W9 + (maxL + 11) + rm.locals ≤ R.locals)
    (hws : ∀ w ∈ ws, ∀ a' U, s.WarmedH U.vm → w.before a' U = true) (hcode : Cond.code y bytes maxL ret ∈ ws) (hinit : ∀ a' U, s.WarmedH U.vm → (Cond.initialized y.cls).before a' U = true) :
    vx_Back l R p e below s sargs y len W9 (PreOf R mc ms Pc) (PostOf Qc mc ms free) (vx_Post XC mc ms free) := by
  intro m meth c A g ig mk a X hg hsize hdg hW hn hp
  have h1 : (headSpec ws rm).pre.before a A.U = true := atoms_intro fun w hw => hws w hw _ _ X.warmed
  have h2 : (Cond.code y bytes maxL ret).before a A.U = true := hws _ hcode _ _ X.warmed
  have h3 : (Cond.initialized y.cls).before a A.U = true := hinit _ _ X.warmed
  have h4 : A.cells + (headSpec ws rm).room.cells ≤ R.cells := by rw [show (headSpec ws rm).room.cells = mc from hrc]; exact hp.1
  have h5 : A.slots + (headSpec ws rm).room.slots ≤ R.slots := by rw [show (headSpec ws rm).room.slots = ms from hrs]; exact hp.2.1
  have hPc : Pc a (A.U.calling g mk a) := hblind _ _ _ _ hp.2.2
  obtain ⟨U, Ls, c0, s0⟩ := A
  dsimp only [Pt.U, Pt.locs, Pt.cells, Pt.slots] at h1 h2 h3 h4 h5 X hn hPc ⊢
  obtain ⟨methY, cY, hmY, hcY, -, hlY, -, -, -, -⟩ := Cond.code_spec hn h2
  obtain ⟨kY, hkY, -⟩ := className_of_methodNamed hn
  have hinitY : kY.init = .initialized := Cond.initialized_spec (findClass_of_methodNamed hn) hkY h3
  have h : At U g.method c below := by rw [hg]; exact X.here
  have hlocals9 : W9 + (maxL + 11) + (headSpec ws rm).room.locals ≤ R.locals := hlocals
  have happ : (headSpec ws rm).appliesLoose y e.platform (U.calling g mk a) = true :=
    Spec.appliesLoose_calling (g := g) h hdg hn hkY hinitY
      (X.room_calling (g := g) (R' := (headSpec ws rm).room) hsize hmY hcY hframes (by rw [hlY]; omega) h4 h5) h1
  obtain ⟨mid, hmid⟩ := h.above
  have hfr : (U.setTop g).frames = (.java g :: mid) ++ below := by rw [State.frames_setTop' g h.top, hmid]; rfl
  obtain ⟨o, s₂, hsteps, -, hend, hq⟩ := Steps.callFree hM p X.admits X.cas X.clock (acts := []) hfr happ hPc trivial
  have hq' : vx_Q Qc XC mc ms free a (U.calling g mk a) o s₂ := hq
  rw [State.frames_setTop' g h.top] at hend
  obtain ⟨g₀, hg0⟩ := Option.isSome_iff_exists.mp h.top
  obtain ⟨r, hr⟩ := State.topJava?_eq_some.mp hg0
  have hr' : (({ U with heap := s₂.heap, slotsUsed := s₂.slotsUsed } : State).setVm s₂.vm).frames = .java g₀ :: r := hr
  rcases hq' with ⟨hqc, L, hfe, hL⟩ | ⟨q, rfl, E, ce, L, hx, hce, hcv, hcl, hW₂, hsm, hL⟩
  · obtain ⟨⟨v, rfl⟩, hW₂, e2, q2, q3, q4, q5, q6⟩ := id hfe
    have e3 : s₂ = ({ (U.calling g mk a).setFrames s₂.frames with heap := s₂.heap, slotsUsed := s₂.slotsUsed } : State).setVm s₂.vm := by
      have : s₂ = ({ s₂ with vm := (U.calling g mk a).vm } : State).setVm s₂.vm := rfl
      rw [e2] at this
      exact this
    obtain ⟨c₂, i₂, len₂, hc₂, hd₂, hf₂⟩ := hend
    have hW' : U.WarmedH s₂.vm := hW₂
    have hcc : c₂ = c := by
      have h1 : s₂.code? g.method = U.code? g.method := by
        rw [State.code?_eq, State.code?_eq, hW'.alike.method?]
      exact Option.some.inj (hc₂.symm.trans (h1.trans h.code))
    subst hcc
    have hlen : len₂ = len := by rw [hdg] at hd₂; cases hd₂; rfl
    subst hlen
    have hs₂ : s₂ = (({ U with heap := s₂.heap, slotsUsed := s₂.slotsUsed } : State).setVm s₂.vm).setTop { g with pc := g.pc + len₂, stack := v.toList ++ g.stack } := by
      refine e3.trans ?_
      rw [hf₂, State.calling_eq h.top, State.setFrames_setFrames, State.setTop_of_frames _ hr', hr]
      rfl
    have hsame : U.sameButNew ({ U with heap := s₂.heap, slotsUsed := s₂.slotsUsed } : State) L mc ms := by
      refine ⟨?_, q2, q3, q4, q5, q6⟩
      obtain ⟨t, ht, -⟩ := State.frames_cons hr
      show ({ U with heap := s₂.heap, slotsUsed := s₂.slotsUsed } : State) = { U.setFrames U.frames with heap := s₂.heap, slotsUsed := s₂.slotsUsed }
      rw [State.setFrames_self ht]
    subst hg
    refine Or.inl ⟨v, ⟨(({ U with heap := s₂.heap, slotsUsed := s₂.slotsUsed } : State).setVm s₂.vm), Ls ++ L, c0 + mc, s0 + ms⟩,
      ⟨X.admits, X.cas, X.clock, X.frames, X.room, X.hears, X.method, X.code, (X.here.setHeapUsed s₂.heap s₂.slotsUsed).setVm hW'.alike, X.tail, State.WarmedH.trans X.warmed hW', X.limits, X.bytes, X.same.trans (hsame.setVm s.vm)⟩,
      ⟨g, mk, s₂, L, rfl, rfl, hqc, rfl, hL, rfl, rfl⟩, ?_⟩
    show Steps p.tables e below _ ((({ U with heap := s₂.heap, slotsUsed := s₂.slotsUsed } : State).setVm s₂.vm).setTop { g with pc := g.pc + len₂, stack := v.toList ++ g.stack })
    rw [← hs₂]
    exact hsteps
  · obtain ⟨e2, q2, q3, q4, q5, q6⟩ := id hsm
    have e3 : s₂ = ({ (U.calling g mk a).setFrames s₂.frames with heap := s₂.heap, slotsUsed := s₂.slotsUsed } : State).setVm s₂.vm := by
      have : s₂ = ({ s₂ with vm := (U.calling g mk a).vm } : State).setVm s₂.vm := rfl
      rw [e2] at this
      exact this
    have hf₂ : s₂.frames = .throwing q :: .java g :: U.frames.tail := hend
    have hW' : U.WarmedH s₂.vm := hW₂
    have hs₂ : s₂ = ((({ U with heap := s₂.heap, slotsUsed := s₂.slotsUsed } : State).setVm s₂.vm).setTop g).pushFrame (.throwing q) := by
      refine e3.trans ?_
      rw [hf₂, State.calling_eq h.top, State.setFrames_setFrames, State.pushFrame, State.frames_setTop _ hr', State.setTop_of_frames _ hr', State.setFrames_setFrames, hr]
      rfl
    have hsame : U.sameButNew ({ U with heap := s₂.heap, slotsUsed := s₂.slotsUsed } : State) L mc ms := by
      refine ⟨?_, q2, q3, q4, q5, q6⟩
      obtain ⟨t, ht, -⟩ := State.frames_cons hr
      show ({ U with heap := s₂.heap, slotsUsed := s₂.slotsUsed } : State) = { U.setFrames U.frames with heap := s₂.heap, slotsUsed := s₂.slotsUsed }
      rw [State.setFrames_self ht]
    subst hg
    refine Or.inr ⟨q, ⟨(({ U with heap := s₂.heap, slotsUsed := s₂.slotsUsed } : State).setVm s₂.vm), Ls ++ L, c0 + mc, s0 + ms⟩,
      ⟨X.admits, X.cas, X.clock, X.frames, X.room, X.hears, X.method, X.code, (X.here.setHeapUsed s₂.heap s₂.slotsUsed).setVm hW'.alike, X.tail, State.WarmedH.trans X.warmed hW', X.limits, X.bytes, X.same.trans (hsame.setVm s.vm)⟩,
      ⟨g, mk, s₂, L, E, ce, rfl, rfl, hx, hce, hcv, hcl, rfl, hL, rfl, rfl⟩, ?_⟩
    show Steps p.tables e below _ (((({ U with heap := s₂.heap, slotsUsed := s₂.slotsUsed } : State).setVm s₂.vm).setTop g).pushFrame (.throwing q))
    rw [← hs₂]
    exact hsteps
end Payer
section Calls
variable {p : Program} {l : Launch} {e : Env} {R : Room} {s : State} {m : MethodId} {args : Array Value} {below : List Frame} {meth : Method} {c : Code} {T : State} {locs : List Loc} {cells slots : Nat}
theorem vx_callV (X : Stand p l e R s m args below meth c T locs cells slots) (hexec : p.tables.exec = Jvm.exec) {own C : String} {index : Nat} {y : MethodName} {bytes : ByteArray} {maxL : Nat} {ret : Option FieldType}
    (hown : s.vm.findClass own = some m.cls) (hlink : (Cond.methodLink own index y).before args s = true) (hinst : (Cond.instanceMethod y).before args s = true) (hsel : (Cond.selects C y y).before args s = true)
    (hcode : (Cond.code y bytes maxL ret).before args s = true) (hy : y.cls ≠ "java/lang/invoke/MethodHandle" ∧ y.cls ≠ "java/lang/invoke/VarHandle")
    {W9 : Nat} {Pre : Pt → Array Value → Prop} {Post : Pt → Array Value → Option Value → Pt → Prop} {PostX : Pt → Array Value → Addr → Pt → Prop} (hK : vx_Back l R p e below s args y 3 W9 Pre Post PostX)
    {b : Addr} {cellB : Cell} (hcell : T.heap[b]? = some cellB) (hobj : cellB.vm.isStatics = false) (hcls : s.vm.findClass C = some cellB.cls)
    {g : JFrame} (hg : g.method = m) (hsize : g.locals.size = c.maxLocals) {argsL rest : List Value} (hlen : ∀ sig, parseMethodDescriptor y.desc = some sig → argsL.length = sig.parameters.length)
    (hstack : g.stack = argsL.reverse ++ .ref b :: rest) (hW : 2 * g.monitorRoom + (rest.map fun v => v.category).sum ≤ W9) (hdg : decode c.code g.pc = .ok (.invokevirtual index, 3))
    (hpre : ∀ vm₁, s.WarmedH vm₁ → Pre ⟨T.setVm vm₁, locs, cells, slots⟩ (Value.ref b :: argsL).toArray) :
    (∃ (v : Option Value) (vm₁ : Vm) (B : Pt), s.WarmedH vm₁ ∧ Stand p l e R s m args below meth c B.U B.locs B.cells B.slots ∧ Post ⟨T.setVm vm₁, locs, cells, slots⟩ (Value.ref b :: argsL).toArray v B ∧
      ∀ target, Steps p.tables e below (B.U.setTop { g with pc := g.pc + 3, stack := v.toList ++ rest }) target → Steps p.tables e below (T.setTop g) target) ∨
    (∃ (q : Addr) (vm₁ : Vm) (B : Pt), s.WarmedH vm₁ ∧ Stand p l e R s m args below meth c B.U B.locs B.cells B.slots ∧ PostX ⟨T.setVm vm₁, locs, cells, slots⟩ (Value.ref b :: argsL).toArray q B ∧
      Steps p.tables e below (T.setTop g) ((B.U.setTop { g with stack := rest }).pushFrame (.throwing q))) := by
  obtain ⟨mk, methM, hnamed, hmethM, hstM, habM⟩ := Cond.instanceMethod_spec hinst
  obtain ⟨methM', cM, hmethM', -, -, -, -, -, -, hsigM⟩ := Cond.code_spec hnamed hcode
  cases hmethM.symm.trans hmethM'
  obtain ⟨c2, r2, m2, q1, q2, q3, q4, kP, hkP, hkPi⟩ := Cond.selects_spec hsel
  cases hcls.symm.trans q1
  cases (State.methodFound?_of_named hnamed hy).symm.trans q2
  cases hnamed.symm.trans q3
  have hselP : selectMethod e.platform s.vm cellB.cls mk = .method mk := by rw [Launch.admits_selectMethod X.admits]; exact q4
  obtain ⟨vm₁, X₁, hstep₁⟩ := X.invokevirtual hexec hown hlink hnamed hmethM hstM hkP hkPi hy (a := b) (cell := cellB) hcell
    (fun z h => by rw [h] at hobj; cases hobj) hselP hmethM habM hkP hkPi (g := g) hg (argsL := argsL) (rest := rest) (hlen _ hsigM) hstack hdg
  rcases hK m meth c ⟨T.setVm vm₁, locs, cells, slots⟩ { g with stack := rest } (.invokevirtual index) mk (Value.ref b :: argsL).toArray X₁ hg hsize hdg hW (X₁.named hnamed) (hpre vm₁ X₁.warmed) with ⟨v, B, X', hpost, hsteps⟩ | ⟨q, B, X', hpost, hsteps⟩
  · exact Or.inl ⟨v, vm₁, B, X₁.warmed, X', hpost, fun target h => hstep₁ _ fun acts => by rw [doInvoke_state]; exact hsteps.trans h⟩
  · exact Or.inr ⟨q, vm₁, B, X₁.warmed, X', hpost, hstep₁ _ fun acts => by rw [doInvoke_state]; exact hsteps⟩
theorem vx_callS (X : Stand p l e R s m args below meth c T locs cells slots) (hexec : p.tables.exec = Jvm.exec) {own : String} {index : Nat} {y : MethodName} {bytes : ByteArray} {maxL : Nat} {ret : Option FieldType}
    (hown : s.vm.findClass own = some m.cls) (hlink : (Cond.methodLink own index y).before args s = true) (hstat : (Cond.static y).before args s = true) (hinit : (Cond.initialized y.cls).before args s = true)
    (hcode : (Cond.code y bytes maxL ret).before args s = true) (hy : y.cls ≠ "java/lang/invoke/MethodHandle" ∧ y.cls ≠ "java/lang/invoke/VarHandle")
    {W9 : Nat} {Pre : Pt → Array Value → Prop} {Post : Pt → Array Value → Option Value → Pt → Prop} {PostX : Pt → Array Value → Addr → Pt → Prop} (hK : vx_Back l R p e below s args y 3 W9 Pre Post PostX)
    {g : JFrame} (hg : g.method = m) (hsize : g.locals.size = c.maxLocals) {argsL rest : List Value} (hlen : ∀ sig, parseMethodDescriptor y.desc = some sig → argsL.length = sig.parameters.length)
    (hstack : g.stack = argsL.reverse ++ rest) (hW : 2 * g.monitorRoom + (rest.map fun v => v.category).sum ≤ W9) (hdg : decode c.code g.pc = .ok (.invokestatic index, 3))
    (hpre : ∀ vm₁, s.WarmedH vm₁ → Pre ⟨T.setVm vm₁, locs, cells, slots⟩ argsL.toArray) :
    (∃ (v : Option Value) (vm₁ : Vm) (B : Pt), s.WarmedH vm₁ ∧ Stand p l e R s m args below meth c B.U B.locs B.cells B.slots ∧ Post ⟨T.setVm vm₁, locs, cells, slots⟩ argsL.toArray v B ∧
      ∀ target, Steps p.tables e below (B.U.setTop { g with pc := g.pc + 3, stack := v.toList ++ rest }) target → Steps p.tables e below (T.setTop g) target) ∨
    (∃ (q : Addr) (vm₁ : Vm) (B : Pt), s.WarmedH vm₁ ∧ Stand p l e R s m args below meth c B.U B.locs B.cells B.slots ∧ PostX ⟨T.setVm vm₁, locs, cells, slots⟩ argsL.toArray q B ∧
      Steps p.tables e below (T.setTop g) ((B.U.setTop { g with stack := rest }).pushFrame (.throwing q))) := by
  obtain ⟨mk, hnamed⟩ := Cond.code_named hcode
  obtain ⟨methM, cM, hmethM, -, -, -, -, -, -, hsigM⟩ := Cond.code_spec hnamed hcode
  have hstatic : methM.isStatic = true := Cond.static_spec hnamed hmethM hstat
  obtain ⟨kP, hkP, -⟩ := className_of_methodNamed hnamed
  have hinitP : kP.init = .initialized := Cond.initialized_spec (findClass_of_methodNamed hnamed) hkP hinit
  obtain ⟨vm₁, X₁, hstep₁⟩ := X.invokestatic hexec hown hlink hnamed hmethM hstatic hkP hinitP hy (g := g) hg (argsL := argsL) (rest := rest) (hlen _ hsigM) hstack hdg
  rcases hK m meth c ⟨T.setVm vm₁, locs, cells, slots⟩ { g with stack := rest } (.invokestatic index) mk argsL.toArray X₁ hg hsize hdg hW (X₁.named hnamed) (hpre vm₁ X₁.warmed) with ⟨v, B, X', hpost, hsteps⟩ | ⟨q, B, X', hpost, hsteps⟩
  · exact Or.inl ⟨v, vm₁, B, X₁.warmed, X', hpost, fun target h => hstep₁ _ fun acts => by rw [doInvoke_state]; exact hsteps.trans h⟩
  · exact Or.inr ⟨q, vm₁, B, X₁.warmed, X', hpost, hstep₁ _ fun acts => by rw [doInvoke_state]; exact hsteps⟩
end Calls
theorem vx_cls {s : State} {T : State} {vm₁ : Vm} {E : String} {k : ClassId} (hW : s.WarmedH vm₁) (h : (T.setVm vm₁).vm.findClass E = some k) : s.vm.findClass E = some k := by
  have h1 : vm₁.findClass E = some k := h
  rw [hW.alike.findClass] at h1
  exact h1
/-- the method's frame g, with q thrown over it -/
def vx_W (p : Program) (l : Launch) (e : Env) (R : Room) (s : State) (m : MethodId) (args : Array Value) (below : List Frame) (meth : Method) (c : Code) (H : Heap) (locs : List Loc) (cells slots : Nat) (Q : State → Prop) (g : JFrame) (q : Addr) : Prop :=
  ∀ T : State, T.heap = H → Stand p l e R s m args below meth c T locs cells slots → ∃ t, Steps p.tables e below ((T.setTop g).pushFrame (.throwing q)) t ∧ Q t
def vx_Run (p : Program) (l : Launch) (e : Env) (R : Room) (s : State) (m : MethodId) (args : Array Value) (below : List Frame) (meth : Method) (c : Code) (H : Heap) (locs : List Loc) (cells slots mc ms : Nat) (g : JFrame) (rest : List Value) (Qa : State → Outcome → State → Prop) (XC : String → State → State → Prop) (free : Addr → Prop) : Prop :=
  ∀ T : State, T.heap = H → Stand p l e R s m args below meth c T locs cells slots →
    (∃ (v : Option Value) (st₀ t T' : State) (L : List Loc), st₀.heap = H ∧ Stand p l e R s m args below meth c T' (locs ++ L) (cells + mc) (slots + ms) ∧ (∀ q ∈ L, free q.base) ∧ T'.heap = t.heap ∧ T'.vm = t.vm ∧ Qa st₀ (.returned v) t ∧
      Goes p e below T g T' { g with pc := g.pc + 3, stack := v.toList ++ rest }) ∨
    (∃ (q : Addr) (st₀ t T' : State) (L : List Loc) (E : String) (ce : Cell), st₀.heap = H ∧ Stand p l e R s m args below meth c T' (locs ++ L) (cells + mc) (slots + ms) ∧ (∀ z ∈ L, free z.base) ∧ T'.heap = t.heap ∧ T'.vm = t.vm ∧ XC E st₀ t ∧ t.heap[q]? = some ce ∧ ce.vm = .none ∧ s.vm.findClass E = some ce.cls ∧
      Steps p.tables e below (T.setTop g) ((T'.setTop { g with stack := rest }).pushFrame (.throwing q)))
def vx_X {S : Type} (px : S → Prop) (B : String → S → State → Prop) (A : Nat → Prop) : String → State → State → Prop := fun E st t => ∃ u : S, px u ∧ B E u t ∧ va_F A st t
section Runs
variable {p : Program} {l : Launch} {e : Env} {R : Room} {s : State} {m : MethodId} {args : Array Value} {below : List Frame} {meth : Method} {c : Code} {H : Heap} {locs : List Loc} {cells slots : Nat}
variable {y : MethodName} {bytes cc : ByteArray} {maxL nL mc ms n index : Nat} {ret : Option FieldType} {ws : List Cond} {rm : Room} {Pc : Array Value → State → Prop} {Qc : Array Value → State → Outcome → State → Prop} {XC : String → State → State → Prop} {free : Addr → Prop} {Ts : List Cond} {own C : String} {b : Addr} {As rest : List Value} {g : JFrame}
theorem vx_callBack (cb : CallB R s args own index y bytes maxL ret ws rm mc ms n) (hM : vx_Met l y ws rm Pc Qc XC mc ms free) (hbl : FrameBlind Pc) : vx_Back l R p e below s args y 3 8 (PreOf R mc ms Pc) (PostOf Qc mc ms free) (vx_Post XC mc ms free) := by
  obtain ⟨hrc, hrs, hfr, hlo, hws, hcw, -, hini, -⟩ := cb
  exact vx_back (bytes := bytes) (maxL := maxL) (ret := ret) hM hbl hrc hrs hfr hlo hws hcw (fun a' U hW => word_at hW (Or.inl (by first | rfl | simp [Cond.onTables, Cond.keeps, Cond.steady])) hini)
theorem vx_runV (S : CallFix p m c cc nL s args Ts own) (hM : vx_Met l y ws rm Pc Qc XC mc ms free) (cw : CallW R s args own C index y bytes maxL ret ws rm mc ms n) (hp : PreV s H C b Pc As)
    (hg : g.method = m) (hn : As.length = n) (hsize : g.locals.size = nL) (hstack : g.stack = As.reverse ++ .ref b :: rest) (hW : 2 * g.monitorRoom + (rest.map fun v => v.category).sum ≤ 8) (hdg : decode cc g.pc = .ok (.invokevirtual index, 3)) (hf : cells + mc ≤ R.cells ∧ slots + ms ≤ R.slots) :
    vx_Run p l e R s m args below meth c H locs cells slots mc ms g rest (Qc (Value.ref b :: As).toArray) XC free := by
  have hK : vx_Back l R p e below s args y 3 8 (PreOf R mc ms Pc) (PostOf Qc mc ms free) (vx_Post XC mc ms free) := vx_callBack cw.1 hM hp.1
  obtain ⟨⟨-, -, -, -, -, -, hcode, -, hy, hlen, hl⟩, hin, hse⟩ := cw
  obtain ⟨hx, hb, hml, ho, -⟩ := S
  obtain ⟨-, ⟨cellB, hcB, hoB, hclB⟩, hPc⟩ := hp
  intro T hT X
  rcases vx_callV X hx (C := C) (bytes := bytes) (maxL := maxL) (ret := ret) ho hl hin hse hcode hy hK (by rw [hT]; exact hcB) hoB hclB hg (hsize.trans hml.symm) (argsL := As) (rest := rest) (fun sig h => hn.trans (hlen sig h)) hstack hW (by rw [hb]; exact hdg)
    (fun vm₁ hW₁ => ⟨hf.1, hf.2, hPc (T.setVm vm₁) hT hW₁⟩) with ⟨v, vm₁, ⟨U', l2, c2, s2⟩, hW₁, X', ⟨g', mk, t, L, e1, e2, hq, h1, hL, h2, h3⟩, st⟩ | ⟨q, vm₁, ⟨U', l2, c2, s2⟩, hW₁, X', ⟨g', mk, t, L, E, ce, e1, e2, hq, hce, hcv, hcl, h1, hL, h2, h3⟩, st⟩
  · dsimp only [Pt.U, Pt.locs, Pt.cells, Pt.slots] at X' e1 e2 h1 h2 h3 st
    subst h1; subst h2; subst h3
    exact Or.inl ⟨v, (T.setVm vm₁).calling g' mk (Value.ref b :: As).toArray, t, U', L, hT, X', hL, e1, e2, hq, st⟩
  · dsimp only [Pt.U, Pt.locs, Pt.cells, Pt.slots] at X' e1 e2 h1 h2 h3 st hcl
    subst h1; subst h2; subst h3
    exact Or.inr ⟨q, (T.setVm vm₁).calling g' mk (Value.ref b :: As).toArray, t, U', L, E, ce, hT, X', hL, e1, e2, hq, hce, hcv, vx_cls hW₁ hcl, st⟩
theorem vx_runS (S : CallFix p m c cc nL s args Ts own) (hM : vx_Met l y ws rm Pc Qc XC mc ms free) (cw : CallB R s args own index y bytes maxL ret ws rm mc ms n ∧ (Cond.static y).before args s = true) (hp : PreS s H Pc As)
    (hg : g.method = m) (hn : As.length = n) (hsize : g.locals.size = nL) (hstack : g.stack = As.reverse ++ rest) (hW : 2 * g.monitorRoom + (rest.map fun v => v.category).sum ≤ 8) (hdg : decode cc g.pc = .ok (.invokestatic index, 3)) (hf : cells + mc ≤ R.cells ∧ slots + ms ≤ R.slots) :
    vx_Run p l e R s m args below meth c H locs cells slots mc ms g rest (Qc As.toArray) XC free := by
  have hK : vx_Back l R p e below s args y 3 8 (PreOf R mc ms Pc) (PostOf Qc mc ms free) (vx_Post XC mc ms free) := vx_callBack cw.1 hM hp.1
  obtain ⟨⟨-, -, -, -, -, -, hcode, hini, hy, hlen, hl⟩, hstt⟩ := cw
  obtain ⟨hx, hb, hml, ho, -⟩ := S
  intro T hT X
  rcases vx_callS X hx (bytes := bytes) (maxL := maxL) (ret := ret) ho hl hstt hini hcode hy hK hg (hsize.trans hml.symm) (argsL := As) (rest := rest) (fun sig h => hn.trans (hlen sig h)) hstack hW (by rw [hb]; exact hdg)
    (fun vm₁ hW₁ => ⟨hf.1, hf.2, hp.2 (T.setVm vm₁) hT hW₁⟩) with ⟨v, vm₁, ⟨U', l2, c2, s2⟩, hW₁, X', ⟨g', mk, t, L, e1, e2, hq, h1, hL, h2, h3⟩, st⟩ | ⟨q, vm₁, ⟨U', l2, c2, s2⟩, hW₁, X', ⟨g', mk, t, L, E, ce, e1, e2, hq, hce, hcv, hcl, h1, hL, h2, h3⟩, st⟩
  · dsimp only [Pt.U, Pt.locs, Pt.cells, Pt.slots] at X' e1 e2 h1 h2 h3 st
    subst h1; subst h2; subst h3
    exact Or.inl ⟨v, (T.setVm vm₁).calling g' mk As.toArray, t, U', L, hT, X', hL, e1, e2, hq, st⟩
  · dsimp only [Pt.U, Pt.locs, Pt.cells, Pt.slots] at X' e1 e2 h1 h2 h3 st hcl
    subst h1; subst h2; subst h3
    exact Or.inr ⟨q, (T.setVm vm₁).calling g' mk As.toArray, t, U', L, E, ce, hT, X', hL, e1, e2, hq, hce, hcv, vx_cls hW₁ hcl, st⟩
end Runs
section Rows
variable {p : Program} {l : Launch} {e : Env} {R : Room} {s : State} {m : MethodId} {args : Array Value} {below : List Frame} {meth : Method} {c : Code} {H : Heap} {locs : List Loc} {cells slots : Nat} {Q : State → Prop}
variable {mc ms : Nat} {free : Addr → Prop} {A0 A1 : Nat → Prop} {H0 : Heap} {a : Array Value} {pc : Nat} {ls : Array Slot} {st0 rest : List Value}
theorem vx_keep {st₀ t T' : State} {L : List Loc} (h0 : st₀.heap = H) (e1 : T'.heap = t.heap) (hS : va_S A0 H0 H locs) (hA : ∀ q, q < H.size → A1 q → A0 q) (hf : ∀ q, free q → A0 q) (hL : ∀ q ∈ L, free q.base) (hF : va_F A1 st₀ t) :
    H.size ≤ T'.heap.size ∧ (∀ q : Nat, q < H.size → ¬ A1 q → T'.heap[q]? = H[q]?) ∧ va_S A0 H0 T'.heap (locs ++ L) := by
  obtain ⟨hz, hk⟩ := hF
  rw [h0] at hz hk
  exact ⟨by rw [e1]; exact hz, fun q h1 h2 => by rw [e1]; exact hk q h1 h2,
    ⟨Nat.le_trans hS.1 (by rw [e1]; exact hz), fun q h1 h2 => by rw [e1, hk q (Nat.lt_of_lt_of_le h1 hS.1) (fun z => h2 (hA q (Nat.lt_of_lt_of_le h1 hS.1) z))]; exact hS.2.1 q h1 h2, fun q hq => by
      rcases List.mem_append.mp hq with h | h
      · exact hS.2.2 q h
      · exact hf _ (hL q h)⟩⟩
theorem vx_calli {S SX : Type} {post : Int32 → S → Prop} {px : SX → Prop} {B : S → State → Prop} {BX : String → SX → State → Prop} {AX : Nat → Prop} (hr : vx_Run p l e R s m args below meth c H locs cells slots mc ms (F0 m pc ls st0) rest (va_Qi post B A1 a) (vx_X px BX AX) free) (hS : va_S A0 H0 H locs) (hA : ∀ q, q < H.size → A1 q → A0 q) (hf : ∀ q, free q → A0 q) (hAX : ∀ q, q < H.size → AX q → A0 q)
    (kx : ∀ (E : String) (ce : Cell) (q9 : Addr) (u : SX) (t : State) (H1 : Heap) (locs1 : List Loc), t.heap = H1 → s.vm.Alike t.vm → px u → BX E u t → H.size ≤ H1.size → (∀ q : Nat, q < H.size → ¬ AX q → H1[q]? = H[q]?) → va_S A0 H0 H1 locs1 → H1[q9]? = some ce → ce.vm = .none → s.vm.findClass E = some ce.cls → vx_W p l e R s m args below meth c H1 locs1 (cells + mc) (slots + ms) Q (F0 m pc ls rest) q9)
    (kk : ∀ (r : Int32) (u : S) (t : State) (H1 : Heap) (locs1 : List Loc), t.heap = H1 → s.vm.Alike t.vm → post r u → B u t → H.size ≤ H1.size → (∀ q : Nat, q < H.size → ¬ A1 q → H1[q]? = H[q]?) → va_S A0 H0 H1 locs1 → W p l e R s m args below meth c H1 locs1 (cells + mc) (slots + ms) Q (F0 m (pc + 3) ls (.int r :: rest))) : W p l e R s m args below meth c H locs cells slots Q (F0 m pc ls st0) := by
  intro T hT X
  rcases hr T hT X with ⟨v, st₀, t, T', L, h0, X', hL, e1, e2, ⟨⟨r, u, hv, hp, hb⟩, hF⟩, st⟩ | ⟨q, st₀, t, T', L, E, ce, h0, X', hL, e1, e2, ⟨u, hp, hb, hF⟩, hce, hcv, hcl, st⟩
  · cases hv
    obtain ⟨k1, k2, k3⟩ := vx_keep h0 e1 hS hA hf hL hF
    obtain ⟨t2, a1, b1⟩ := kk r u t T'.heap (locs ++ L) e1.symm (by rw [← e2]; exact X'.warmed.alike) hp hb k1 k2 k3 T' rfl X'
    exact ⟨t2, st t2 a1, b1⟩
  · obtain ⟨k1, k2, k3⟩ := vx_keep h0 e1 hS hAX hf hL hF
    obtain ⟨t2, a1, b1⟩ := kx E ce q u t T'.heap (locs ++ L) e1.symm (by rw [← e2]; exact X'.warmed.alike) hp hb k1 k2 k3 (by rw [e1]; exact hce) hcv hcl T' rfl X'
    exact ⟨t2, st.trans a1, b1⟩
theorem vx_calll {S SX : Type} {post : Int64 → S → Prop} {px : SX → Prop} {B : S → State → Prop} {BX : String → SX → State → Prop} {AX : Nat → Prop} (hr : vx_Run p l e R s m args below meth c H locs cells slots mc ms (F0 m pc ls st0) rest (va_Ql post B A1 a) (vx_X px BX AX) free) (hS : va_S A0 H0 H locs) (hA : ∀ q, q < H.size → A1 q → A0 q) (hf : ∀ q, free q → A0 q) (hAX : ∀ q, q < H.size → AX q → A0 q)
    (kx : ∀ (E : String) (ce : Cell) (q9 : Addr) (u : SX) (t : State) (H1 : Heap) (locs1 : List Loc), t.heap = H1 → s.vm.Alike t.vm → px u → BX E u t → H.size ≤ H1.size → (∀ q : Nat, q < H.size → ¬ AX q → H1[q]? = H[q]?) → va_S A0 H0 H1 locs1 → H1[q9]? = some ce → ce.vm = .none → s.vm.findClass E = some ce.cls → vx_W p l e R s m args below meth c H1 locs1 (cells + mc) (slots + ms) Q (F0 m pc ls rest) q9)
    (kk : ∀ (r : Int64) (u : S) (t : State) (H1 : Heap) (locs1 : List Loc), t.heap = H1 → s.vm.Alike t.vm → post r u → B u t → H.size ≤ H1.size → (∀ q : Nat, q < H.size → ¬ A1 q → H1[q]? = H[q]?) → va_S A0 H0 H1 locs1 → W p l e R s m args below meth c H1 locs1 (cells + mc) (slots + ms) Q (F0 m (pc + 3) ls (.long r :: rest))) : W p l e R s m args below meth c H locs cells slots Q (F0 m pc ls st0) := by
  intro T hT X
  rcases hr T hT X with ⟨v, st₀, t, T', L, h0, X', hL, e1, e2, ⟨⟨r, u, hv, hp, hb⟩, hF⟩, st⟩ | ⟨q, st₀, t, T', L, E, ce, h0, X', hL, e1, e2, ⟨u, hp, hb, hF⟩, hce, hcv, hcl, st⟩
  · cases hv
    obtain ⟨k1, k2, k3⟩ := vx_keep h0 e1 hS hA hf hL hF
    obtain ⟨t2, a1, b1⟩ := kk r u t T'.heap (locs ++ L) e1.symm (by rw [← e2]; exact X'.warmed.alike) hp hb k1 k2 k3 T' rfl X'
    exact ⟨t2, st t2 a1, b1⟩
  · obtain ⟨k1, k2, k3⟩ := vx_keep h0 e1 hS hAX hf hL hF
    obtain ⟨t2, a1, b1⟩ := kx E ce q u t T'.heap (locs ++ L) e1.symm (by rw [← e2]; exact X'.warmed.alike) hp hb k1 k2 k3 (by rw [e1]; exact hce) hcv hcl T' rfl X'
    exact ⟨t2, st.trans a1, b1⟩
theorem vx_callf {S SX : Type} {post : UInt32 → S → Prop} {px : SX → Prop} {B : S → State → Prop} {BX : String → SX → State → Prop} {AX : Nat → Prop} (hr : vx_Run p l e R s m args below meth c H locs cells slots mc ms (F0 m pc ls st0) rest (va_Qf post B A1 a) (vx_X px BX AX) free) (hS : va_S A0 H0 H locs) (hA : ∀ q, q < H.size → A1 q → A0 q) (hf : ∀ q, free q → A0 q) (hAX : ∀ q, q < H.size → AX q → A0 q)
    (kx : ∀ (E : String) (ce : Cell) (q9 : Addr) (u : SX) (t : State) (H1 : Heap) (locs1 : List Loc), t.heap = H1 → s.vm.Alike t.vm → px u → BX E u t → H.size ≤ H1.size → (∀ q : Nat, q < H.size → ¬ AX q → H1[q]? = H[q]?) → va_S A0 H0 H1 locs1 → H1[q9]? = some ce → ce.vm = .none → s.vm.findClass E = some ce.cls → vx_W p l e R s m args below meth c H1 locs1 (cells + mc) (slots + ms) Q (F0 m pc ls rest) q9)
    (kk : ∀ (r : UInt32) (u : S) (t : State) (H1 : Heap) (locs1 : List Loc), t.heap = H1 → s.vm.Alike t.vm → post r u → B u t → H.size ≤ H1.size → (∀ q : Nat, q < H.size → ¬ A1 q → H1[q]? = H[q]?) → va_S A0 H0 H1 locs1 → W p l e R s m args below meth c H1 locs1 (cells + mc) (slots + ms) Q (F0 m (pc + 3) ls (.float r :: rest))) : W p l e R s m args below meth c H locs cells slots Q (F0 m pc ls st0) := by
  intro T hT X
  rcases hr T hT X with ⟨v, st₀, t, T', L, h0, X', hL, e1, e2, ⟨⟨r, u, hv, hp, hb⟩, hF⟩, st⟩ | ⟨q, st₀, t, T', L, E, ce, h0, X', hL, e1, e2, ⟨u, hp, hb, hF⟩, hce, hcv, hcl, st⟩
  · cases hv
    obtain ⟨k1, k2, k3⟩ := vx_keep h0 e1 hS hA hf hL hF
    obtain ⟨t2, a1, b1⟩ := kk r u t T'.heap (locs ++ L) e1.symm (by rw [← e2]; exact X'.warmed.alike) hp hb k1 k2 k3 T' rfl X'
    exact ⟨t2, st t2 a1, b1⟩
  · obtain ⟨k1, k2, k3⟩ := vx_keep h0 e1 hS hAX hf hL hF
    obtain ⟨t2, a1, b1⟩ := kx E ce q u t T'.heap (locs ++ L) e1.symm (by rw [← e2]; exact X'.warmed.alike) hp hb k1 k2 k3 (by rw [e1]; exact hce) hcv hcl T' rfl X'
    exact ⟨t2, st.trans a1, b1⟩
theorem vx_calld {S SX : Type} {post : UInt64 → S → Prop} {px : SX → Prop} {B : S → State → Prop} {BX : String → SX → State → Prop} {AX : Nat → Prop} (hr : vx_Run p l e R s m args below meth c H locs cells slots mc ms (F0 m pc ls st0) rest (va_Qd post B A1 a) (vx_X px BX AX) free) (hS : va_S A0 H0 H locs) (hA : ∀ q, q < H.size → A1 q → A0 q) (hf : ∀ q, free q → A0 q) (hAX : ∀ q, q < H.size → AX q → A0 q)
    (kx : ∀ (E : String) (ce : Cell) (q9 : Addr) (u : SX) (t : State) (H1 : Heap) (locs1 : List Loc), t.heap = H1 → s.vm.Alike t.vm → px u → BX E u t → H.size ≤ H1.size → (∀ q : Nat, q < H.size → ¬ AX q → H1[q]? = H[q]?) → va_S A0 H0 H1 locs1 → H1[q9]? = some ce → ce.vm = .none → s.vm.findClass E = some ce.cls → vx_W p l e R s m args below meth c H1 locs1 (cells + mc) (slots + ms) Q (F0 m pc ls rest) q9)
    (kk : ∀ (r : UInt64) (u : S) (t : State) (H1 : Heap) (locs1 : List Loc), t.heap = H1 → s.vm.Alike t.vm → post r u → B u t → H.size ≤ H1.size → (∀ q : Nat, q < H.size → ¬ A1 q → H1[q]? = H[q]?) → va_S A0 H0 H1 locs1 → W p l e R s m args below meth c H1 locs1 (cells + mc) (slots + ms) Q (F0 m (pc + 3) ls (.double r :: rest))) : W p l e R s m args below meth c H locs cells slots Q (F0 m pc ls st0) := by
  intro T hT X
  rcases hr T hT X with ⟨v, st₀, t, T', L, h0, X', hL, e1, e2, ⟨⟨r, u, hv, hp, hb⟩, hF⟩, st⟩ | ⟨q, st₀, t, T', L, E, ce, h0, X', hL, e1, e2, ⟨u, hp, hb, hF⟩, hce, hcv, hcl, st⟩
  · cases hv
    obtain ⟨k1, k2, k3⟩ := vx_keep h0 e1 hS hA hf hL hF
    obtain ⟨t2, a1, b1⟩ := kk r u t T'.heap (locs ++ L) e1.symm (by rw [← e2]; exact X'.warmed.alike) hp hb k1 k2 k3 T' rfl X'
    exact ⟨t2, st t2 a1, b1⟩
  · obtain ⟨k1, k2, k3⟩ := vx_keep h0 e1 hS hAX hf hL hF
    obtain ⟨t2, a1, b1⟩ := kx E ce q u t T'.heap (locs ++ L) e1.symm (by rw [← e2]; exact X'.warmed.alike) hp hb k1 k2 k3 (by rw [e1]; exact hce) hcv hcl T' rfl X'
    exact ⟨t2, st.trans a1, b1⟩
theorem vx_callv {S SX : Type} {post : S → Prop} {px : SX → Prop} {B : S → State → Prop} {BX : String → SX → State → Prop} {AX : Nat → Prop} (hr : vx_Run p l e R s m args below meth c H locs cells slots mc ms (F0 m pc ls st0) rest (va_Qv post B A1 a) (vx_X px BX AX) free) (hS : va_S A0 H0 H locs) (hA : ∀ q, q < H.size → A1 q → A0 q) (hf : ∀ q, free q → A0 q) (hAX : ∀ q, q < H.size → AX q → A0 q)
    (kx : ∀ (E : String) (ce : Cell) (q9 : Addr) (u : SX) (t : State) (H1 : Heap) (locs1 : List Loc), t.heap = H1 → s.vm.Alike t.vm → px u → BX E u t → H.size ≤ H1.size → (∀ q : Nat, q < H.size → ¬ AX q → H1[q]? = H[q]?) → va_S A0 H0 H1 locs1 → H1[q9]? = some ce → ce.vm = .none → s.vm.findClass E = some ce.cls → vx_W p l e R s m args below meth c H1 locs1 (cells + mc) (slots + ms) Q (F0 m pc ls rest) q9)
    (kk : ∀ (u : S) (t : State) (H1 : Heap) (locs1 : List Loc), t.heap = H1 → s.vm.Alike t.vm → post u → B u t → H.size ≤ H1.size → (∀ q : Nat, q < H.size → ¬ A1 q → H1[q]? = H[q]?) → va_S A0 H0 H1 locs1 → W p l e R s m args below meth c H1 locs1 (cells + mc) (slots + ms) Q (F0 m (pc + 3) ls (rest))) : W p l e R s m args below meth c H locs cells slots Q (F0 m pc ls st0) := by
  intro T hT X
  rcases hr T hT X with ⟨v, st₀, t, T', L, h0, X', hL, e1, e2, ⟨⟨u, hv, hp, hb⟩, hF⟩, st⟩ | ⟨q, st₀, t, T', L, E, ce, h0, X', hL, e1, e2, ⟨u, hp, hb, hF⟩, hce, hcv, hcl, st⟩
  · cases hv
    obtain ⟨k1, k2, k3⟩ := vx_keep h0 e1 hS hA hf hL hF
    obtain ⟨t2, a1, b1⟩ := kk u t T'.heap (locs ++ L) e1.symm (by rw [← e2]; exact X'.warmed.alike) hp hb k1 k2 k3 T' rfl X'
    exact ⟨t2, st t2 a1, b1⟩
  · obtain ⟨k1, k2, k3⟩ := vx_keep h0 e1 hS hAX hf hL hF
    obtain ⟨t2, a1, b1⟩ := kx E ce q u t T'.heap (locs ++ L) e1.symm (by rw [← e2]; exact X'.warmed.alike) hp hb k1 k2 k3 (by rw [e1]; exact hce) hcv hcl T' rfl X'
    exact ⟨t2, st.trans a1, b1⟩
/-- caught by the row x of this method's table; the rows ahead don't take it -/
theorem vx_catch {own name : String} {E : String} {ce : Cell} {q : Addr} (hown : s.vm.findClass own = some m.cls) (pre : List ExceptionTableEntry) (x : ExceptionTableEntry) (suf : List ExceptionTableEntry) (hsplit : c.exceptionTable.toList = pre ++ x :: suf)
    (hpass : ∀ z ∈ pre, covers z pc = false ∨ (z.catchType ≠ 0 ∧ ∃ nm : String, (Cond.classLink own z.catchType nm).before args s = true ∧ va_Nc E nm s)) (hx : covers x pc = true) (h0 : x.catchType ≠ 0)
    (hlink : (Cond.classLink own x.catchType name).before args s = true) (hcast : (Cond.castable E name).before args s = true) (hcell : H[q]? = some ce) (hv : ce.vm = .none) (hcl : s.vm.findClass E = some ce.cls)
    (kk : W p l e R s m args below meth c H locs cells slots Q (F0 m x.handlerPc ls [.ref q])) : vx_W p l e R s m args below meth c H locs cells slots Q (F0 m pc ls rest) q := by
  intro T hT X
  have hpl : e.platform.magicAccessors = ({} : Platform).magicAccessors := by rw [X.admits.platform]
  obtain ⟨c3, c4, hc3, hc4, hasg⟩ := Cond.castable_spec hcast
  cases Option.some.inj (hc3.symm.trans hcl)
  obtain ⟨c5, hc5, hcl5⟩ := Cond.classLink_spec hown hlink e.platform hpl
  cases Option.some.inj (hc4.symm.trans hc5)
  obtain ⟨vm', X', st⟩ := X.thenCaughtThrough q (g := F0 m pc ls rest) rfl (Steps.refl _) (by rw [hT]; exact hcell) (by rw [hv]; rfl) (by obtain ⟨k9, h9, -⟩ := Vm.findClass_spec hcl; exact ⟨k9, h9⟩) pre x suf hsplit
    (fun z hz => by
      rcases hpass z hz with h | ⟨hz0, nm, hl1, hn1⟩
      · exact Or.inl h
      · obtain ⟨c6, hc6, hcl6⟩ := Cond.classLink_spec hown hl1 e.platform hpl
        obtain ⟨a8, b8, h1, h2, h3⟩ := hn1
        cases Option.some.inj (h1.symm.trans hcl)
        cases Option.some.inj (h2.symm.trans hc6)
        exact Or.inr ⟨hz0, _, hcl6, h3⟩) hx (Or.inr ⟨h0, c4, hcl5, hasg⟩)
  obtain ⟨t, a1, b1⟩ := kk (T.setVm vm') hT X'
  exact ⟨t, st.trans a1, b1⟩
end Rows
section Ends
variable {p : Program} {l : Launch} {e : Env} {R : Room} {s : State} {m : MethodId} {args : Array Value} {below : List Frame} {meth : Method} {c : Code} {H : Heap} {locs : List Loc} {cells slots : Nat} {Q : State → Prop}
variable {mc ms : Nat} {free : Addr → Prop} {A0 A1 : Nat → Prop} {H0 : Heap} {a : Array Value} {ls : Array Slot} {st0 rest : List Value}
variable {Qc : Array Value → State → Outcome → State → Prop} {XC : String → State → State → Prop}
/-- what a body that may throw owes at its end -/
def vx_MQ (below : List Frame) (Qc : Array Value → State → Outcome → State → Prop) (XC : String → State → State → Prop) (a : Array Value) (s : State) (mc ms : Nat) (free : Addr → Prop) : State → Prop := fun t =>
  ∃ o, t.status = .running ∧ Ended t below o ∧ vx_Q Qc XC mc ms free a s o t
theorem vx_ret {g : JFrame} {mc ms : Nat} (k : W p l e R s m args below meth c H locs cells slots (MQ below Qc args s mc ms free) g) : W p l e R s m args below meth c H locs cells slots (vx_MQ below Qc XC args s mc ms free) g := by
  intro T hT X
  obtain ⟨t, a1, o, b1, b2, b3, b4⟩ := k T hT X
  exact ⟨t, a1, o, b1, b2, Or.inl ⟨b3, b4⟩⟩
/-- not caught here: it goes on to the caller -/
theorem vx_widen {g : JFrame} {q : Addr} {k n : Nat} (h1 : cells ≤ k) (h2 : slots ≤ n) (kk : vx_W p l e R s m args below meth c H locs k n Q g q) : vx_W p l e R s m args below meth c H locs cells slots Q g q := fun T hT X => kk T hT (stand_widen X h1 h2)
theorem vx_out {pc : Nat} {E : String} {ce : Cell} {q : Addr} {mc ms : Nat} (hout : ∀ x ∈ c.exceptionTable.toList, covers x pc = false) (hlocks : meth.locks = false) (hcell : H[q]? = some ce) (hv : ce.vm = .none) (hcl : s.vm.findClass E = some ce.cls)
    (hx : ∀ t : State, t.heap = H → s.vm.Alike t.vm → XC E s t) (hf : ∀ z ∈ locs, free z.base) (hc : cells ≤ mc) (hs : slots ≤ ms) :
    vx_W p l e R s m args below meth c H locs cells slots (vx_MQ below Qc XC args s mc ms free) (F0 m pc ls rest) q := by
  intro T hT X
  obtain ⟨st1, hrun, hend, hW, hsm⟩ := X.leaveThrown q (g := F0 m pc ls rest) rfl rfl rfl hout hlocks
  have hcell9 : (T.setFrames (.throwing q :: below)).heap[q]? = some ce := by
    show T.heap[q]? = some ce
    rw [hT]; exact hcell
  exact ⟨_, st1, .threw q, hrun, hend, Or.inr ⟨q, rfl, E, ce, locs, hx _ hT hW.alike, hcell9, hv, hcl, hW, hsm.mono hc hs, hf⟩⟩
theorem vx_frame {U : State} {k n : Nat} (h : s.sameButNew ({ U with vm := s.vm } : State) locs k n) : s.heap.size ≤ U.heap.size ∧ ∀ q : Nat, q < s.heap.size → (∀ z ∈ locs, z.base ≠ q) → U.heap[q]? = s.heap[q]? := by
  obtain ⟨-, h2, -, -, -, h6⟩ := h
  refine ⟨h2, fun q hq hz => ?_⟩
  obtain ⟨c9, e1, e2, e3, e4⟩ := h6 q _ (Array.getElem?_eq_getElem hq)
  have hs : c9.slots = (s.heap[q]).slots := Array.ext_getElem? fun i => e4 i fun hm => hz _ hm rfl
  have h9 : c9 = s.heap[q] := by
    rw [hs] at e2
    exact e2
  have e5 : U.heap[q]? = some c9 := e1
  rw [e5, h9, Array.getElem?_eq_getElem hq]
/-- the words of a throw but the four that speak of the heap -/
def vx_no (w : Cond) : Bool := decide (w ≠ .isRef (.static Bundle.tN "UNASSIGNED_STACK" Bundle.steD)) && decide (w ≠ .isRef (.static Bundle.tN "SUPPRESSED_SENTINEL" Bundle.listD)) && decide (w ≠ .laysStatic Bundle.tN "UNASSIGNED_STACK" Bundle.steD) && decide (w ≠ .laysStatic Bundle.tN "SUPPRESSED_SENTINEL" Bundle.listD)
def vx_at0 (own : String) (ic : Nat) (X : String) (names : List String) : List Cond := (Bundle.ownAtoms0 own ic X names).filter vx_no
def vx_atS (own : String) (ic : Nat) (X : String) (names : List String) : List Cond := (Bundle.ownAtoms own ic X names).filter vx_no
/-- a word that the tables alone decide, or a good one -/
def vx_ot (w : Cond) : Bool := w.onTables || goodWord w
theorem vx_ot_at {args a' : Array Value} {s U : State} {w : Cond} (hW : s.WarmedH U.vm) (hvm : s.vm = U.vm) (hg : vx_ot w = true) (h : w.before args s = true) : w.before a' U = true := by
  simp only [vx_ot, Bool.or_eq_true] at hg
  rcases hg with hg | hg
  · exact va_tabs hg hvm h
  · exact word_at hW (good_of_word hg) h
/-- a list's words: the good ones out of the method's own list, the others by premises of their own -/
theorem vx_hat {args : Array Value} {s : State} {L B : List Cond} (h1 : ∀ w ∈ L.filter goodWord, w.before args s = true) (h2 : ∀ w ∈ L.filter (fun w => !goodWord w), w ∈ B) (h3 : ∀ w ∈ B, w.before args s = true) : ∀ w ∈ L, w.before args s = true := by
  intro w hw
  by_cases g : goodWord w = true
  · exact h1 w (List.mem_filter.mpr ⟨hw, g⟩)
  · refine h3 w (h2 w (List.mem_filter.mpr ⟨hw, ?_⟩))
    show (!goodWord w) = true
    cases hgw : goodWord w
    · rfl
    · exact absurd hgw g
theorem vx_c {args : Array Value} {s : State} {w : Cond} {B : List Cond} (h : w.before args s = true) (t : ∀ w ∈ B, w.before args s = true) : ∀ w' ∈ w :: B, w'.before args s = true := fun w' h' => (List.mem_cons.mp h').elim (fun e => by rw [e]; exact h) (t w')
theorem vx_n {args : Array Value} {s : State} : ∀ w ∈ ([] : List Cond), w.before args s = true := fun _ h => nomatch h
theorem vx_own {args : Array Value} {s : State} {L : List Cond} (h1 : ∀ w ∈ L.filter vx_no, w.before args s = true)
    (hU : (Cond.isRef (.static Bundle.tN "UNASSIGNED_STACK" Bundle.steD)).before args s = true) (hN : (Cond.isRef (.static Bundle.tN "SUPPRESSED_SENTINEL" Bundle.listD)).before args s = true)
    (lU : (Cond.laysStatic Bundle.tN "UNASSIGNED_STACK" Bundle.steD).before args s = true) (lN : (Cond.laysStatic Bundle.tN "SUPPRESSED_SENTINEL" Bundle.listD).before args s = true) : ∀ w ∈ L, w.before args s = true := by
  intro w hw
  by_cases e1 : w = .isRef (.static Bundle.tN "UNASSIGNED_STACK" Bundle.steD)
  · rw [e1]; exact hU
  · by_cases e2 : w = .isRef (.static Bundle.tN "SUPPRESSED_SENTINEL" Bundle.listD)
    · rw [e2]; exact hN
    · by_cases e3 : w = .laysStatic Bundle.tN "UNASSIGNED_STACK" Bundle.steD
      · rw [e3]; exact lU
      · by_cases e4 : w = .laysStatic Bundle.tN "SUPPRESSED_SENTINEL" Bundle.listD
        · rw [e4]; exact lN
        · exact h1 w (List.mem_filter.mpr ⟨hw, by unfold vx_no; rw [decide_eq_true e1, decide_eq_true e2, decide_eq_true e3, decide_eq_true e4]; rfl⟩)
/-- where a static field lies, its class's statics cell in H -/
def vx_L (C n d : String) (A : Nat → Prop) (U : State) (H : Heap) : Prop := ∃ (c : ClassId) (k : Class) (i : Nat) (f : Field) (a : Nat) (cell : Cell), U.vm.findClass C = some c ∧ U.fieldFound? C n d = some (c, k, i, f) ∧ f.isStatic = true ∧ k.statics = some a ∧ H[a]? = some cell ∧ cell.vm.isStatics = true ∧ cell.cls = c ∧ f.slot < cell.slots.size ∧ k.staticTypes[f.slot]? = some f.type ∧ ¬ A a
theorem vx_L.moved {C n d : String} {A : Nat → Prop} {u U : State} {H : Heap} (hvm : u.vm.Alike U.vm) (h : vx_L C n d A u H) : vx_L C n d A U H := by
  obtain ⟨c, k, i, f, a, cell, h1, h2, h3, h4, h5, h6, h7, h8, h9, h10⟩ := h
  obtain ⟨k', hi', he⟩ := State.fieldFound?_setVm hvm h2
  exact ⟨c, k', i, f, a, cell, by rw [hvm.findClass]; exact h1, hi', h3, by rw [he]; exact h4, h5, h6, h7, h8, by rw [he]; exact h9, h10⟩
theorem vx_L.kept {C n d : String} {A : Nat → Prop} {U : State} {H H1 : Heap} (h : vx_L C n d A U H) (hq : ∀ a : Nat, a < H.size → ¬ A a → H1[a]? = H[a]?) : vx_L C n d A U H1 := by
  obtain ⟨c, k, i, f, a, cell, h1, h2, h3, h4, h5, h6, h7, h8, h9, h10⟩ := h
  exact ⟨c, k, i, f, a, cell, h1, h2, h3, h4, by rw [hq a (Array.getElem?_eq_some_iff.mp h5).1 h10]; exact h5, h6, h7, h8, h9, h10⟩
theorem vx_L.narrow {C n d : String} {A B : Nat → Prop} {U : State} {H : Heap} (h : vx_L C n d A U H) (hAB : ∀ q, B q → A q) : vx_L C n d B U H := by
  obtain ⟨c, k, i, f, a, cell, h1, h2, h3, h4, h5, h6, h7, h8, h9, h10⟩ := h
  exact ⟨c, k, i, f, a, cell, h1, h2, h3, h4, h5, h6, h7, h8, h9, fun z => h10 (hAB _ z)⟩
theorem vx_L.word {C n d : String} {A : Nat → Prop} {s : State} {args : Array Value} (h : vx_L C n d A s s.heap) : (Cond.laysStatic C n d).before args s = true := by
  obtain ⟨c, k, i, f, a, cell, h1, h2, h3, h4, h5, h6, h7, h8, h9, -⟩ := h
  show (Cond.laysStatic C n d).holds args s none s [] = true
  exact Cond.laysStatic_of h1 h2 h3 h4 h5 h6 h7 h8 h9
/-- .. and what it holds: null or some reference -/
def vx_Zq (C n d : String) (A : Nat → Prop) (U : State) (H : Heap) : Prop := va_Zq C n d A U H ∧ vx_L C n d A U H
theorem vx_Zq.moved {C n d : String} {A : Nat → Prop} {u U : State} {H : Heap} (hvm : u.vm.Alike U.vm) (h : vx_Zq C n d A u H) : vx_Zq C n d A U H := ⟨va_Zq.moved hvm h.1, vx_L.moved hvm h.2⟩
theorem vx_Zq.kept {C n d : String} {A : Nat → Prop} {U : State} {H H1 : Heap} (h : vx_Zq C n d A U H) (hq : ∀ a : Nat, a < H.size → ¬ A a → H1[a]? = H[a]?) : vx_Zq C n d A U H1 := ⟨va_Zq.kept h.1 hq, vx_L.kept h.2 hq⟩
theorem vx_Zq.narrow {C n d : String} {A B : Nat → Prop} {U : State} {H : Heap} (h : vx_Zq C n d A U H) (hAB : ∀ q, B q → A q) : vx_Zq C n d B U H := ⟨va_Zq.narrow h.1 hAB, vx_L.narrow h.2 hAB⟩
theorem vx_Zqof {args : Array Value} {s : State} {C n d : String} {A : Nat → Prop} (hl : (Cond.laysStatic C n d).before args s = true) (hini : (Cond.initialized C).before args s = true) (h : (Cond.isRef (.static C n d)).before args s = true) (hA : ∀ a : Nat, a < s.heap.size → ¬ A a) : vx_Zq C n d A s s.heap := by
  refine ⟨va_Zqof hl hini h hA, ?_⟩
  obtain ⟨c, k, i, f, a, cell, h1, h2, h3, h4, h5, h6, h7, h8, h9⟩ := Cond.laysStatic_spec hl
  exact ⟨c, k, i, f, a, cell, h1, h2, h3, h4, h5, h6, h7, h8, h9, hA a (Array.getElem?_eq_some_iff.mp h5).1⟩
theorem vx_isRef {C n d : String} {v : Value} {A : Nat → Prop} {s : State} {args : Array Value} (h : va_Z C n d v A s s.heap) (hv : v.isRef = true) : (Cond.isRef (.static C n d)).before args s = true := by
  obtain ⟨cf, kf, fi, f, a, cell, h1, h2, h3, h4, h5, h6, h7, -⟩ := h
  have he : (Term.static C n d).eval args s none [] s = some v := by
    simp [Term.eval, State.fieldNamed?, h1, h2, h4, h5, h6, h7]
  simp only [Cond.before, Cond.holds, Cond.value, he]
  cases v <;> simp_all [Value.isRef]
theorem vx_isRefq {C n d : String} {A : Nat → Prop} {s : State} {args : Array Value} (h : va_Zq C n d A s s.heap) : (Cond.isRef (.static C n d)).before args s = true := by
  rcases h with h | ⟨t, h⟩
  · exact vx_isRef h rfl
  · exact vx_isRef h rfl
/-- the same frame, seen from here: as if the method were called anew in this heap -/
theorem vx_rebase {T : State} (X : Stand p l e R s m args below meth c T locs cells slots) {R' : Room} (hf : R'.frames ≤ R.frames) (hl : R'.locals ≤ R.locals) (hc : cells + R'.cells ≤ R.cells) (hs : slots + R'.slots ≤ R.slots) :
    Stand p l e R' ((T.setVm s.vm).setFrames (.invoking m args :: below)) m args below meth c T [] 0 0 := by
  have htop : (T.setVm s.vm).topJava?.isSome := X.here.top
  have hF : ((T.setVm s.vm).setFrames (.invoking m args :: below)).frames = .invoking m args :: below := State.frames_setFrames _ (State.cur_lt_of_top htop)
  obtain ⟨g₀, hg0⟩ := Option.isSome_iff_exists.mp htop
  obtain ⟨r, hr⟩ := State.topJava?_eq_some.mp hg0
  have hl9 : e.platform.stackLimits (T.setVm s.vm).me = e.platform.stackLimits s.me := X.limits
  have hb9 : (T.setVm s.vm).me.stackBytes = s.me.stackBytes := X.bytes
  refine ⟨X.admits, X.cas, X.clock, hF, ?_, X.hears, X.method, X.code, X.here, X.tail, X.warmed, ?_, ?_, ?_⟩
  · have h := X.room
    have hU : ((T.setVm s.vm).setFrames (.invoking m args :: below)).localsInUse = s.localsInUse := by
      rw [State.localsInUse_invoking hF (meth := meth) (c := c) X.method X.code, State.localsInUse_invoking X.frames X.method X.code]
    simp only [State.hasRoom, Bool.and_eq_true, decide_eq_true_eq] at h ⊢
    obtain ⟨⟨⟨⟨h1, h2, h3, h4, h5, h6⟩, h7⟩, h8⟩, h9⟩ := h
    rw [X.frames, List.length_cons] at h2 h3
    have q1 := X.heapSize
    have q2 := X.used
    simp only [hF, hU, List.length_cons, State.stackLimits_setFrames, State.stackBytes_setFrames, hl9, hb9]
    refine ⟨⟨⟨⟨by omega, by omega, by omega, by omega, by omega, h6⟩, ?_⟩, ?_⟩, X.book⟩
    · show T.heap.size + R'.cells ≤ e.platform.maxCells
      omega
    · show T.slotsUsed + R'.slots ≤ e.platform.maxSlots
      omega
  · rw [State.stackLimits_setFrames]; rfl
  · rw [State.stackBytes_setFrames]; rfl
  · refine ⟨?_, Nat.le_refl _, Nat.le_refl _, ?_, ?_, fun a c9 h9 => ⟨c9, h9, rfl, rfl, fun _ _ => rfl⟩⟩
    · obtain ⟨t, ht, -⟩ := State.frames_cons hr
      show T.setVm s.vm = { ((T.setVm s.vm).setFrames (.invoking m args :: below)).setFrames (T.setVm s.vm).frames with heap := T.heap, slotsUsed := T.slotsUsed }
      rw [State.setFrames_setFrames, State.setFrames_self ht]
      rfl
    · show T.slotsUsed = T.slotsUsed + ((T.heap.toList.drop T.heap.size).map (·.slots.size)).sum
      rw [List.drop_eq_nil_of_le (Nat.le_of_eq Array.length_toList)]
      rfl
    · show ((T.heap.toList.drop T.heap.size).map (·.slots.size)).sum ≤ 0
      rw [List.drop_eq_nil_of_le (Nat.le_of_eq Array.length_toList)]
      exact Nat.le_refl _
/-- 'throw new E()': new; dup; invokespecial; athrow -/
theorem vx_throw0 {cc : ByteArray} {pc : Nat} (hexec : p.tables.exec = Jvm.exec) (hb : c.code = cc) (hl : l.stackTraces = false) {own cls : String} {names : List String} {ik ic mc ms : Nat} {A : Nat → Prop}
    (hown : s.vm.findClass own = some m.cls) (hcls : Bundle.fit cls = true) (hnames : ∀ n ∈ names, Bundle.fit n = true)
    (hk : (Cond.classLink own ik cls).before args s = true) (hini : (Cond.initialized cls).before args s = true) (hat : ∀ w ∈ vx_at0 own ic cls names, w.before args s = true)
    (hgood : ∀ w ∈ Cond.classLink own ik cls :: Cond.initialized cls :: vx_at0 own ic cls names, vx_ot w = true)
    (hU : vx_Zq Bundle.tN "UNASSIGNED_STACK" Bundle.steD A s s.heap) (hN : vx_Zq Bundle.tN "SUPPRESSED_SENTINEL" Bundle.listD A s s.heap) (hS : va_S A s.heap H locs) (hsize : ls.size = c.maxLocals)
    (d0 : decode cc pc = .ok (.new ik, 3)) (d3 : decode cc (pc + 3) = .ok (.dup, 1)) (d4 : decode cc (pc + 4) = .ok (.invokespecial ic, 3)) (d7 : decode cc (pc + 7) = .ok (.athrow, 1))
    (hout : ∀ x ∈ c.exceptionTable.toList, covers x (pc + 7) = false)
    (hRframes : names.length + 3 < R.frames) (hRlocals : (rest.map fun v => v.category).sum + (13 * (names.length + 1) + 42) ≤ R.locals) (hRcells : cells + 1 ≤ R.cells) (hRslots : slots + 6 ≤ R.slots) (hlocks : meth.locks = false)
    (hx : ∀ t : State, s.vm.Alike t.vm → H.size ≤ t.heap.size → (∀ q : Nat, q < H.size → t.heap[q]? = H[q]?) → XC cls s t)
    (hf : ∀ z ∈ locs, free z.base) (hc : cells + 1 ≤ mc) (hs : slots + 6 ≤ ms) :
    W p l e R s m args below meth c H locs cells slots (vx_MQ below Qc XC args s mc ms free) (F0 m pc ls rest) := by
  intro T hT X
  have htr : e.platform.stackTraces = false := (show e.platform.stackTraces = l.stackTraces by rw [X.admits.platform]).trans hl
  have Y := vx_rebase X (R' := { frames := R.frames, locals := R.locals, cells := 1, slots := 6 }) (Nat.le_refl _) (Nat.le_refl _) hRcells hRslots
  obtain ⟨s', hA⟩ : ∃ z, z = (T.setVm s.vm).setFrames (.invoking m args :: below) := ⟨_, rfl⟩
  rw [← hA] at Y
  have hvm : s'.vm = s.vm := by rw [hA]; rfl
  have hhp : s'.heap = H := by rw [hA]; exact hT
  have hW0 : s.WarmedH s'.vm := by rw [hvm]; exact State.WarmedH.refl s
  have hat' : ∀ w ∈ vx_at0 own ic cls names, w.before args s' = true := fun w hw => vx_ot_at hW0 hvm.symm (hgood w (List.mem_cons_of_mem _ (List.mem_cons_of_mem _ hw))) (hat w hw)
  have hk' : (Cond.classLink own ik cls).before args s' = true := vx_ot_at hW0 hvm.symm (hgood _ List.mem_cons_self) hk
  have hini' : (Cond.initialized cls).before args s' = true := vx_ot_at hW0 hvm.symm (hgood _ (List.mem_cons_of_mem _ List.mem_cons_self)) hini
  have hU' : vx_Zq Bundle.tN "UNASSIGNED_STACK" Bundle.steD A s' s'.heap := by rw [hhp]; exact vx_Zq.moved hW0.alike (hU.kept hS.2.1)
  have hN' : vx_Zq Bundle.tN "SUPPRESSED_SENTINEL" Bundle.listD A s' s'.heap := by rw [hhp]; exact vx_Zq.moved hW0.alike (hN.kept hS.2.1)
  have h : ∀ w ∈ Bundle.ownAtoms0 own ic cls names, w.before args s' = true := vx_own hat' (vx_isRefq hU'.1) (vx_isRefq hN'.1) hU'.2.word hN'.2.word
  have hown' : s'.vm.findClass own = some m.cls := by rw [hvm]; exact hown
  have hins : (Cond.instantiable cls 6).before args s' = true := h _ (by simp [Bundle.ownAtoms0])
  obtain ⟨vm₁, cX, kX, hfX, hkX, -, -, X₁, st1⟩ := Y.newCold hexec (own := own) (C := cls) (index := ik) (n := 6) hown' hk' hins hini'
    (g := F0 m pc ls rest) rfl (by rw [hb]; exact d0) (Nat.le_refl _) (Nat.le_refl _)
  generalize hT1 : (T.setVm vm₁).pushCell { cls := cX, slots := kX.instanceTypes.map defaultValue, vm := .none } = T1 at X₁ st1
  have hcat : (Value.ref T.heap.size).category = 1 := rfl
  have hcellA : T1.heap[T.heap.size]? = some (freshCell cX kX) := by rw [← hT1]; exact State.heap_pushCell_size _ _
  have d3' : decode c.code (pc + 3) = .ok (.dup, 1) := by rw [hb]; exact d3
  obtain ⟨U, hsteps, hrun, hend, hW, hsame, ce, hce, hO⟩ := X₁.ctorThrow0 hexec htr (own := own) (cls := cls) (names := names) (ic := ic) hown' hcls hnames h (fun x hx => nomatch hx) hfX hkX hcellA (by rw [hhp, hT]; exact Nat.le_refl _)
    (g := { method := m, pc := pc + 4, locals := ls, stack := .ref T.heap.size :: .ref T.heap.size :: rest, locked := none }) rfl hsize rfl rfl (rest := rest) rfl
    (by rw [hb]; exact d4) (by rw [hb]; exact d7) hout hRframes (by simp only [List.map_cons, List.sum_cons, hcat]; omega) hlocks
  obtain ⟨f1, f2⟩ := vx_frame hsame
  rw [hhp] at f1 f2
  have hWs : s.WarmedH U.vm := State.WarmedH.trans hW0 hW
  have hcl : s.vm.findClass cls = some ce.cls := by
    have h9 := hO.cls
    rw [hvm] at h9
    exact h9
  have hall : s.sameButNew ({ U with vm := s.vm } : State) locs mc ms := by
    subst hA
    obtain ⟨e1, e2⟩ := hsame
    rw [State.setFrames_setFrames] at e1
    have h2 : (T.setVm s.vm).sameButNew ({ U with vm := s.vm } : State) [] (0 + 1) (0 + 6) := ⟨e1, e2⟩
    have h3 := X.same.trans h2
    rw [List.append_nil] at h3
    exact h3.mono hc hs
  refine ⟨U, ?_, .threw T.heap.size, hrun, hend, Or.inr ⟨T.heap.size, rfl, cls, ce, locs, hx U hWs.alike f1 (fun q hq => f2 q hq (fun z hz => nomatch hz)), hce, hO.vm, hcl, hWs, hall, hf⟩⟩
  refine st1 _ ?_
  show Steps p.tables e below (T1.setTop { method := m, pc := pc + 3, locals := ls, stack := .ref T.heap.size :: rest, locked := none }) _
  jvm_step X₁.here [X₁.here.top, hexec, d3', Value.category]
  exact hsteps
/-- 'throw new E("text")': new; dup; ldc; invokespecial; athrow -/
theorem vx_throwS {cc : ByteArray} {pc : Nat} (hexec : p.tables.exec = Jvm.exec) (hb : c.code = cc) (hl : l.stackTraces = false) {own cls text : String} {names : List String} {ik is ic mc ms sa : Nat} {A : Nat → Prop}
    (hown : s.vm.findClass own = some m.cls) (hcls : Bundle.fit cls = true) (hnames : ∀ n ∈ names, Bundle.fit n = true)
    (hk : (Cond.classLink own ik cls).before args s = true) (hini : (Cond.initialized cls).before args s = true) (hstr : vk_R own is text sa s) (hat : ∀ w ∈ vx_atS own ic cls names, w.before args s = true)
    (hgood : ∀ w ∈ Cond.classLink own ik cls :: Cond.initialized cls :: vx_atS own ic cls names, vx_ot w = true)
    (hU : vx_Zq Bundle.tN "UNASSIGNED_STACK" Bundle.steD A s s.heap) (hN : vx_Zq Bundle.tN "SUPPRESSED_SENTINEL" Bundle.listD A s s.heap) (hS : va_S A s.heap H locs) (hsize : ls.size = c.maxLocals)
    (d0 : decode cc pc = .ok (.new ik, 3)) (d3 : decode cc (pc + 3) = .ok (.dup, 1)) (d4 : decode cc (pc + 4) = .ok (.ldc is, 2)) (d6 : decode cc (pc + 6) = .ok (.invokespecial ic, 3)) (d9 : decode cc (pc + 9) = .ok (.athrow, 1))
    (hout : ∀ x ∈ c.exceptionTable.toList, covers x (pc + 9) = false)
    (hRframes : names.length + 3 < R.frames) (hRlocals : (rest.map fun v => v.category).sum + (13 * (names.length + 1) + 43) ≤ R.locals) (hRcells : cells + 1 ≤ R.cells) (hRslots : slots + 6 ≤ R.slots) (hlocks : meth.locks = false)
    (hx : ∀ t : State, s.vm.Alike t.vm → H.size ≤ t.heap.size → (∀ q : Nat, q < H.size → t.heap[q]? = H[q]?) → XC cls s t)
    (hf : ∀ z ∈ locs, free z.base) (hc : cells + 1 ≤ mc) (hs : slots + 6 ≤ ms) :
    W p l e R s m args below meth c H locs cells slots (vx_MQ below Qc XC args s mc ms free) (F0 m pc ls rest) := by
  intro T hT X
  have htr : e.platform.stackTraces = false := (show e.platform.stackTraces = l.stackTraces by rw [X.admits.platform]).trans hl
  have Y := vx_rebase X (R' := { frames := R.frames, locals := R.locals, cells := 1, slots := 6 }) (Nat.le_refl _) (Nat.le_refl _) hRcells hRslots
  obtain ⟨s', hA⟩ : ∃ z, z = (T.setVm s.vm).setFrames (.invoking m args :: below) := ⟨_, rfl⟩
  rw [← hA] at Y
  have hvm : s'.vm = s.vm := by rw [hA]; rfl
  have hhp : s'.heap = H := by rw [hA]; exact hT
  have hW0 : s.WarmedH s'.vm := by rw [hvm]; exact State.WarmedH.refl s
  have hat' : ∀ w ∈ vx_atS own ic cls names, w.before args s' = true := fun w hw => vx_ot_at hW0 hvm.symm (hgood w (List.mem_cons_of_mem _ (List.mem_cons_of_mem _ hw))) (hat w hw)
  have hk' : (Cond.classLink own ik cls).before args s' = true := vx_ot_at hW0 hvm.symm (hgood _ List.mem_cons_self) hk
  have hini' : (Cond.initialized cls).before args s' = true := vx_ot_at hW0 hvm.symm (hgood _ (List.mem_cons_of_mem _ List.mem_cons_self)) hini
  have hU' : vx_Zq Bundle.tN "UNASSIGNED_STACK" Bundle.steD A s' s'.heap := by rw [hhp]; exact vx_Zq.moved hW0.alike (hU.kept hS.2.1)
  have hN' : vx_Zq Bundle.tN "SUPPRESSED_SENTINEL" Bundle.listD A s' s'.heap := by rw [hhp]; exact vx_Zq.moved hW0.alike (hN.kept hS.2.1)
  have h : ∀ w ∈ Bundle.ownAtoms own ic cls names, w.before args s' = true := vx_own hat' (vx_isRefq hU'.1) (vx_isRefq hN'.1) hU'.2.word hN'.2.word
  have hown' : s'.vm.findClass own = some m.cls := by rw [hvm]; exact hown
  have hins : (Cond.instantiable cls 6).before args s' = true := h _ (by simp [Bundle.ownAtoms])
  obtain ⟨vm₁, cX, kX, hfX, hkX, -, -, X₁, st1⟩ := Y.newCold hexec (own := own) (C := cls) (index := ik) (n := 6) hown' hk' hins hini'
    (g := F0 m pc ls rest) rfl (by rw [hb]; exact d0) (Nat.le_refl _) (Nat.le_refl _)
  generalize hT1 : (T.setVm vm₁).pushCell { cls := cX, slots := kX.instanceTypes.map defaultValue, vm := .none } = T1 at X₁ st1
  have hcat : (Value.ref T.heap.size).category = 1 := rfl
  have hcellA : T1.heap[T.heap.size]? = some (freshCell cX kX) := by rw [← hT1]; exact State.heap_pushCell_size _ _
  have d3' : decode c.code (pc + 3) = .ok (.dup, 1) := by rw [hb]; exact d3
  have d4' : decode c.code (pc + 4) = .ok (.ldc is, 2) := by rw [hb]; exact d4
  have hstr' : vk_R own is text sa s' := vk_R.warm hW0 hstr
  obtain ⟨U, hsteps, hrun, hend, hW, hsame, ce, hce, hO⟩ := X₁.ctorThrowS hexec htr (own := own) (cls := cls) (names := names) (ic := ic) hown' hcls hnames h (fun x hx => nomatch hx) hfX hkX hcellA (by rw [hhp, hT]; exact Nat.le_refl _) (msg := .ref sa) rfl
    (g := { method := m, pc := pc + 6, locals := ls, stack := .ref sa :: .ref T.heap.size :: .ref T.heap.size :: rest, locked := none }) rfl hsize rfl rfl (rest := rest) rfl
    (by rw [hb]; exact d6) (by rw [hb]; exact d9) hout hRframes (by simp only [List.map_cons, List.sum_cons, hcat]; omega) hlocks
  obtain ⟨f1, f2⟩ := vx_frame hsame
  rw [hhp] at f1 f2
  have hWs : s.WarmedH U.vm := State.WarmedH.trans hW0 hW
  have hcl : s.vm.findClass cls = some ce.cls := by
    have h9 := hO.cls
    rw [hvm] at h9
    exact h9
  have hall : s.sameButNew ({ U with vm := s.vm } : State) locs mc ms := by
    subst hA
    obtain ⟨e1, e2⟩ := hsame
    rw [State.setFrames_setFrames] at e1
    have h2 : (T.setVm s.vm).sameButNew ({ U with vm := s.vm } : State) [] (0 + 1) (0 + 6) := ⟨e1, e2⟩
    have h3 := X.same.trans h2
    rw [List.append_nil] at h3
    exact h3.mono hc hs
  refine ⟨U, ?_, .threw T.heap.size, hrun, hend, Or.inr ⟨T.heap.size, rfl, cls, ce, locs, hx U hWs.alike f1 (fun q hq => f2 q hq (fun z hz => nomatch hz)), hce, hO.vm, hcl, hWs, hall, hf⟩⟩
  refine st1 _ ?_
  show Steps p.tables e below (T1.setTop { method := m, pc := pc + 3, locals := ls, stack := .ref T.heap.size :: rest, locked := none }) _
  jvm_step X₁.here [X₁.here.top, hexec, d3', Value.category]
  exact X₁.ldcString hexec (own := own) (text := text) (index := is) (a := sa) hown' hstr'.1 hstr'.2
    (g := { method := m, pc := pc + 4, locals := ls, stack := .ref T.heap.size :: .ref T.heap.size :: rest, locked := none }) rfl d4' _ hsteps
/-- 'throw new E("text")', the text by a wide index -/
theorem vx_throwSW {cc : ByteArray} {pc : Nat} (hexec : p.tables.exec = Jvm.exec) (hb : c.code = cc) (hl : l.stackTraces = false) {own cls text : String} {names : List String} {ik is ic mc ms sa : Nat} {A : Nat → Prop}
    (hown : s.vm.findClass own = some m.cls) (hcls : Bundle.fit cls = true) (hnames : ∀ n ∈ names, Bundle.fit n = true)
    (hk : (Cond.classLink own ik cls).before args s = true) (hini : (Cond.initialized cls).before args s = true) (hstr : vk_R own is text sa s) (hat : ∀ w ∈ vx_atS own ic cls names, w.before args s = true)
    (hgood : ∀ w ∈ Cond.classLink own ik cls :: Cond.initialized cls :: vx_atS own ic cls names, vx_ot w = true)
    (hU : vx_Zq Bundle.tN "UNASSIGNED_STACK" Bundle.steD A s s.heap) (hN : vx_Zq Bundle.tN "SUPPRESSED_SENTINEL" Bundle.listD A s s.heap) (hS : va_S A s.heap H locs) (hsize : ls.size = c.maxLocals)
    (d0 : decode cc pc = .ok (.new ik, 3)) (d3 : decode cc (pc + 3) = .ok (.dup, 1)) (d4 : decode cc (pc + 4) = .ok (.ldc_w is, 3)) (d7 : decode cc (pc + 7) = .ok (.invokespecial ic, 3)) (d10 : decode cc (pc + 10) = .ok (.athrow, 1))
    (hout : ∀ x ∈ c.exceptionTable.toList, covers x (pc + 10) = false)
    (hRframes : names.length + 3 < R.frames) (hRlocals : (rest.map fun v => v.category).sum + (13 * (names.length + 1) + 43) ≤ R.locals) (hRcells : cells + 1 ≤ R.cells) (hRslots : slots + 6 ≤ R.slots) (hlocks : meth.locks = false)
    (hx : ∀ t : State, s.vm.Alike t.vm → H.size ≤ t.heap.size → (∀ q : Nat, q < H.size → t.heap[q]? = H[q]?) → XC cls s t)
    (hf : ∀ z ∈ locs, free z.base) (hc : cells + 1 ≤ mc) (hs : slots + 6 ≤ ms) :
    W p l e R s m args below meth c H locs cells slots (vx_MQ below Qc XC args s mc ms free) (F0 m pc ls rest) := by
  intro T hT X
  have htr : e.platform.stackTraces = false := (show e.platform.stackTraces = l.stackTraces by rw [X.admits.platform]).trans hl
  have Y := vx_rebase X (R' := { frames := R.frames, locals := R.locals, cells := 1, slots := 6 }) (Nat.le_refl _) (Nat.le_refl _) hRcells hRslots
  obtain ⟨s', hA⟩ : ∃ z, z = (T.setVm s.vm).setFrames (.invoking m args :: below) := ⟨_, rfl⟩
  rw [← hA] at Y
  have hvm : s'.vm = s.vm := by rw [hA]; rfl
  have hhp : s'.heap = H := by rw [hA]; exact hT
  have hW0 : s.WarmedH s'.vm := by rw [hvm]; exact State.WarmedH.refl s
  have hat' : ∀ w ∈ vx_atS own ic cls names, w.before args s' = true := fun w hw => vx_ot_at hW0 hvm.symm (hgood w (List.mem_cons_of_mem _ (List.mem_cons_of_mem _ hw))) (hat w hw)
  have hk' : (Cond.classLink own ik cls).before args s' = true := vx_ot_at hW0 hvm.symm (hgood _ List.mem_cons_self) hk
  have hini' : (Cond.initialized cls).before args s' = true := vx_ot_at hW0 hvm.symm (hgood _ (List.mem_cons_of_mem _ List.mem_cons_self)) hini
  have hU' : vx_Zq Bundle.tN "UNASSIGNED_STACK" Bundle.steD A s' s'.heap := by rw [hhp]; exact vx_Zq.moved hW0.alike (hU.kept hS.2.1)
  have hN' : vx_Zq Bundle.tN "SUPPRESSED_SENTINEL" Bundle.listD A s' s'.heap := by rw [hhp]; exact vx_Zq.moved hW0.alike (hN.kept hS.2.1)
  have h : ∀ w ∈ Bundle.ownAtoms own ic cls names, w.before args s' = true := vx_own hat' (vx_isRefq hU'.1) (vx_isRefq hN'.1) hU'.2.word hN'.2.word
  have hown' : s'.vm.findClass own = some m.cls := by rw [hvm]; exact hown
  have hins : (Cond.instantiable cls 6).before args s' = true := h _ (by simp [Bundle.ownAtoms])
  obtain ⟨vm₁, cX, kX, hfX, hkX, -, -, X₁, st1⟩ := Y.newCold hexec (own := own) (C := cls) (index := ik) (n := 6) hown' hk' hins hini'
    (g := F0 m pc ls rest) rfl (by rw [hb]; exact d0) (Nat.le_refl _) (Nat.le_refl _)
  generalize hT1 : (T.setVm vm₁).pushCell { cls := cX, slots := kX.instanceTypes.map defaultValue, vm := .none } = T1 at X₁ st1
  have hcat : (Value.ref T.heap.size).category = 1 := rfl
  have hcellA : T1.heap[T.heap.size]? = some (freshCell cX kX) := by rw [← hT1]; exact State.heap_pushCell_size _ _
  have d3' : decode c.code (pc + 3) = .ok (.dup, 1) := by rw [hb]; exact d3
  have d4' : decode c.code (pc + 4) = .ok (.ldc_w is, 3) := by rw [hb]; exact d4
  have hstr' : vk_R own is text sa s' := vk_R.warm hW0 hstr
  obtain ⟨U, hsteps, hrun, hend, hW, hsame, ce, hce, hO⟩ := X₁.ctorThrowS hexec htr (own := own) (cls := cls) (names := names) (ic := ic) hown' hcls hnames h (fun x hx => nomatch hx) hfX hkX hcellA (by rw [hhp, hT]; exact Nat.le_refl _) (msg := .ref sa) rfl
    (g := { method := m, pc := pc + 7, locals := ls, stack := .ref sa :: .ref T.heap.size :: .ref T.heap.size :: rest, locked := none }) rfl hsize rfl rfl (rest := rest) rfl
    (by rw [hb]; exact d7) (by rw [hb]; exact d10) hout hRframes (by simp only [List.map_cons, List.sum_cons, hcat]; omega) hlocks
  obtain ⟨f1, f2⟩ := vx_frame hsame
  rw [hhp] at f1 f2
  have hWs : s.WarmedH U.vm := State.WarmedH.trans hW0 hW
  have hcl : s.vm.findClass cls = some ce.cls := by
    have h9 := hO.cls
    rw [hvm] at h9
    exact h9
  have hall : s.sameButNew ({ U with vm := s.vm } : State) locs mc ms := by
    subst hA
    obtain ⟨e1, e2⟩ := hsame
    rw [State.setFrames_setFrames] at e1
    have h2 : (T.setVm s.vm).sameButNew ({ U with vm := s.vm } : State) [] (0 + 1) (0 + 6) := ⟨e1, e2⟩
    have h3 := X.same.trans h2
    rw [List.append_nil] at h3
    exact h3.mono hc hs
  refine ⟨U, ?_, .threw T.heap.size, hrun, hend, Or.inr ⟨T.heap.size, rfl, cls, ce, locs, hx U hWs.alike f1 (fun q hq => f2 q hq (fun z hz => nomatch hz)), hce, hO.vm, hcl, hWs, hall, hf⟩⟩
  refine st1 _ ?_
  show Steps p.tables e below (T1.setTop { method := m, pc := pc + 3, locals := ls, stack := .ref T.heap.size :: rest, locked := none }) _
  jvm_step X₁.here [X₁.here.top, hexec, d3', Value.category]
  exact X₁.ldcStringW hexec (own := own) (text := text) (index := is) (a := sa) hown' hstr'.1 hstr'.2
    (g := { method := m, pc := pc + 4, locals := ls, stack := .ref T.heap.size :: .ref T.heap.size :: rest, locked := none }) rfl d4' _ hsteps
end Ends
section Bodies
variable {l : Launch}
theorem vx_ofW {y : MethodName} {ws ws' : List Cond} {rm : Room} {Pc : Array Value → State → Prop} {Qc : Array Value → State → Outcome → State → Prop} {XC : String → State → State → Prop} {mc ms : Nat} {free : Addr → Prop} {cc : ByteArray} {maxL : Nat} {ret : Option FieldType}
    (hy : plainName y.cls = true) (hw : ws = Cond.code y cc maxL ret :: ws')
    (body : ∀ p e s m args below meth c s₁, BodyLoose p l y (headSpec ws rm) cc maxL ret e s m args below meth c s₁ → c.maxLocals = maxL → (∀ x ∈ c.exceptionTable.toList, False) → Pc args s →
      W p l e (headSpec ws rm).room s m args below meth c s.heap [] 0 0 (vx_MQ below Qc XC args s mc ms free) (entryFrame m args maxL)) : vx_Met l y ws rm Pc Qc XC mc ms free := by
  refine MetFree.of_bodyS (code := cc) (maxLocals := maxL) (ret := ret) hy ?_ ?_
  · intro args s m h hn
    obtain ⟨meth, c, h1, h2, h3, h4, h5, h6, -, -⟩ := Cond.code_spec hn (atoms_spec (ws := ws) h _ (by rw [hw]; exact List.mem_cons_self))
    exact ⟨meth, c, h1, h2, h3, h4, h5, h6⟩
  · intro p e s m args below meth c s₁ B hml hP _
    have hh0 : s₁.heap = s.heap := by rw [B.state]; rfl
    have ht : ∀ x ∈ c.exceptionTable.toList, False := by
      obtain ⟨meth9, c9, h1, h2, -, -, -, -, h7, -⟩ := Cond.code_spec B.named (atoms_spec (ws := ws) B.pre _ (by rw [hw]; exact List.mem_cons_self))
      cases Option.some.inj (h1.symm.trans B.method)
      cases Option.some.inj (h2.symm.trans (Stand.of_body B).code)
      intro x hx
      rw [Array.isEmpty_iff.mp h7] at hx
      cases hx
    obtain ⟨t, a1, o, b1, b2, b3⟩ := body p e s m args below meth c s₁ B hml ht hP s₁ hh0 (Stand.of_body B)
    exact ⟨t, o, a1, b1, b2, b3⟩
/-- the table of a body with handlers -/
theorem vx_table {p : Program} {x y : MethodName} {S : Spec} {cc bytes : ByteArray} {maxL maxL' : Nat} {ret ret' : Option FieldType} {e : Env} {s s₁ : State} {m : MethodId} {args : Array Value} {below : List Frame} {meth : Method} {c : Code} {hh : List (Nat × Nat × Nat × Nat)}
    (B : BodyLoose p l y S cc maxL ret e s m args below meth c s₁) (h : (Cond.codeWith y bytes maxL' ret' hh).before args s = true) : c.exceptionTable.toList = tableOf hh := by
  obtain ⟨m9, meth9, c9, hn9, h1, h2, -, -, h6, -⟩ := Cond.codeWith_spec h
  cases Option.some.inj (hn9.symm.trans B.named)
  cases Option.some.inj (h1.symm.trans B.method)
  cases Option.some.inj (h2.symm.trans (Stand.of_body B).code)
  rw [← h6, table_eq]
end Bodies
end VXA
/-! ===== END ===== -/
/-! ===== BEGIN a static call of a method with an exception table ===== -/
section VXS
variable {p : Program} {l : Launch} {e : Env} {R : Room} {s : State} {m : MethodId} {args : Array Value} {below : List Frame} {meth : Method} {c : Code} {T : State} {H : Heap} {locs : List Loc} {cells slots : Nat}
abbrev vx_CSW (R : Room) (s : State) (args : Array Value) (own : String) (index : Nat) (y : MethodName) (bytes : ByteArray) (maxL : Nat) (ret : Option FieldType) (hh : List (Nat × Nat × Nat × Nat)) (ws : List Cond) (rm : Room) (mc ms n : Nat) : Prop :=
  (rm.cells = mc ∧ rm.slots = ms ∧ rm.frames + 1 ≤ R.frames ∧ 8 + (maxL + 11) + rm.locals ≤ R.locals ∧ (∀ w ∈ ws, ∀ (a' : Array Value) (U : State), s.WarmedH U.vm → w.before a' U = true) ∧ Cond.codeWith y bytes maxL ret hh ∈ ws) ∧
  (Cond.codeWith y bytes maxL ret hh).before args s = true ∧ (Cond.initialized y.cls).before args s = true ∧ (y.cls ≠ "java/lang/invoke/MethodHandle" ∧ y.cls ≠ "java/lang/invoke/VarHandle") ∧
  (∀ sig, parseMethodDescriptor y.desc = some sig → n = sig.parameters.length) ∧ (Cond.methodLink own index y).before args s = true ∧ (Cond.static y).before args s = true
theorem vx_cwSW {own : String} {index maxL mc ms : Nat} {y : MethodName} {bytes : ByteArray} {ret : Option FieldType} {hh : List (Nat × Nat × Nat × Nat)} {Ts ws ws' : List Cond} {rm : Room} (n : Nat) (ht : ∀ w ∈ Ts, w.before args s = true) (hT : GoodIn Ts (va_wsS own index y ws)) (hw : ws = Cond.codeWith y bytes maxL ret hh :: ws') (hrc : rm.cells = mc) (hrs : rm.slots = ms)
    (hd : y.cls ≠ "java/lang/invoke/MethodHandle" ∧ y.cls ≠ "java/lang/invoke/VarHandle" ∧ (parseMethodDescriptor y.desc).map (fun d => d.parameters.length) = some n) (hR : rm.frames + 1 ≤ R.frames ∧ 8 + (maxL + 11) + rm.locals ≤ R.locals) :
    vx_CSW R s args own index y bytes maxL ret hh ws rm mc ms n := by
  have ok : ∀ w ∈ va_wsS own index y ws, w.before args s = true := fun w h => ht w (hT w h).1
  have hG : GoodIn Ts ws := fun w h => hT w (by unfold va_wsS; exact List.mem_append_right _ h)
  have hc : Cond.codeWith y bytes maxL ret hh ∈ ws := by rw [hw]; exact List.mem_cons_self
  refine ⟨⟨hrc, hrs, hR.1, hR.2, pay_in ht hG, hc⟩, ht _ (hG _ hc).1, ok _ (by simp [va_wsS]), ⟨hd.1, hd.2.1⟩, fun sig h => ?_, ok _ (by simp [va_wsS]), ok _ (by simp [va_wsS])⟩
  have h2 := hd.2.2
  rw [h] at h2
  exact (Option.some.inj h2).symm
theorem vx_callSW (X : Stand p l e R s m args below meth c T locs cells slots) (hexec : p.tables.exec = Jvm.exec) {own : String} {index : Nat} {y : MethodName} {bytes : ByteArray} {maxL : Nat} {ret : Option FieldType} {hh : List (Nat × Nat × Nat × Nat)}
    (hown : s.vm.findClass own = some m.cls) (hlink : (Cond.methodLink own index y).before args s = true) (hstat : (Cond.static y).before args s = true) (hinit : (Cond.initialized y.cls).before args s = true)
    (hcode : (Cond.codeWith y bytes maxL ret hh).before args s = true) (hy : y.cls ≠ "java/lang/invoke/MethodHandle" ∧ y.cls ≠ "java/lang/invoke/VarHandle")
    {W9 : Nat} {Pre : Pt → Array Value → Prop} {Post : Pt → Array Value → Option Value → Pt → Prop} (hK : Back l R p e below s args y 3 W9 Pre Post)
    {g : JFrame} (hg : g.method = m) (hsize : g.locals.size = c.maxLocals) {argsL rest : List Value} (hlen : ∀ sig, parseMethodDescriptor y.desc = some sig → argsL.length = sig.parameters.length)
    (hstack : g.stack = argsL.reverse ++ rest) (hW : 2 * g.monitorRoom + (rest.map fun v => v.category).sum ≤ W9) (hdg : decode c.code g.pc = .ok (.invokestatic index, 3))
    (hpre : ∀ vm₁, s.WarmedH vm₁ → Pre ⟨T.setVm vm₁, locs, cells, slots⟩ argsL.toArray) :
    ∃ (v : Option Value) (vm₁ : Vm) (B : Pt), s.WarmedH vm₁ ∧ Stand p l e R s m args below meth c B.U B.locs B.cells B.slots ∧ Post ⟨T.setVm vm₁, locs, cells, slots⟩ argsL.toArray v B ∧
      ∀ target, Steps p.tables e below (B.U.setTop { g with pc := g.pc + 3, stack := v.toList ++ rest }) target → Steps p.tables e below (T.setTop g) target := by
  obtain ⟨mk, methM, cM, hnamed, hmethM, -, -, -, -, -, -, hsigM⟩ := Cond.codeWith_spec hcode
  have hstatic : methM.isStatic = true := Cond.static_spec hnamed hmethM hstat
  obtain ⟨kP, hkP, -⟩ := className_of_methodNamed hnamed
  have hinitP : kP.init = .initialized := Cond.initialized_spec (findClass_of_methodNamed hnamed) hkP hinit
  obtain ⟨vm₁, X₁, hstep₁⟩ := X.invokestatic hexec hown hlink hnamed hmethM hstatic hkP hinitP hy (g := g) hg (argsL := argsL) (rest := rest) (hlen _ hsigM) hstack hdg
  obtain ⟨v, B, X', hpost, hsteps⟩ := hK m meth c ⟨T.setVm vm₁, locs, cells, slots⟩ { g with stack := rest } (.invokestatic index) mk argsL.toArray X₁ hg hsize hdg hW (X₁.named hnamed) (hpre vm₁ X₁.warmed)
  exact ⟨v, vm₁, B, X₁.warmed, X', hpost, fun target h => hstep₁ _ fun acts => by rw [doInvoke_state]; exact hsteps.trans h⟩
theorem vx_runSW {y : MethodName} {bytes cc : ByteArray} {maxL nL mc ms n index : Nat} {ret : Option FieldType} {hh : List (Nat × Nat × Nat × Nat)} {ws : List Cond} {rm : Room} {Pc : Array Value → State → Prop} {Qc : Array Value → State → Outcome → State → Prop} {free : Addr → Prop} {Ts : List Cond} {own : String} {As rest : List Value} {g : JFrame}
    (S : CallFix p m c cc nL s args Ts own) (hM : Met l y ws rm Pc Qc mc ms free) (cw : vx_CSW R s args own index y bytes maxL ret hh ws rm mc ms n) (hp : PreS s H Pc As)
    (hg : g.method = m) (hn : As.length = n) (hsize : g.locals.size = nL) (hstack : g.stack = As.reverse ++ rest) (hW : 2 * g.monitorRoom + (rest.map fun v => v.category).sum ≤ 8) (hdg : decode cc g.pc = .ok (.invokestatic index, 3)) (hf : cells + mc ≤ R.cells ∧ slots + ms ≤ R.slots) :
    va_Run p l e R s m args below meth c H locs cells slots mc ms g rest (Qc As.toArray) (free) := by
  obtain ⟨⟨hrc, hrs, hfr, hlo, hws, hcw⟩, hcode, hini, hy, hlen, hl, hstt⟩ := cw
  have hK : Back l R p e below s args y 3 8 (PreOf R mc ms Pc) (PostOf Qc mc ms free) := va_backW (hh := hh) (bytes := bytes) (maxL := maxL) (ret := ret) hM hp.1 hrc hrs hfr hlo hws hcw (fun a' U hW => word_at hW (Or.inl (by first | rfl | simp [Cond.onTables, Cond.keeps, Cond.steady])) hini)
  obtain ⟨hx, hb, hml, ho, -⟩ := S
  intro T hT X
  obtain ⟨v, vm₁, ⟨U', l2, c2, s2⟩, hW₁, X', ⟨g', mk, t, L, e1, e2, hq, h1, hL, h2, h3⟩, st⟩ := vx_callSW X hx (hh := hh) (bytes := bytes) (maxL := maxL) (ret := ret) ho hl hstt hini hcode hy hK hg (hsize.trans hml.symm) (argsL := As) (rest := rest) (fun sig h => hn.trans (hlen sig h)) hstack hW (by rw [hb]; exact hdg)
    (fun vm₁ hW₁ => ⟨hf.1, hf.2, hp.2 (T.setVm vm₁) hT hW₁⟩)
  dsimp only [Pt.U, Pt.locs, Pt.cells, Pt.slots] at X' e1 e2 h1 h2 h3 st
  subst h1; subst h2; subst h3
  exact ⟨v, (T.setVm vm₁).calling g' mk As.toArray, t, U', L, hT, X', hL, e1, e2, hq, st⟩
/-- not caught here, past rows that name other classes: it goes on to the caller -/
theorem vx_outP {p : Program} {l : Launch} {e : Env} {R : Room} {s : State} {m : MethodId} {args : Array Value} {below : List Frame} {meth : Method} {c : Code} {H : Heap} {locs : List Loc} {cells slots : Nat} {free : Addr → Prop} {ls : Array Slot} {rest : List Value} {Qc : Array Value → State → Outcome → State → Prop} {XC : String → State → State → Prop}
    {pc : Nat} {own E : String} {ce : Cell} {q : Addr} {mc ms : Nat} (hown : s.vm.findClass own = some m.cls) (hlocks : meth.locks = false)
    (hpass : ∀ z ∈ c.exceptionTable.toList, covers z pc = false ∨ (z.catchType ≠ 0 ∧ ∃ nm : String, (Cond.classLink own z.catchType nm).before args s = true ∧ va_Nc E nm s)) (hcell : H[q]? = some ce) (hv : ce.vm = .none) (hcl : s.vm.findClass E = some ce.cls)
    (hx : ∀ t : State, t.heap = H → s.vm.Alike t.vm → XC E s t) (hf : ∀ z ∈ locs, free z.base) (hc : cells ≤ mc) (hs : slots ≤ ms) :
    vx_W p l e R s m args below meth c H locs cells slots (vx_MQ below Qc XC args s mc ms free) (F0 m pc ls rest) q := by
  intro T hT X
  have hpl : e.platform.magicAccessors = ({} : Platform).magicAccessors := by rw [X.admits.platform]
  obtain ⟨vm', hW', X', st⟩ := X.outThrough hlocks q (g := F0 m pc ls rest) rfl rfl rfl (cell := ce) (by rw [hT]; exact hcell) (by rw [hv]; rfl)
    (by obtain ⟨k9, h9, -⟩ := Vm.findClass_spec hcl; exact ⟨k9, h9⟩) (fun z hz => by
      rcases hpass z hz with h | ⟨hz0, nm, hl1, hn1⟩
      · exact Or.inl h
      · obtain ⟨c6, hc6, hcl6⟩ := Cond.classLink_spec hown hl1 e.platform hpl
        obtain ⟨a8, b8, h1, h2, h3⟩ := hn1
        cases Option.some.inj (h1.symm.trans hcl)
        cases Option.some.inj (h2.symm.trans hc6)
        exact Or.inr ⟨hz0, _, hcl6, h3⟩)
  obtain ⟨g₀, hfr⟩ := X'.frames_eq
  have hcell9 : ((T.setVm vm').setFrames (.throwing q :: below)).heap[q]? = some ce := by
    show T.heap[q]? = some ce
    rw [hT]; exact hcell
  have hend : Ended ((T.setVm vm').setFrames (.throwing q :: below)) below (.threw q) := State.frames_setFrames _ (State.cur_lt_of_frames hfr)
  refine ⟨(T.setVm vm').setFrames (.throwing q :: below), ?_, .threw q, X'.here.running, hend, Or.inr ⟨q, rfl, E, ce, locs, hx _ hT (X'.ends _).1.alike, hcell9, hv, hcl, (X'.ends _).1, (X'.ends _).2.mono hc hs, hf⟩⟩
  rw [X.pushThrowing_eq]
  exact st
/-- a thing of a world lies in the heap -/
theorem vx_lt {D : va_G} {cl : List vw_C} {ws : va_W} {H1 : Heap} (h : va_P D cl ws H1) {k : Nat} {q : Nat × va_E} (hk : ws[k]? = some q) : q.1 < H1.size := (h k q hk).lt
end VXS
/-! ===== END ===== -/
/-! ===== BEGIN methods with a table of their own: called by a name, returning or throwing ===== -/
section VXH
/-! vx_backW, vx_callVX, vx_callSX, vx_callVW, vx_runVW, vx_runVX, vx_runSX, vx_ofWH follow the same proofs as their sisters above (Free/Laws.lean, Shelf42/LK1.lean); vx_outP calls Shelf42/NT130.lean (outThrough). -/
section
variable {l : Launch} {R : Room} {p : Program} {e : Env} {below : List Frame} {s : State} {sargs : Array Value} {y : MethodName} {len W9 : Nat}
theorem vx_backW {ws : List Cond} {rm : Room} {Pc : Array Value → State → Prop} {Qc : Array Value → State → Outcome → State → Prop} {XC : String → State → State → Prop} {mc ms : Nat} {free : Addr → Prop} {bytes : ByteArray} {maxL : Nat} {ret : Option FieldType} {hh : List (Nat × Nat × Nat × Nat)}
    (hM : vx_Met l y ws rm Pc Qc XC mc ms free) (hblind : FrameBlind Pc) (hrc : rm.cells = mc) (hrs : rm.slots = ms)
    (hframes : rm.frames + 1 ≤ R.frames) (hlocals : W9 + (maxL + 11) + rm.locals ≤ R.locals)
    (hws : ∀ w ∈ ws, ∀ a' U, s.WarmedH U.vm → w.before a' U = true) (hcode : Cond.codeWith y bytes maxL ret hh ∈ ws) (hinit : ∀ a' U, s.WarmedH U.vm → (Cond.initialized y.cls).before a' U = true) :
    vx_Back l R p e below s sargs y len W9 (PreOf R mc ms Pc) (PostOf Qc mc ms free) (vx_Post XC mc ms free) := by
  intro m meth c A g ig mk a X hg hsize hdg hW hn hp
  have h1 : (headSpec ws rm).pre.before a A.U = true := atoms_intro fun w hw => hws w hw _ _ X.warmed
  have h2 : (Cond.codeWith y bytes maxL ret hh).before a A.U = true := hws _ hcode _ _ X.warmed
  have h3 : (Cond.initialized y.cls).before a A.U = true := hinit _ _ X.warmed
  have h4 : A.cells + (headSpec ws rm).room.cells ≤ R.cells := by rw [show (headSpec ws rm).room.cells = mc from hrc]; exact hp.1
  have h5 : A.slots + (headSpec ws rm).room.slots ≤ R.slots := by rw [show (headSpec ws rm).room.slots = ms from hrs]; exact hp.2.1
  have hPc : Pc a (A.U.calling g mk a) := hblind _ _ _ _ hp.2.2
  obtain ⟨U, Ls, c0, s0⟩ := A
  dsimp only [Pt.U, Pt.locs, Pt.cells, Pt.slots] at h1 h2 h3 h4 h5 X hn hPc ⊢
  obtain ⟨m9, methY, cY, hn9, hmY, hcY, -, hlY, -⟩ := Cond.codeWith_spec h2
  cases Option.some.inj (hn9.symm.trans hn)
  obtain ⟨kY, hkY, -⟩ := className_of_methodNamed hn
  have hinitY : kY.init = .initialized := Cond.initialized_spec (findClass_of_methodNamed hn) hkY h3
  have h : At U g.method c below := by rw [hg]; exact X.here
  have hlocals9 : W9 + (maxL + 11) + (headSpec ws rm).room.locals ≤ R.locals := hlocals
  have happ : (headSpec ws rm).appliesLoose y e.platform (U.calling g mk a) = true :=
    Spec.appliesLoose_calling (g := g) h hdg hn hkY hinitY
      (X.room_calling (g := g) (R' := (headSpec ws rm).room) hsize hmY hcY hframes (by rw [hlY]; omega) h4 h5) h1
  obtain ⟨mid, hmid⟩ := h.above
  have hfr : (U.setTop g).frames = (.java g :: mid) ++ below := by rw [State.frames_setTop' g h.top, hmid]; rfl
  obtain ⟨o, s₂, hsteps, -, hend, hq⟩ := Steps.callFree hM p X.admits X.cas X.clock (acts := []) hfr happ hPc trivial
  have hq' : vx_Q Qc XC mc ms free a (U.calling g mk a) o s₂ := hq
  rw [State.frames_setTop' g h.top] at hend
  obtain ⟨g₀, hg0⟩ := Option.isSome_iff_exists.mp h.top
  obtain ⟨r, hr⟩ := State.topJava?_eq_some.mp hg0
  have hr' : (({ U with heap := s₂.heap, slotsUsed := s₂.slotsUsed } : State).setVm s₂.vm).frames = .java g₀ :: r := hr
  rcases hq' with ⟨hqc, L, hfe, hL⟩ | ⟨q, rfl, E, ce, L, hx, hce, hcv, hcl, hW₂, hsm, hL⟩
  · obtain ⟨⟨v, rfl⟩, hW₂, e2, q2, q3, q4, q5, q6⟩ := id hfe
    have e3 : s₂ = ({ (U.calling g mk a).setFrames s₂.frames with heap := s₂.heap, slotsUsed := s₂.slotsUsed } : State).setVm s₂.vm := by
      have : s₂ = ({ s₂ with vm := (U.calling g mk a).vm } : State).setVm s₂.vm := rfl
      rw [e2] at this
      exact this
    obtain ⟨c₂, i₂, len₂, hc₂, hd₂, hf₂⟩ := hend
    have hW' : U.WarmedH s₂.vm := hW₂
    have hcc : c₂ = c := by
      have h1 : s₂.code? g.method = U.code? g.method := by
        rw [State.code?_eq, State.code?_eq, hW'.alike.method?]
      exact Option.some.inj (hc₂.symm.trans (h1.trans h.code))
    subst hcc
    have hlen : len₂ = len := by rw [hdg] at hd₂; cases hd₂; rfl
    subst hlen
    have hs₂ : s₂ = (({ U with heap := s₂.heap, slotsUsed := s₂.slotsUsed } : State).setVm s₂.vm).setTop { g with pc := g.pc + len₂, stack := v.toList ++ g.stack } := by
      refine e3.trans ?_
      rw [hf₂, State.calling_eq h.top, State.setFrames_setFrames, State.setTop_of_frames _ hr', hr]
      rfl
    have hsame : U.sameButNew ({ U with heap := s₂.heap, slotsUsed := s₂.slotsUsed } : State) L mc ms := by
      refine ⟨?_, q2, q3, q4, q5, q6⟩
      obtain ⟨t, ht, -⟩ := State.frames_cons hr
      show ({ U with heap := s₂.heap, slotsUsed := s₂.slotsUsed } : State) = { U.setFrames U.frames with heap := s₂.heap, slotsUsed := s₂.slotsUsed }
      rw [State.setFrames_self ht]
    subst hg
    refine Or.inl ⟨v, ⟨(({ U with heap := s₂.heap, slotsUsed := s₂.slotsUsed } : State).setVm s₂.vm), Ls ++ L, c0 + mc, s0 + ms⟩,
      ⟨X.admits, X.cas, X.clock, X.frames, X.room, X.hears, X.method, X.code, (X.here.setHeapUsed s₂.heap s₂.slotsUsed).setVm hW'.alike, X.tail, State.WarmedH.trans X.warmed hW', X.limits, X.bytes, X.same.trans (hsame.setVm s.vm)⟩,
      ⟨g, mk, s₂, L, rfl, rfl, hqc, rfl, hL, rfl, rfl⟩, ?_⟩
    show Steps p.tables e below _ ((({ U with heap := s₂.heap, slotsUsed := s₂.slotsUsed } : State).setVm s₂.vm).setTop { g with pc := g.pc + len₂, stack := v.toList ++ g.stack })
    rw [← hs₂]
    exact hsteps
  · obtain ⟨e2, q2, q3, q4, q5, q6⟩ := id hsm
    have e3 : s₂ = ({ (U.calling g mk a).setFrames s₂.frames with heap := s₂.heap, slotsUsed := s₂.slotsUsed } : State).setVm s₂.vm := by
      have : s₂ = ({ s₂ with vm := (U.calling g mk a).vm } : State).setVm s₂.vm := rfl
      rw [e2] at this
      exact this
    have hf₂ : s₂.frames = .throwing q :: .java g :: U.frames.tail := hend
    have hW' : U.WarmedH s₂.vm := hW₂
    have hs₂ : s₂ = ((({ U with heap := s₂.heap, slotsUsed := s₂.slotsUsed } : State).setVm s₂.vm).setTop g).pushFrame (.throwing q) := by
      refine e3.trans ?_
      rw [hf₂, State.calling_eq h.top, State.setFrames_setFrames, State.pushFrame, State.frames_setTop _ hr', State.setTop_of_frames _ hr', State.setFrames_setFrames, hr]
      rfl
    have hsame : U.sameButNew ({ U with heap := s₂.heap, slotsUsed := s₂.slotsUsed } : State) L mc ms := by
      refine ⟨?_, q2, q3, q4, q5, q6⟩
      obtain ⟨t, ht, -⟩ := State.frames_cons hr
      show ({ U with heap := s₂.heap, slotsUsed := s₂.slotsUsed } : State) = { U.setFrames U.frames with heap := s₂.heap, slotsUsed := s₂.slotsUsed }
      rw [State.setFrames_self ht]
    subst hg
    refine Or.inr ⟨q, ⟨(({ U with heap := s₂.heap, slotsUsed := s₂.slotsUsed } : State).setVm s₂.vm), Ls ++ L, c0 + mc, s0 + ms⟩,
      ⟨X.admits, X.cas, X.clock, X.frames, X.room, X.hears, X.method, X.code, (X.here.setHeapUsed s₂.heap s₂.slotsUsed).setVm hW'.alike, X.tail, State.WarmedH.trans X.warmed hW', X.limits, X.bytes, X.same.trans (hsame.setVm s.vm)⟩,
      ⟨g, mk, s₂, L, E, ce, rfl, rfl, hx, hce, hcv, hcl, rfl, hL, rfl, rfl⟩, ?_⟩
    show Steps p.tables e below _ (((({ U with heap := s₂.heap, slotsUsed := s₂.slotsUsed } : State).setVm s₂.vm).setTop g).pushFrame (.throwing q))
    rw [← hs₂]
    exact hsteps
end
variable {p : Program} {l : Launch} {e : Env} {R : Room} {s : State} {m : MethodId} {args : Array Value} {below : List Frame} {meth : Method} {c : Code} {T : State} {H : Heap} {locs : List Loc} {cells slots : Nat}
theorem vx_callVX (X : Stand p l e R s m args below meth c T locs cells slots) (hexec : p.tables.exec = Jvm.exec) {own C : String} {index : Nat} {y : MethodName} {bytes : ByteArray} {maxL : Nat} {ret : Option FieldType} {hh : List (Nat × Nat × Nat × Nat)}
    (hown : s.vm.findClass own = some m.cls) (hlink : (Cond.methodLink own index y).before args s = true) (hinst : (Cond.instanceMethod y).before args s = true) (hsel : (Cond.selects C y y).before args s = true)
    (hcode : (Cond.codeWith y bytes maxL ret hh).before args s = true) (hy : y.cls ≠ "java/lang/invoke/MethodHandle" ∧ y.cls ≠ "java/lang/invoke/VarHandle")
    {W9 : Nat} {Pre : Pt → Array Value → Prop} {Post : Pt → Array Value → Option Value → Pt → Prop} {PostX : Pt → Array Value → Addr → Pt → Prop} (hK : vx_Back l R p e below s args y 3 W9 Pre Post PostX)
    {b : Addr} {cellB : Cell} (hcell : T.heap[b]? = some cellB) (hobj : cellB.vm.isStatics = false) (hcls : s.vm.findClass C = some cellB.cls)
    {g : JFrame} (hg : g.method = m) (hsize : g.locals.size = c.maxLocals) {argsL rest : List Value} (hlen : ∀ sig, parseMethodDescriptor y.desc = some sig → argsL.length = sig.parameters.length)
    (hstack : g.stack = argsL.reverse ++ .ref b :: rest) (hW : 2 * g.monitorRoom + (rest.map fun v => v.category).sum ≤ W9) (hdg : decode c.code g.pc = .ok (.invokevirtual index, 3))
    (hpre : ∀ vm₁, s.WarmedH vm₁ → Pre ⟨T.setVm vm₁, locs, cells, slots⟩ (Value.ref b :: argsL).toArray) :
    (∃ (v : Option Value) (vm₁ : Vm) (B : Pt), s.WarmedH vm₁ ∧ Stand p l e R s m args below meth c B.U B.locs B.cells B.slots ∧ Post ⟨T.setVm vm₁, locs, cells, slots⟩ (Value.ref b :: argsL).toArray v B ∧
      ∀ target, Steps p.tables e below (B.U.setTop { g with pc := g.pc + 3, stack := v.toList ++ rest }) target → Steps p.tables e below (T.setTop g) target) ∨
    (∃ (q : Addr) (vm₁ : Vm) (B : Pt), s.WarmedH vm₁ ∧ Stand p l e R s m args below meth c B.U B.locs B.cells B.slots ∧ PostX ⟨T.setVm vm₁, locs, cells, slots⟩ (Value.ref b :: argsL).toArray q B ∧
      Steps p.tables e below (T.setTop g) ((B.U.setTop { g with stack := rest }).pushFrame (.throwing q))) := by
  obtain ⟨mk, methM, hnamed, hmethM, hstM, habM⟩ := Cond.instanceMethod_spec hinst
  obtain ⟨m8, methM', cM, hn8, hmethM', -, -, -, -, -, -, hsigM⟩ := Cond.codeWith_spec hcode
  cases Option.some.inj (hn8.symm.trans hnamed)
  cases hmethM.symm.trans hmethM'
  obtain ⟨c2, r2, m2, q1, q2, q3, q4, kP, hkP, hkPi⟩ := Cond.selects_spec hsel
  cases hcls.symm.trans q1
  cases (State.methodFound?_of_named hnamed hy).symm.trans q2
  cases hnamed.symm.trans q3
  have hselP : selectMethod e.platform s.vm cellB.cls mk = .method mk := by rw [Launch.admits_selectMethod X.admits]; exact q4
  obtain ⟨vm₁, X₁, hstep₁⟩ := X.invokevirtual hexec hown hlink hnamed hmethM hstM hkP hkPi hy (a := b) (cell := cellB) hcell
    (fun z h => by rw [h] at hobj; cases hobj) hselP hmethM habM hkP hkPi (g := g) hg (argsL := argsL) (rest := rest) (hlen _ hsigM) hstack hdg
  rcases hK m meth c ⟨T.setVm vm₁, locs, cells, slots⟩ { g with stack := rest } (.invokevirtual index) mk (Value.ref b :: argsL).toArray X₁ hg hsize hdg hW (X₁.named hnamed) (hpre vm₁ X₁.warmed) with ⟨v, B, X', hpost, hsteps⟩ | ⟨q, B, X', hpost, hsteps⟩
  · exact Or.inl ⟨v, vm₁, B, X₁.warmed, X', hpost, fun target h => hstep₁ _ fun acts => by rw [doInvoke_state]; exact hsteps.trans h⟩
  · exact Or.inr ⟨q, vm₁, B, X₁.warmed, X', hpost, hstep₁ _ fun acts => by rw [doInvoke_state]; exact hsteps⟩
theorem vx_callSX (X : Stand p l e R s m args below meth c T locs cells slots) (hexec : p.tables.exec = Jvm.exec) {own : String} {index : Nat} {y : MethodName} {bytes : ByteArray} {maxL : Nat} {ret : Option FieldType} {hh : List (Nat × Nat × Nat × Nat)}
    (hown : s.vm.findClass own = some m.cls) (hlink : (Cond.methodLink own index y).before args s = true) (hstat : (Cond.static y).before args s = true) (hinit : (Cond.initialized y.cls).before args s = true)
    (hcode : (Cond.codeWith y bytes maxL ret hh).before args s = true) (hy : y.cls ≠ "java/lang/invoke/MethodHandle" ∧ y.cls ≠ "java/lang/invoke/VarHandle")
    {W9 : Nat} {Pre : Pt → Array Value → Prop} {Post : Pt → Array Value → Option Value → Pt → Prop} {PostX : Pt → Array Value → Addr → Pt → Prop} (hK : vx_Back l R p e below s args y 3 W9 Pre Post PostX)
    {g : JFrame} (hg : g.method = m) (hsize : g.locals.size = c.maxLocals) {argsL rest : List Value} (hlen : ∀ sig, parseMethodDescriptor y.desc = some sig → argsL.length = sig.parameters.length)
    (hstack : g.stack = argsL.reverse ++ rest) (hW : 2 * g.monitorRoom + (rest.map fun v => v.category).sum ≤ W9) (hdg : decode c.code g.pc = .ok (.invokestatic index, 3))
    (hpre : ∀ vm₁, s.WarmedH vm₁ → Pre ⟨T.setVm vm₁, locs, cells, slots⟩ argsL.toArray) :
    (∃ (v : Option Value) (vm₁ : Vm) (B : Pt), s.WarmedH vm₁ ∧ Stand p l e R s m args below meth c B.U B.locs B.cells B.slots ∧ Post ⟨T.setVm vm₁, locs, cells, slots⟩ argsL.toArray v B ∧
      ∀ target, Steps p.tables e below (B.U.setTop { g with pc := g.pc + 3, stack := v.toList ++ rest }) target → Steps p.tables e below (T.setTop g) target) ∨
    (∃ (q : Addr) (vm₁ : Vm) (B : Pt), s.WarmedH vm₁ ∧ Stand p l e R s m args below meth c B.U B.locs B.cells B.slots ∧ PostX ⟨T.setVm vm₁, locs, cells, slots⟩ argsL.toArray q B ∧
      Steps p.tables e below (T.setTop g) ((B.U.setTop { g with stack := rest }).pushFrame (.throwing q))) := by
  obtain ⟨mk, methM, cM, hnamed, hmethM, -, -, -, -, -, -, hsigM⟩ := Cond.codeWith_spec hcode
  have hstatic : methM.isStatic = true := Cond.static_spec hnamed hmethM hstat
  obtain ⟨kP, hkP, -⟩ := className_of_methodNamed hnamed
  have hinitP : kP.init = .initialized := Cond.initialized_spec (findClass_of_methodNamed hnamed) hkP hinit
  obtain ⟨vm₁, X₁, hstep₁⟩ := X.invokestatic hexec hown hlink hnamed hmethM hstatic hkP hinitP hy (g := g) hg (argsL := argsL) (rest := rest) (hlen _ hsigM) hstack hdg
  rcases hK m meth c ⟨T.setVm vm₁, locs, cells, slots⟩ { g with stack := rest } (.invokestatic index) mk argsL.toArray X₁ hg hsize hdg hW (X₁.named hnamed) (hpre vm₁ X₁.warmed) with ⟨v, B, X', hpost, hsteps⟩ | ⟨q, B, X', hpost, hsteps⟩
  · exact Or.inl ⟨v, vm₁, B, X₁.warmed, X', hpost, fun target h => hstep₁ _ fun acts => by rw [doInvoke_state]; exact hsteps.trans h⟩
  · exact Or.inr ⟨q, vm₁, B, X₁.warmed, X', hpost, hstep₁ _ fun acts => by rw [doInvoke_state]; exact hsteps⟩
theorem vx_callVW (X : Stand p l e R s m args below meth c T locs cells slots) (hexec : p.tables.exec = Jvm.exec) {own C : String} {index : Nat} {y : MethodName} {bytes : ByteArray} {maxL : Nat} {ret : Option FieldType} {hh : List (Nat × Nat × Nat × Nat)}
    (hown : s.vm.findClass own = some m.cls) (hlink : (Cond.methodLink own index y).before args s = true) (hinst : (Cond.instanceMethod y).before args s = true) (hsel : (Cond.selects C y y).before args s = true)
    (hcode : (Cond.codeWith y bytes maxL ret hh).before args s = true) (hy : y.cls ≠ "java/lang/invoke/MethodHandle" ∧ y.cls ≠ "java/lang/invoke/VarHandle")
    {W9 : Nat} {Pre : Pt → Array Value → Prop} {Post : Pt → Array Value → Option Value → Pt → Prop} (hK : Back l R p e below s args y 3 W9 Pre Post)
    {b : Addr} {cellB : Cell} (hcell : T.heap[b]? = some cellB) (hobj : cellB.vm.isStatics = false) (hcls : s.vm.findClass C = some cellB.cls)
    {g : JFrame} (hg : g.method = m) (hsize : g.locals.size = c.maxLocals) {argsL rest : List Value} (hlen : ∀ sig, parseMethodDescriptor y.desc = some sig → argsL.length = sig.parameters.length)
    (hstack : g.stack = argsL.reverse ++ .ref b :: rest) (hW : 2 * g.monitorRoom + (rest.map fun v => v.category).sum ≤ W9) (hdg : decode c.code g.pc = .ok (.invokevirtual index, 3))
    (hpre : ∀ vm₁, s.WarmedH vm₁ → Pre ⟨T.setVm vm₁, locs, cells, slots⟩ (Value.ref b :: argsL).toArray) :
    ∃ (v : Option Value) (vm₁ : Vm) (B : Pt), s.WarmedH vm₁ ∧ Stand p l e R s m args below meth c B.U B.locs B.cells B.slots ∧ Post ⟨T.setVm vm₁, locs, cells, slots⟩ (Value.ref b :: argsL).toArray v B ∧
      ∀ target, Steps p.tables e below (B.U.setTop { g with pc := g.pc + 3, stack := v.toList ++ rest }) target → Steps p.tables e below (T.setTop g) target := by
  obtain ⟨mk, methM, hnamed, hmethM, hstM, habM⟩ := Cond.instanceMethod_spec hinst
  obtain ⟨m8, methM', cM, hn8, hmethM', -, -, -, -, -, -, hsigM⟩ := Cond.codeWith_spec hcode
  cases Option.some.inj (hn8.symm.trans hnamed)
  cases hmethM.symm.trans hmethM'
  obtain ⟨c2, r2, m2, q1, q2, q3, q4, kP, hkP, hkPi⟩ := Cond.selects_spec hsel
  cases hcls.symm.trans q1
  cases (State.methodFound?_of_named hnamed hy).symm.trans q2
  cases hnamed.symm.trans q3
  have hselP : selectMethod e.platform s.vm cellB.cls mk = .method mk := by rw [Launch.admits_selectMethod X.admits]; exact q4
  obtain ⟨vm₁, X₁, hstep₁⟩ := X.invokevirtual hexec hown hlink hnamed hmethM hstM hkP hkPi hy (a := b) (cell := cellB) hcell
    (fun z h => by rw [h] at hobj; cases hobj) hselP hmethM habM hkP hkPi (g := g) hg (argsL := argsL) (rest := rest) (hlen _ hsigM) hstack hdg
  obtain ⟨v, B, X', hpost, hsteps⟩ := hK m meth c ⟨T.setVm vm₁, locs, cells, slots⟩ { g with stack := rest } (.invokevirtual index) mk (Value.ref b :: argsL).toArray X₁ hg hsize hdg hW (X₁.named hnamed) (hpre vm₁ X₁.warmed)
  exact ⟨v, vm₁, B, X₁.warmed, X', hpost, fun target h => hstep₁ _ fun acts => by rw [doInvoke_state]; exact hsteps.trans h⟩
abbrev vx_CVW (R : Room) (s : State) (args : Array Value) (own C : String) (index : Nat) (y : MethodName) (bytes : ByteArray) (maxL : Nat) (ret : Option FieldType) (hh : List (Nat × Nat × Nat × Nat)) (ws : List Cond) (rm : Room) (mc ms n : Nat) : Prop :=
  (rm.cells = mc ∧ rm.slots = ms ∧ rm.frames + 1 ≤ R.frames ∧ 8 + (maxL + 11) + rm.locals ≤ R.locals ∧ (∀ w ∈ ws, ∀ (a' : Array Value) (U : State), s.WarmedH U.vm → w.before a' U = true) ∧ Cond.codeWith y bytes maxL ret hh ∈ ws) ∧
  (Cond.codeWith y bytes maxL ret hh).before args s = true ∧ (Cond.initialized y.cls).before args s = true ∧ (y.cls ≠ "java/lang/invoke/MethodHandle" ∧ y.cls ≠ "java/lang/invoke/VarHandle") ∧
  (∀ sig, parseMethodDescriptor y.desc = some sig → n = sig.parameters.length) ∧ (Cond.methodLink own index y).before args s = true ∧ (Cond.instanceMethod y).before args s = true ∧ (Cond.selects C y y).before args s = true
theorem vx_cwVW {own C : String} {index maxL mc ms : Nat} {y : MethodName} {bytes : ByteArray} {ret : Option FieldType} {hh : List (Nat × Nat × Nat × Nat)} {Ts ws ws' : List Cond} {rm : Room} (n : Nat) (ht : ∀ w ∈ Ts, w.before args s = true) (hT : GoodIn Ts (wsV own index C y ws)) (hw : ws = Cond.codeWith y bytes maxL ret hh :: ws') (hrc : rm.cells = mc) (hrs : rm.slots = ms)
    (hd : y.cls = C ∧ y.cls ≠ "java/lang/invoke/MethodHandle" ∧ y.cls ≠ "java/lang/invoke/VarHandle" ∧ (parseMethodDescriptor y.desc).map (fun d => d.parameters.length) = some n) (hR : rm.frames + 1 ≤ R.frames ∧ 8 + (maxL + 11) + rm.locals ≤ R.locals) :
    vx_CVW R s args own C index y bytes maxL ret hh ws rm mc ms n := by
  obtain ⟨hC, hd⟩ := hd
  subst hC
  have ok : ∀ w ∈ wsV own index y.cls y ws, w.before args s = true := fun w h => ht w (hT w h).1
  have hG : GoodIn Ts ws := fun w h => hT w (by unfold wsV; exact List.mem_append_right _ h)
  have hc : Cond.codeWith y bytes maxL ret hh ∈ ws := by rw [hw]; exact List.mem_cons_self
  refine ⟨⟨hrc, hrs, hR.1, hR.2, pay_in ht hG, hc⟩, ht _ (hG _ hc).1, ok _ (by simp [wsV]), ⟨hd.1, hd.2.1⟩, fun sig h => ?_, ok _ (by simp [wsV]), ok _ (by simp [wsV]), ok _ (by simp [wsV])⟩
  have h2 := hd.2.2
  rw [h] at h2
  exact (Option.some.inj h2).symm
theorem vx_runVW {y : MethodName} {bytes cc : ByteArray} {maxL nL mc ms n index : Nat} {ret : Option FieldType} {hh : List (Nat × Nat × Nat × Nat)} {ws : List Cond} {rm : Room} {Pc : Array Value → State → Prop} {Qc : Array Value → State → Outcome → State → Prop} {free : Addr → Prop} {Ts : List Cond} {own C : String} {b : Addr} {As rest : List Value} {g : JFrame}
    (S : CallFix p m c cc nL s args Ts own) (hM : Met l y ws rm Pc Qc mc ms free) (cw : vx_CVW R s args own C index y bytes maxL ret hh ws rm mc ms n) (hp : PreV s H C b Pc As)
    (hg : g.method = m) (hn : As.length = n) (hsize : g.locals.size = nL) (hstack : g.stack = As.reverse ++ .ref b :: rest) (hW : 2 * g.monitorRoom + (rest.map fun v => v.category).sum ≤ 8) (hdg : decode cc g.pc = .ok (.invokevirtual index, 3)) (hf : cells + mc ≤ R.cells ∧ slots + ms ≤ R.slots) :
    va_Run p l e R s m args below meth c H locs cells slots mc ms g rest (Qc (Value.ref b :: As).toArray) free := by
  obtain ⟨⟨hrc, hrs, hfr, hlo, hws, hcw⟩, hcode, hini, hy, hlen, hl, hin, hse⟩ := cw
  have hK : Back l R p e below s args y 3 8 (PreOf R mc ms Pc) (PostOf Qc mc ms free) := va_backW (hh := hh) (bytes := bytes) (maxL := maxL) (ret := ret) hM hp.1 hrc hrs hfr hlo hws hcw (fun a' U hW => word_at hW (Or.inl (by first | rfl | simp [Cond.onTables, Cond.keeps, Cond.steady])) hini)
  obtain ⟨hx, hb, hml, ho, -⟩ := S
  obtain ⟨-, ⟨cellB, hcB, hoB, hclB⟩, hPc⟩ := hp
  intro T hT X
  obtain ⟨v, vm₁, ⟨U', l2, c2, s2⟩, hW₁, X', ⟨g', mk, t, L, e1, e2, hq, h1, hL, h2, h3⟩, st⟩ := vx_callVW X hx (C := C) (hh := hh) (bytes := bytes) (maxL := maxL) (ret := ret) ho hl hin hse hcode hy hK (by rw [hT]; exact hcB) hoB hclB hg (hsize.trans hml.symm) (argsL := As) (rest := rest) (fun sig h => hn.trans (hlen sig h)) hstack hW (by rw [hb]; exact hdg)
    (fun vm₁ hW₁ => ⟨hf.1, hf.2, hPc (T.setVm vm₁) hT hW₁⟩)
  dsimp only [Pt.U, Pt.locs, Pt.cells, Pt.slots] at X' e1 e2 h1 h2 h3 st
  subst h1; subst h2; subst h3
  exact ⟨v, (T.setVm vm₁).calling g' mk (Value.ref b :: As).toArray, t, U', L, hT, X', hL, e1, e2, hq, st⟩
section
variable {y : MethodName} {bytes cc : ByteArray} {maxL nL mc ms n index : Nat} {ret : Option FieldType} {ws : List Cond} {rm : Room} {Pc : Array Value → State → Prop} {Qc : Array Value → State → Outcome → State → Prop} {XC : String → State → State → Prop} {free : Addr → Prop} {Ts : List Cond} {own C : String} {b : Addr} {As rest : List Value} {g : JFrame}
theorem vx_runVX {hh : List (Nat × Nat × Nat × Nat)} (S : CallFix p m c cc nL s args Ts own) (hM : vx_Met l y ws rm Pc Qc XC mc ms free) (cw : vx_CVW R s args own C index y bytes maxL ret hh ws rm mc ms n) (hp : PreV s H C b Pc As)
    (hg : g.method = m) (hn : As.length = n) (hsize : g.locals.size = nL) (hstack : g.stack = As.reverse ++ .ref b :: rest) (hW : 2 * g.monitorRoom + (rest.map fun v => v.category).sum ≤ 8) (hdg : decode cc g.pc = .ok (.invokevirtual index, 3)) (hf : cells + mc ≤ R.cells ∧ slots + ms ≤ R.slots) :
    vx_Run p l e R s m args below meth c H locs cells slots mc ms g rest (Qc (Value.ref b :: As).toArray) XC free := by
  obtain ⟨⟨hrc, hrs, hfr, hlo, hws, hcw⟩, hcode, hini, hy, hlen, hl, hin, hse⟩ := cw
  have hK : vx_Back l R p e below s args y 3 8 (PreOf R mc ms Pc) (PostOf Qc mc ms free) (vx_Post XC mc ms free) := vx_backW (hh := hh) (bytes := bytes) (maxL := maxL) (ret := ret) hM hp.1 hrc hrs hfr hlo hws hcw (fun a' U hW => word_at hW (Or.inl (by first | rfl | simp [Cond.onTables, Cond.keeps, Cond.steady])) hini)
  obtain ⟨hx, hb, hml, ho, -⟩ := S
  obtain ⟨-, ⟨cellB, hcB, hoB, hclB⟩, hPc⟩ := hp
  intro T hT X
  rcases vx_callVX X hx (C := C) (hh := hh) (bytes := bytes) (maxL := maxL) (ret := ret) ho hl hin hse hcode hy hK (by rw [hT]; exact hcB) hoB hclB hg (hsize.trans hml.symm) (argsL := As) (rest := rest) (fun sig h => hn.trans (hlen sig h)) hstack hW (by rw [hb]; exact hdg)
    (fun vm₁ hW₁ => ⟨hf.1, hf.2, hPc (T.setVm vm₁) hT hW₁⟩) with ⟨v, vm₁, ⟨U', l2, c2, s2⟩, hW₁, X', ⟨g', mk, t, L, e1, e2, hq, h1, hL, h2, h3⟩, st⟩ | ⟨q, vm₁, ⟨U', l2, c2, s2⟩, hW₁, X', ⟨g', mk, t, L, E, ce, e1, e2, hq, hce, hcv, hcl, h1, hL, h2, h3⟩, st⟩
  · dsimp only [Pt.U, Pt.locs, Pt.cells, Pt.slots] at X' e1 e2 h1 h2 h3 st
    subst h1; subst h2; subst h3
    exact Or.inl ⟨v, (T.setVm vm₁).calling g' mk (Value.ref b :: As).toArray, t, U', L, hT, X', hL, e1, e2, hq, st⟩
  · dsimp only [Pt.U, Pt.locs, Pt.cells, Pt.slots] at X' e1 e2 h1 h2 h3 st hcl
    subst h1; subst h2; subst h3
    exact Or.inr ⟨q, (T.setVm vm₁).calling g' mk (Value.ref b :: As).toArray, t, U', L, E, ce, hT, X', hL, e1, e2, hq, hce, hcv, vx_cls hW₁ hcl, st⟩
theorem vx_runSX {hh : List (Nat × Nat × Nat × Nat)} (S : CallFix p m c cc nL s args Ts own) (hM : vx_Met l y ws rm Pc Qc XC mc ms free) (cw : vx_CSW R s args own index y bytes maxL ret hh ws rm mc ms n) (hp : PreS s H Pc As)
    (hg : g.method = m) (hn : As.length = n) (hsize : g.locals.size = nL) (hstack : g.stack = As.reverse ++ rest) (hW : 2 * g.monitorRoom + (rest.map fun v => v.category).sum ≤ 8) (hdg : decode cc g.pc = .ok (.invokestatic index, 3)) (hf : cells + mc ≤ R.cells ∧ slots + ms ≤ R.slots) :
    vx_Run p l e R s m args below meth c H locs cells slots mc ms g rest (Qc As.toArray) XC free := by
  obtain ⟨⟨hrc, hrs, hfr, hlo, hws, hcw⟩, hcode, hini, hy, hlen, hl, hstt⟩ := cw
  have hK : vx_Back l R p e below s args y 3 8 (PreOf R mc ms Pc) (PostOf Qc mc ms free) (vx_Post XC mc ms free) := vx_backW (hh := hh) (bytes := bytes) (maxL := maxL) (ret := ret) hM hp.1 hrc hrs hfr hlo hws hcw (fun a' U hW => word_at hW (Or.inl (by first | rfl | simp [Cond.onTables, Cond.keeps, Cond.steady])) hini)
  obtain ⟨hx, hb, hml, ho, -⟩ := S
  intro T hT X
  rcases vx_callSX X hx (hh := hh) (bytes := bytes) (maxL := maxL) (ret := ret) ho hl hstt hini hcode hy hK hg (hsize.trans hml.symm) (argsL := As) (rest := rest) (fun sig h => hn.trans (hlen sig h)) hstack hW (by rw [hb]; exact hdg)
    (fun vm₁ hW₁ => ⟨hf.1, hf.2, hp.2 (T.setVm vm₁) hT hW₁⟩) with ⟨v, vm₁, ⟨U', l2, c2, s2⟩, hW₁, X', ⟨g', mk, t, L, e1, e2, hq, h1, hL, h2, h3⟩, st⟩ | ⟨q, vm₁, ⟨U', l2, c2, s2⟩, hW₁, X', ⟨g', mk, t, L, E, ce, e1, e2, hq, hce, hcv, hcl, h1, hL, h2, h3⟩, st⟩
  · dsimp only [Pt.U, Pt.locs, Pt.cells, Pt.slots] at X' e1 e2 h1 h2 h3 st
    subst h1; subst h2; subst h3
    exact Or.inl ⟨v, (T.setVm vm₁).calling g' mk As.toArray, t, U', L, hT, X', hL, e1, e2, hq, st⟩
  · dsimp only [Pt.U, Pt.locs, Pt.cells, Pt.slots] at X' e1 e2 h1 h2 h3 st hcl
    subst h1; subst h2; subst h3
    exact Or.inr ⟨q, (T.setVm vm₁).calling g' mk As.toArray, t, U', L, E, ce, hT, X', hL, e1, e2, hq, hce, hcv, vx_cls hW₁ hcl, st⟩
end
end VXH
theorem vx_ofWH {l : Launch} {y : MethodName} {ws ws' : List Cond} {rm : Room} {Pc : Array Value → State → Prop} {Qc : Array Value → State → Outcome → State → Prop} {XC : String → State → State → Prop} {mc ms : Nat} {free : Addr → Prop} {cc : ByteArray} {maxL : Nat} {ret : Option FieldType} {hh : List (Nat × Nat × Nat × Nat)}
    (hy : plainName y.cls = true) (hw : ws = Cond.codeWith y cc maxL ret hh :: ws')
    (body : ∀ p e s m args below meth c s₁, BodyLoose p l y (headSpec ws rm) cc maxL ret e s m args below meth c s₁ → c.maxLocals = maxL → Pc args s →
      W p l e (headSpec ws rm).room s m args below meth c s.heap [] 0 0 (vx_MQ below Qc XC args s mc ms free) (entryFrame m args maxL)) : vx_Met l y ws rm Pc Qc XC mc ms free := by
  refine MetFree.of_bodyS (code := cc) (maxLocals := maxL) (ret := ret) hy ?_ ?_
  · intro args s m h hn
    obtain ⟨m9, meth, c, hn9, h1, h2, h3, h4, -, h5, h6, -⟩ := Cond.codeWith_spec (atoms_spec (ws := ws) h _ (by rw [hw]; exact List.mem_cons_self))
    cases hn.symm.trans hn9
    exact ⟨meth, c, h1, h2, h3, h4, h5, h6⟩
  · intro p e s m args below meth c s₁ B hml hP _
    have hh0 : s₁.heap = s.heap := by rw [B.state]; rfl
    obtain ⟨t, a1, o, b1, b2, b3⟩ := body p e s m args below meth c s₁ B hml hP s₁ hh0 (Stand.of_body B)
    exact ⟨t, o, a1, b1, b2, b3⟩
/-! ===== END ===== -/
end
section
def RX0 : String := "SkyPlan$Clouds"
def TX0 : u_T := fun k => match k with
  | 0 => ("SkyPlan$Clouds", "from", "[I", true)
  | 1 => ("SkyPlan$Clouds", "to", "[I", true)
  | _ => ("SkyPlan$Clouds", "told", "I", false)
def tyX0 : Nat → FieldType := fun k => match k with
  | 0 => .array .int
  | 1 => .array .int
  | _ => .int
abbrev wsX00 : List Cond := u_ws RX0 TX0 3
theorem nmX0 : ∀ a, a < 3 → ∀ b, b < 3 → a ≠ b → (TX0 a).2.1 ≠ (TX0 b).2.1 := by decide +kernel
theorem tyX0_ok : ∀ k, k < 3 → parseFieldDescriptor (TX0 k).2.2.1 = some (tyX0 k) := by decide +kernel
abbrev cX0_init : ByteArray := prog_2_method_1_code
def yX0_init : MethodName := ⟨RX0, "<init>", "()V"⟩
abbrev cX0_tell : ByteArray := prog_2_method_2_code
def yX0_tell : MethodName := ⟨RX0, "tell", "(II)V"⟩
abbrev cX0_cover : ByteArray := prog_2_method_3_code
def yX0_cover : MethodName := ⟨RX0, "cover", "(I)Z"⟩
def RX1 : String := "SkyPlan$Outlook"
def TX1 : u_T := fun k => match k with
  | 0 => ("SkyPlan$Outlook", "runs", "[I", true)
  | 1 => ("SkyPlan$Outlook", "stands", "Z", false)
  | 2 => ("SkyPlan$Outlook", "first", "I", false)
  | 3 => ("SkyPlan$Outlook", "last", "I", false)
  | 4 => ("SkyPlan$Outlook", "seen", "I", false)
  | 5 => ("SkyPlan$Outlook", "highest", "I", false)
  | 6 => ("SkyPlan$Outlook", "top", "I", false)
  | _ => ("SkyPlan$Outlook", "begin", "I", false)
def tyX1 : Nat → FieldType := fun k => match k with
  | 0 => .array .int
  | 1 => .boolean
  | 2 => .int
  | 3 => .int
  | 4 => .int
  | 5 => .int
  | 6 => .int
  | _ => .int
abbrev wsX10 : List Cond := u_ws RX1 TX1 8
theorem nmX1 : ∀ a, a < 8 → ∀ b, b < 8 → a ≠ b → (TX1 a).2.1 ≠ (TX1 b).2.1 := by decide +kernel
theorem tyX1_ok : ∀ k, k < 8 → parseFieldDescriptor (TX1 k).2.2.1 = some (tyX1 k) := by decide +kernel
abbrev cX1_init : ByteArray := prog_3_method_1_code
def yX1_init : MethodName := ⟨RX1, "<init>", "()V"⟩
abbrev cX1_clear : ByteArray := prog_3_method_2_code
def yX1_clear : MethodName := ⟨RX1, "clear", "()V"⟩
abbrev cX1_noteHeight : ByteArray := prog_3_method_3_code
def yX1_noteHeight : MethodName := ⟨RX1, "noteHeight", "(II)V"⟩
abbrev cX1_noteRun : ByteArray := prog_3_method_4_code
def yX1_noteRun : MethodName := ⟨RX1, "noteRun", "(III)V"⟩
abbrev cX1_lasts : ByteArray := prog_3_method_5_code
def yX1_lasts : MethodName := ⟨RX1, "lasts", "(II)Z"⟩
abbrev cX1_fact : ByteArray := prog_3_method_6_code
def yX1_fact : MethodName := ⟨RX1, "fact", "(I)I"⟩
def RX2 : String := "SkyPlan$Plan"
def TX2 : u_T := fun k => match k with
  | 0 => ("SkyPlan$Plan", "rows", "[[I", true)
  | 1 => ("SkyPlan$Plan", "stands", "Z", false)
  | 2 => ("SkyPlan$Plan", "size", "I", false)
  | 3 => ("SkyPlan$Plan", "minutes", "I", false)
  | _ => ("SkyPlan$Plan", "pointed", "LSkyPlan$Target;", false)
def tyX2 : Nat → FieldType := fun k => match k with
  | 0 => .array (.array .int)
  | 1 => .boolean
  | 2 => .int
  | 3 => .int
  | _ => .object "SkyPlan$Target"
abbrev wsX20 : List Cond := u_ws RX2 TX2 5
theorem nmX2 : ∀ a, a < 5 → ∀ b, b < 5 → a ≠ b → (TX2 a).2.1 ≠ (TX2 b).2.1 := by decide +kernel
theorem tyX2_ok : ∀ k, k < 5 → parseFieldDescriptor (TX2 k).2.2.1 = some (tyX2 k) := by decide +kernel
abbrev cX2_init : ByteArray := prog_4_method_1_code
def yX2_init : MethodName := ⟨RX2, "<init>", "()V"⟩
abbrev cX2_clear : ByteArray := prog_4_method_2_code
def yX2_clear : MethodName := ⟨RX2, "clear", "()V"⟩
abbrev cX2_minutesUntilReady : ByteArray := prog_4_method_3_code
def yX2_minutesUntilReady : MethodName := ⟨RX2, "minutesUntilReady", "(LSkyPlan$Target;)I"⟩
abbrev cX2_take : ByteArray := prog_4_method_4_code
def yX2_take : MethodName := ⟨RX2, "take", "(LSkyPlan$Target;II)I"⟩
def RX3 : String := "SkyPlan$Point"
def TX3 : u_T := fun k => match k with
  | 0 => ("SkyPlan$Point", "rise", "I", true)
  | 1 => ("SkyPlan$Point", "declination", "I", true)
  | 2 => ("SkyPlan$Point", "sine", "I", true)
  | _ => ("SkyPlan$Point", "cosine", "I", true)
def tyX3 : Nat → FieldType := fun k => match k with
  | 0 => .int
  | 1 => .int
  | 2 => .int
  | _ => .int
abbrev wsX30 : List Cond := u_ws RX3 TX3 4
theorem nmX3 : ∀ a, a < 4 → ∀ b, b < 4 → a ≠ b → (TX3 a).2.1 ≠ (TX3 b).2.1 := by decide +kernel
theorem tyX3_ok : ∀ k, k < 4 → parseFieldDescriptor (TX3 k).2.2.1 = some (tyX3 k) := by decide +kernel
abbrev cX3_init : ByteArray := prog_5_method_1_code
def yX3_init : MethodName := ⟨RX3, "<init>", "(II)V"⟩
def RX4 : String := "SkyPlan$Target"
def TX4 : u_T := fun k => match k with
  | 0 => ("SkyPlan$Target", "number", "I", true)
  | 1 => ("SkyPlan$Target", "place", "LSkyPlan$Point;", true)
  | 2 => ("SkyPlan$Target", "filter", "I", true)
  | 3 => ("SkyPlan$Target", "rank", "I", true)
  | 4 => ("SkyPlan$Target", "minutes", "I", true)
  | 5 => ("SkyPlan$Target", "outlook", "LSkyPlan$Outlook;", true)
  | 6 => ("SkyPlan$Target", "least", "I", false)
  | 7 => ("SkyPlan$Target", "wanted", "I", false)
  | 8 => ("SkyPlan$Target", "gap", "I", false)
  | 9 => ("SkyPlan$Target", "had", "I", false)
  | 10 => ("SkyPlan$Target", "latest", "I", false)
  | _ => ("SkyPlan$Target", "planned", "Z", false)
def tyX4 : Nat → FieldType := fun k => match k with
  | 0 => .int
  | 1 => .object "SkyPlan$Point"
  | 2 => .int
  | 3 => .int
  | 4 => .int
  | 5 => .object "SkyPlan$Outlook"
  | 6 => .int
  | 7 => .int
  | 8 => .int
  | 9 => .int
  | 10 => .int
  | _ => .boolean
abbrev wsX40 : List Cond := u_ws RX4 TX4 12
theorem nmX4 : ∀ a, a < 12 → ∀ b, b < 12 → a ≠ b → (TX4 a).2.1 ≠ (TX4 b).2.1 := by decide +kernel
theorem tyX4_ok : ∀ k, k < 12 → parseFieldDescriptor (TX4 k).2.2.1 = some (tyX4 k) := by decide +kernel
abbrev cX4_init : ByteArray := prog_6_method_1_code
def yX4_init : MethodName := ⟨RX4, "<init>", "(ILSkyPlan$Point;III)V"⟩
abbrev cX4_isOpenOn : ByteArray := prog_6_method_2_code
def yX4_isOpenOn : MethodName := ⟨RX4, "isOpenOn", "(I)Z"⟩
abbrev cX4_takeVisit : ByteArray := prog_6_method_3_code
def yX4_takeVisit : MethodName := ⟨RX4, "takeVisit", "(I)V"⟩
abbrev cX4_fact : ByteArray := prog_6_method_4_code
def yX4_fact : MethodName := ⟨RX4, "fact", "(I)I"⟩
def RX5 : String := "SkyPlan"
def TX5 : u_T := fun k => match k with
  | 0 => ("SkyPlan", "zenith", "LSkyPlan$Point;", false)
  | 1 => ("SkyPlan", "moon", "LSkyPlan$Point;", false)
  | 2 => ("SkyPlan", "moonAge", "I", false)
  | 3 => ("SkyPlan", "length", "I", false)
  | 4 => ("SkyPlan", "night", "I", false)
  | 5 => ("SkyPlan", "clouds", "LSkyPlan$Clouds;", true)
  | 6 => ("SkyPlan", "targets", "Ljava/util/ArrayList;", true)
  | _ => ("SkyPlan", "plan", "LSkyPlan$Plan;", true)
def tyX5 : Nat → FieldType := fun k => match k with
  | 0 => .object "SkyPlan$Point"
  | 1 => .object "SkyPlan$Point"
  | 2 => .int
  | 3 => .int
  | 4 => .int
  | 5 => .object "SkyPlan$Clouds"
  | 6 => .object "java/util/ArrayList"
  | _ => .object "SkyPlan$Plan"
abbrev wsX50 : List Cond := u_ws RX5 TX5 8
theorem nmX5 : ∀ a, a < 8 → ∀ b, b < 8 → a ≠ b → (TX5 a).2.1 ≠ (TX5 b).2.1 := by decide +kernel
theorem tyX5_ok : ∀ k, k < 8 → parseFieldDescriptor (TX5 k).2.2.1 = some (tyX5 k) := by decide +kernel
abbrev cX5_init : ByteArray := prog_1_method_1_code
def yX5_init : MethodName := ⟨RX5, "<init>", "()V"⟩
abbrev cX5_setSite : ByteArray := prog_1_method_2_code
def yX5_setSite : MethodName := ⟨RX5, "setSite", "(II)I"⟩
abbrev cX5_setLength : ByteArray := prog_1_method_3_code
def yX5_setLength : MethodName := ⟨RX5, "setLength", "(I)I"⟩
abbrev cX5_setMoon : ByteArray := prog_1_method_4_code
def yX5_setMoon : MethodName := ⟨RX5, "setMoon", "(III)I"⟩
abbrev cX5_addClouds : ByteArray := prog_1_method_5_code
def yX5_addClouds : MethodName := ⟨RX5, "addClouds", "(II)I"⟩
abbrev cX5_sine : ByteArray := prog_1_method_6_code
def yX5_sine : MethodName := ⟨RX5, "sine", "(I)I"⟩
abbrev cX5_addTarget : ByteArray := prog_1_method_7_code
def yX5_addTarget : MethodName := ⟨RX5, "addTarget", "(IIIII)I"⟩
abbrev cX5_want : ByteArray := prog_1_method_8_code
def yX5_want : MethodName := ⟨RX5, "want", "(IIII)I"⟩
abbrev cX5_target : ByteArray := prog_1_method_9_code
def yX5_target : MethodName := ⟨RX5, "target", "(II)I"⟩
abbrev cX5_height : ByteArray := prog_1_method_10_code
def yX5_height : MethodName := ⟨RX5, "height", "(II)I"⟩
abbrev cX5_nearness : ByteArray := prog_1_method_11_code
def yX5_nearness : MethodName := ⟨RX5, "nearness", "(II)I"⟩
abbrev cX5_moonNearness : ByteArray := prog_1_method_12_code
def yX5_moonNearness : MethodName := ⟨RX5, "moonNearness", "(I)I"⟩
abbrev cX5_moonHeight : ByteArray := prog_1_method_13_code
def yX5_moonHeight : MethodName := ⟨RX5, "moonHeight", "(I)I"⟩
abbrev cX5_reason : ByteArray := prog_1_method_14_code
def yX5_reason : MethodName := ⟨RX5, "reason", "(II)I"⟩
abbrev cX5_window : ByteArray := prog_1_method_15_code
def yX5_window : MethodName := ⟨RX5, "window", "(II)I"⟩
abbrev cX5_isOpen : ByteArray := prog_1_method_16_code
def yX5_isOpen : MethodName := ⟨RX5, "isOpen", "(I)Z"⟩
abbrev cX5_count : ByteArray := prog_1_method_17_code
def yX5_count : MethodName := ⟨RX5, "count", "(I)I"⟩
abbrev cX5_visits : ByteArray := prog_1_method_18_code
def yX5_visits : MethodName := ⟨RX5, "visits", "()I"⟩
abbrev cX5_visit : ByteArray := prog_1_method_19_code
def yX5_visit : MethodName := ⟨RX5, "visit", "(II)I"⟩
abbrev cX5_use : ByteArray := prog_1_method_20_code
def yX5_use : MethodName := ⟨RX5, "use", "()D"⟩
abbrev cX5_observe : ByteArray := prog_1_method_21_code
def yX5_observe : MethodName := ⟨RX5, "observe", "()I"⟩
abbrev cX5_pass : ByteArray := prog_1_method_22_code
def yX5_pass : MethodName := ⟨RX5, "pass", "(I)I"⟩
abbrev cX5_night : ByteArray := prog_1_method_23_code
def yX5_night : MethodName := ⟨RX5, "night", "()I"⟩
abbrev cX5_light : ByteArray := prog_1_method_24_code
def yX5_light : MethodName := ⟨RX5, "light", "()I"⟩
abbrev cX5_digest : ByteArray := prog_1_method_25_code
def yX5_digest : MethodName := ⟨RX5, "digest", "()J"⟩
abbrev cX5_isWithin : ByteArray := prog_1_method_26_code
def yX5_isWithin : MethodName := ⟨RX5, "isWithin", "(III)Z"⟩
abbrev cX5_isPoint : ByteArray := prog_1_method_27_code
def yX5_isPoint : MethodName := ⟨RX5, "isPoint", "(II)Z"⟩
abbrev cX5_findTarget : ByteArray := prog_1_method_28_code
def yX5_findTarget : MethodName := ⟨RX5, "findTarget", "(I)LSkyPlan$Target;"⟩
abbrev cX5_checkMinute : ByteArray := prog_1_method_29_code
def yX5_checkMinute : MethodName := ⟨RX5, "checkMinute", "(I)V"⟩
abbrev cX5_checkWhat : ByteArray := prog_1_method_30_code
def yX5_checkWhat : MethodName := ⟨RX5, "checkWhat", "(II)V"⟩
abbrev cX5_sineOf : ByteArray := prog_1_method_31_code
def yX5_sineOf : MethodName := ⟨RX5, "sineOf", "(I)I"⟩
abbrev cX5_closeness : ByteArray := prog_1_method_32_code
def yX5_closeness : MethodName := ⟨RX5, "closeness", "(LSkyPlan$Point;LSkyPlan$Point;I)I"⟩
abbrev cX5_nearnessOf : ByteArray := prog_1_method_33_code
def yX5_nearnessOf : MethodName := ⟨RX5, "nearnessOf", "(LSkyPlan$Point;LSkyPlan$Point;)I"⟩
abbrev cX5_heightOf : ByteArray := prog_1_method_34_code
def yX5_heightOf : MethodName := ⟨RX5, "heightOf", "(LSkyPlan$Point;I)I"⟩
abbrev cX5_moonLight : ByteArray := prog_1_method_35_code
def yX5_moonLight : MethodName := ⟨RX5, "moonLight", "()I"⟩
abbrev cX5_clearMinutes : ByteArray := prog_1_method_36_code
def yX5_clearMinutes : MethodName := ⟨RX5, "clearMinutes", "()I"⟩
abbrev cX5_reasonAgainst : ByteArray := prog_1_method_37_code
def yX5_reasonAgainst : MethodName := ⟨RX5, "reasonAgainst", "(LSkyPlan$Target;II)I"⟩
abbrev cX5_survey : ByteArray := prog_1_method_38_code
def yX5_survey : MethodName := ⟨RX5, "survey", "(LSkyPlan$Target;)V"⟩
abbrev cX5_share : ByteArray := prog_1_method_39_code
def yX5_share : MethodName := ⟨RX5, "share", "(LSkyPlan$Target;I)I"⟩
abbrev cX5_settlePlan : ByteArray := prog_1_method_40_code
def yX5_settlePlan : MethodName := ⟨RX5, "settlePlan", "()V"⟩
abbrev cX5_takeBest : ByteArray := prog_1_method_41_code
def yX5_takeBest : MethodName := ⟨RX5, "takeBest", "(I)I"⟩
abbrev cX5_meritAt : ByteArray := prog_1_method_42_code
def yX5_meritAt : MethodName := ⟨RX5, "meritAt", "(LSkyPlan$Target;I)I"⟩
abbrev cX5_beginNextNight : ByteArray := prog_1_method_43_code
def yX5_beginNextNight : MethodName := ⟨RX5, "beginNextNight", "()V"⟩
abbrev cX5_forgetNight : ByteArray := prog_1_method_44_code
def yX5_forgetNight : MethodName := ⟨RX5, "forgetNight", "()V"⟩
abbrev cX5_blend : ByteArray := prog_1_method_45_code
def yX5_blend : MethodName := ⟨RX5, "blend", "(JI)J"⟩
abbrev cX5_blendTargets : ByteArray := prog_1_method_46_code
def yX5_blendTargets : MethodName := ⟨RX5, "blendTargets", "(J)J"⟩
abbrev cX5_blendPlan : ByteArray := prog_1_method_47_code
def yX5_blendPlan : MethodName := ⟨RX5, "blendPlan", "(J)J"⟩
def RX6 : String := "SkyPlanModel"
def TX6 : u_T := fun k => match k with
  | 0 => ("SkyPlanModel", "thrown", "I", false)
  | 1 => ("SkyPlanModel", "night", "I", false)
  | 2 => ("SkyPlanModel", "length", "I", false)
  | 3 => ("SkyPlanModel", "latitude", "I", false)
  | 4 => ("SkyPlanModel", "start", "I", false)
  | 5 => ("SkyPlanModel", "moonRise", "I", false)
  | 6 => ("SkyPlanModel", "moonDeclination", "I", false)
  | 7 => ("SkyPlanModel", "moonAge", "I", false)
  | 8 => ("SkyPlanModel", "clouds", "I", false)
  | 9 => ("SkyPlanModel", "areCloudy", "[Z", true)
  | 10 => ("SkyPlanModel", "targets", "I", false)
  | 11 => ("SkyPlanModel", "rises", "[I", true)
  | 12 => ("SkyPlanModel", "declinations", "[I", true)
  | 13 => ("SkyPlanModel", "filters", "[I", true)
  | 14 => ("SkyPlanModel", "ranks", "[I", true)
  | 15 => ("SkyPlanModel", "least", "[I", true)
  | 16 => ("SkyPlanModel", "minutes", "[I", true)
  | 17 => ("SkyPlanModel", "wanted", "[I", true)
  | 18 => ("SkyPlanModel", "nights", "[I", true)
  | 19 => ("SkyPlanModel", "had", "[I", true)
  | 20 => ("SkyPlanModel", "latest", "[I", true)
  | 21 => ("SkyPlanModel", "isWorkedOut", "Z", false)
  | 22 => ("SkyPlanModel", "heights", "[I", true)
  | 23 => ("SkyPlanModel", "seen", "[I", true)
  | 24 => ("SkyPlanModel", "planned", "I", false)
  | _ => ("SkyPlanModel", "plan", "[I", true)
def tyX6 : Nat → FieldType := fun k => match k with
  | 0 => .int
  | 1 => .int
  | 2 => .int
  | 3 => .int
  | 4 => .int
  | 5 => .int
  | 6 => .int
  | 7 => .int
  | 8 => .int
  | 9 => .array .boolean
  | 10 => .int
  | 11 => .array .int
  | 12 => .array .int
  | 13 => .array .int
  | 14 => .array .int
  | 15 => .array .int
  | 16 => .array .int
  | 17 => .array .int
  | 18 => .array .int
  | 19 => .array .int
  | 20 => .array .int
  | 21 => .boolean
  | 22 => .array .int
  | 23 => .array .int
  | 24 => .int
  | _ => .array .int
abbrev wsX60 : List Cond := u_ws RX6 TX6 26
theorem nmX6 : ∀ a, a < 26 → ∀ b, b < 26 → a ≠ b → (TX6 a).2.1 ≠ (TX6 b).2.1 := by decide +kernel
theorem tyX6_ok : ∀ k, k < 26 → parseFieldDescriptor (TX6 k).2.2.1 = some (tyX6 k) := by decide +kernel
abbrev cX6_init : ByteArray := prog_8_method_1_code
def yX6_init : MethodName := ⟨RX6, "<init>", "()V"⟩
abbrev cX6_thrown : ByteArray := prog_8_method_2_code
def yX6_thrown : MethodName := ⟨RX6, "thrown", "()I"⟩
abbrev cX6_no : ByteArray := prog_8_method_3_code
def yX6_no : MethodName := ⟨RX6, "no", "(I)I"⟩
abbrev cX6_isIn : ByteArray := prog_8_method_4_code
def yX6_isIn : MethodName := ⟨RX6, "isIn", "(III)Z"⟩
abbrev cX6_isTarget : ByteArray := prog_8_method_5_code
def yX6_isTarget : MethodName := ⟨RX6, "isTarget", "(I)Z"⟩
abbrev cX6_isMinute : ByteArray := prog_8_method_6_code
def yX6_isMinute : MethodName := ⟨RX6, "isMinute", "(I)Z"⟩
abbrev cX6_isPoint : ByteArray := prog_8_method_7_code
def yX6_isPoint : MethodName := ⟨RX6, "isPoint", "(II)Z"⟩
abbrev cX6_sineOf : ByteArray := prog_8_method_8_code
def yX6_sineOf : MethodName := ⟨RX6, "sineOf", "(I)I"⟩
abbrev cX6_cosineOf : ByteArray := prog_8_method_9_code
def yX6_cosineOf : MethodName := ⟨RX6, "cosineOf", "(I)I"⟩
abbrev cX6_mixed : ByteArray := prog_8_method_10_code
def yX6_mixed : MethodName := ⟨RX6, "mixed", "(III)I"⟩
abbrev cX6_heightOf : ByteArray := prog_8_method_11_code
def yX6_heightOf : MethodName := ⟨RX6, "heightOf", "(III)I"⟩
abbrev cX6_near : ByteArray := prog_8_method_12_code
def yX6_near : MethodName := ⟨RX6, "near", "(IIII)I"⟩
abbrev cX6_lightOf : ByteArray := prog_8_method_13_code
def yX6_lightOf : MethodName := ⟨RX6, "lightOf", "()I"⟩
abbrev cX6_moonNear : ByteArray := prog_8_method_14_code
def yX6_moonNear : MethodName := ⟨RX6, "moonNear", "(I)I"⟩
abbrev cX6_moonHeightOf : ByteArray := prog_8_method_15_code
def yX6_moonHeightOf : MethodName := ⟨RX6, "moonHeightOf", "(I)I"⟩
abbrev cX6_reasonOf : ByteArray := prog_8_method_16_code
def yX6_reasonOf : MethodName := ⟨RX6, "reasonOf", "(II)I"⟩
abbrev cX6_isOpenNow : ByteArray := prog_8_method_17_code
def yX6_isOpenNow : MethodName := ⟨RX6, "isOpenNow", "(I)Z"⟩
abbrev cX6_workOut : ByteArray := prog_8_method_18_code
def yX6_workOut : MethodName := ⟨RX6, "workOut", "()V"⟩
abbrev cX6_ready : ByteArray := prog_8_method_19_code
def yX6_ready : MethodName := ⟨RX6, "ready", "(III)I"⟩
abbrev cX6_makePlan : ByteArray := prog_8_method_20_code
def yX6_makePlan : MethodName := ⟨RX6, "makePlan", "()V"⟩
abbrev cX6_setSite : ByteArray := prog_8_method_21_code
def yX6_setSite : MethodName := ⟨RX6, "setSite", "(II)I"⟩
abbrev cX6_setLength : ByteArray := prog_8_method_22_code
def yX6_setLength : MethodName := ⟨RX6, "setLength", "(I)I"⟩
abbrev cX6_setMoon : ByteArray := prog_8_method_23_code
def yX6_setMoon : MethodName := ⟨RX6, "setMoon", "(III)I"⟩
abbrev cX6_addClouds : ByteArray := prog_8_method_24_code
def yX6_addClouds : MethodName := ⟨RX6, "addClouds", "(II)I"⟩
abbrev cX6_sine : ByteArray := prog_8_method_25_code
def yX6_sine : MethodName := ⟨RX6, "sine", "(I)I"⟩
abbrev cX6_addTarget : ByteArray := prog_8_method_26_code
def yX6_addTarget : MethodName := ⟨RX6, "addTarget", "(IIIII)I"⟩
abbrev cX6_want : ByteArray := prog_8_method_27_code
def yX6_want : MethodName := ⟨RX6, "want", "(IIII)I"⟩
abbrev cX6_told : ByteArray := prog_8_method_28_code
def yX6_told : MethodName := ⟨RX6, "told", "(II)I"⟩
abbrev cX6_target : ByteArray := prog_8_method_29_code
def yX6_target : MethodName := ⟨RX6, "target", "(II)I"⟩
abbrev cX6_height : ByteArray := prog_8_method_30_code
def yX6_height : MethodName := ⟨RX6, "height", "(II)I"⟩
abbrev cX6_nearness : ByteArray := prog_8_method_31_code
def yX6_nearness : MethodName := ⟨RX6, "nearness", "(II)I"⟩
abbrev cX6_moonNearness : ByteArray := prog_8_method_32_code
def yX6_moonNearness : MethodName := ⟨RX6, "moonNearness", "(I)I"⟩
abbrev cX6_moonHeight : ByteArray := prog_8_method_33_code
def yX6_moonHeight : MethodName := ⟨RX6, "moonHeight", "(I)I"⟩
abbrev cX6_reason : ByteArray := prog_8_method_34_code
def yX6_reason : MethodName := ⟨RX6, "reason", "(II)I"⟩
abbrev cX6_windowOf : ByteArray := prog_8_method_35_code
def yX6_windowOf : MethodName := ⟨RX6, "windowOf", "(II)I"⟩
abbrev cX6_window : ByteArray := prog_8_method_36_code
def yX6_window : MethodName := ⟨RX6, "window", "(II)I"⟩
abbrev cX6_isOpen : ByteArray := prog_8_method_37_code
def yX6_isOpen : MethodName := ⟨RX6, "isOpen", "(I)Z"⟩
abbrev cX6_count : ByteArray := prog_8_method_38_code
def yX6_count : MethodName := ⟨RX6, "count", "(I)I"⟩
abbrev cX6_visits : ByteArray := prog_8_method_39_code
def yX6_visits : MethodName := ⟨RX6, "visits", "()I"⟩
abbrev cX6_visit : ByteArray := prog_8_method_40_code
def yX6_visit : MethodName := ⟨RX6, "visit", "(II)I"⟩
abbrev cX6_use : ByteArray := prog_8_method_41_code
def yX6_use : MethodName := ⟨RX6, "use", "()D"⟩
abbrev cX6_nextNight : ByteArray := prog_8_method_42_code
def yX6_nextNight : MethodName := ⟨RX6, "nextNight", "()V"⟩
abbrev cX6_observe : ByteArray := prog_8_method_43_code
def yX6_observe : MethodName := ⟨RX6, "observe", "()I"⟩
abbrev cX6_pass : ByteArray := prog_8_method_44_code
def yX6_pass : MethodName := ⟨RX6, "pass", "(I)I"⟩
abbrev cX6_night : ByteArray := prog_8_method_45_code
def yX6_night : MethodName := ⟨RX6, "night", "()I"⟩
abbrev cX6_light : ByteArray := prog_8_method_46_code
def yX6_light : MethodName := ⟨RX6, "light", "()I"⟩
abbrev cX6_digest : ByteArray := prog_8_method_47_code
def yX6_digest : MethodName := ⟨RX6, "digest", "()J"⟩
def RJx145de : String := "java/io/Serializable"
def TJx145de : u_T := fun k => match k with
  | _ => ("", "", "", false)
def tyJx145de : Nat → FieldType := fun k => match k with
  | _ => .int
abbrev wsJx145de0 : List Cond := u_ws RJx145de TJx145de 0
theorem nmJx145de : ∀ a, a < 0 → ∀ b, b < 0 → a ≠ b → (TJx145de a).2.1 ≠ (TJx145de b).2.1 := by decide +kernel
theorem tyJx145de_ok : ∀ k, k < 0 → parseFieldDescriptor (TJx145de k).2.2.1 = some (tyJx145de k) := by decide +kernel
def RJx8e188 : String := "java/lang/Cloneable"
def TJx8e188 : u_T := fun k => match k with
  | _ => ("", "", "", false)
def tyJx8e188 : Nat → FieldType := fun k => match k with
  | _ => .int
abbrev wsJx8e1880 : List Cond := u_ws RJx8e188 TJx8e188 0
theorem nmJx8e188 : ∀ a, a < 0 → ∀ b, b < 0 → a ≠ b → (TJx8e188 a).2.1 ≠ (TJx8e188 b).2.1 := by decide +kernel
theorem tyJx8e188_ok : ∀ k, k < 0 → parseFieldDescriptor (TJx8e188 k).2.2.1 = some (tyJx8e188 k) := by decide +kernel
def RJxab1ab : String := "java/lang/Iterable"
def TJxab1ab : u_T := fun k => match k with
  | _ => ("", "", "", false)
def tyJxab1ab : Nat → FieldType := fun k => match k with
  | _ => .int
abbrev wsJxab1ab0 : List Cond := u_ws RJxab1ab TJxab1ab 0
theorem nmJxab1ab : ∀ a, a < 0 → ∀ b, b < 0 → a ≠ b → (TJxab1ab a).2.1 ≠ (TJxab1ab b).2.1 := by decide +kernel
theorem tyJxab1ab_ok : ∀ k, k < 0 → parseFieldDescriptor (TJxab1ab k).2.2.1 = some (tyJxab1ab k) := by decide +kernel
def RJ9 : String := "java/lang/Math"
def TJ9 : u_T := fun k => match k with
  | _ => ("", "", "", false)
def tyJ9 : Nat → FieldType := fun k => match k with
  | _ => .int
abbrev wsJ90 : List Cond := u_ws RJ9 TJ9 0
theorem nmJ9 : ∀ a, a < 0 → ∀ b, b < 0 → a ≠ b → (TJ9 a).2.1 ≠ (TJ9 b).2.1 := by decide +kernel
theorem tyJ9_ok : ∀ k, k < 0 → parseFieldDescriptor (TJ9 k).2.2.1 = some (tyJ9 k) := by decide +kernel
abbrev cJ9_floorMod_7cf53 : ByteArray := prog_16_method_50_code
def yJ9_floorMod_7cf53 : MethodName := ⟨RJ9, "floorMod", "(II)I"⟩
abbrev cJ9_abs_0f7a4 : ByteArray := prog_16_method_59_code
def yJ9_abs_0f7a4 : MethodName := ⟨RJ9, "abs", "(I)I"⟩
abbrev cJ9_max_7cf53 : ByteArray := prog_16_method_65_code
def yJ9_max_7cf53 : MethodName := ⟨RJ9, "max", "(II)I"⟩
abbrev cJ9_min_7cf53 : ByteArray := prog_16_method_69_code
def yJ9_min_7cf53 : MethodName := ⟨RJ9, "min", "(II)I"⟩
def RJ0 : String := "java/lang/String"
def TJ0 : u_T := fun k => match k with
  | _ => ("", "", "", false)
def tyJ0 : Nat → FieldType := fun k => match k with
  | _ => .int
abbrev wsJ00 : List Cond := u_ws RJ0 TJ0 0
theorem nmJ0 : ∀ a, a < 0 → ∀ b, b < 0 → a ≠ b → (TJ0 a).2.1 ≠ (TJ0 b).2.1 := by decide +kernel
theorem tyJ0_ok : ∀ k, k < 0 → parseFieldDescriptor (TJ0 k).2.2.1 = some (tyJ0 k) := by decide +kernel
def RJ10 : String := "java/lang/System"
def TJ10 : u_T := fun k => match k with
  | _ => ("", "", "", false)
def tyJ10 : Nat → FieldType := fun k => match k with
  | _ => .int
abbrev wsJ100 : List Cond := u_ws RJ10 TJ10 0
theorem nmJ10 : ∀ a, a < 0 → ∀ b, b < 0 → a ≠ b → (TJ10 a).2.1 ≠ (TJ10 b).2.1 := by decide +kernel
theorem tyJ10_ok : ∀ k, k < 0 → parseFieldDescriptor (TJ10 k).2.2.1 = some (tyJ10 k) := by decide +kernel
def RJxa1e45 : String := "java/util/AbstractCollection"
def TJxa1e45 : u_T := fun k => match k with
  | _ => ("", "", "", false)
def tyJxa1e45 : Nat → FieldType := fun k => match k with
  | _ => .int
abbrev wsJxa1e450 : List Cond := u_ws RJxa1e45 TJxa1e45 0
theorem nmJxa1e45 : ∀ a, a < 0 → ∀ b, b < 0 → a ≠ b → (TJxa1e45 a).2.1 ≠ (TJxa1e45 b).2.1 := by decide +kernel
theorem tyJxa1e45_ok : ∀ k, k < 0 → parseFieldDescriptor (TJxa1e45 k).2.2.1 = some (tyJxa1e45 k) := by decide +kernel
abbrev cJxa1e45_init_da8c8 : ByteArray := prog_21_method_1_code
def yJxa1e45_init_da8c8 : MethodName := ⟨RJxa1e45, "<init>", "()V"⟩
def RJxc12de : String := "java/util/AbstractList"
def TJxc12de : u_T := fun k => match k with
  | _ => ("", "", "", false)
def tyJxc12de : Nat → FieldType := fun k => match k with
  | _ => .int
abbrev wsJxc12de0 : List Cond := u_ws RJxc12de TJxc12de 0
theorem nmJxc12de : ∀ a, a < 0 → ∀ b, b < 0 → a ≠ b → (TJxc12de a).2.1 ≠ (TJxc12de b).2.1 := by decide +kernel
theorem tyJxc12de_ok : ∀ k, k < 0 → parseFieldDescriptor (TJxc12de k).2.2.1 = some (tyJxc12de k) := by decide +kernel
abbrev cJxc12de_init_da8c8 : ByteArray := prog_22_method_1_code
def yJxc12de_init_da8c8 : MethodName := ⟨RJxc12de, "<init>", "()V"⟩
def RJx4a65c : String := "java/util/ArrayList"
def TJx4a65c : u_T := fun k => match k with
  | 0 => ("java/util/AbstractList", "modCount", "I", false)
  | 1 => ("java/util/ArrayList", "elementData", "[Ljava/lang/Object;", false)
  | _ => ("java/util/ArrayList", "size", "I", false)
def tyJx4a65c : Nat → FieldType := fun k => match k with
  | 0 => .int
  | 1 => .array (.object "java/lang/Object")
  | _ => .int
abbrev wsJx4a65c0 : List Cond := u_ws RJx4a65c TJx4a65c 3
theorem nmJx4a65c : ∀ a, a < 3 → ∀ b, b < 3 → a ≠ b → (TJx4a65c a).2.1 ≠ (TJx4a65c b).2.1 := by decide +kernel
theorem tyJx4a65c_ok : ∀ k, k < 3 → parseFieldDescriptor (TJx4a65c k).2.2.1 = some (tyJx4a65c k) := by decide +kernel
abbrev cJx4a65c_init_da8c8 : ByteArray := prog_23_method_2_code
def yJx4a65c_init_da8c8 : MethodName := ⟨RJx4a65c, "<init>", "()V"⟩
abbrev cJx4a65c_grow_92f84 : ByteArray := prog_23_method_6_code
def yJx4a65c_grow_92f84 : MethodName := ⟨RJx4a65c, "grow", "(I)[Ljava/lang/Object;"⟩
abbrev cJx4a65c_grow_d5877 : ByteArray := prog_23_method_7_code
def yJx4a65c_grow_d5877 : MethodName := ⟨RJx4a65c, "grow", "()[Ljava/lang/Object;"⟩
abbrev cJx4a65c_size_8abf5 : ByteArray := prog_23_method_8_code
def yJx4a65c_size_8abf5 : MethodName := ⟨RJx4a65c, "size", "()I"⟩
abbrev cJx4a65c_elementData_915e3 : ByteArray := prog_23_method_18_code
def yJx4a65c_elementData_915e3 : MethodName := ⟨RJx4a65c, "elementData", "(I)Ljava/lang/Object;"⟩
abbrev cJx4a65c_get_915e3 : ByteArray := prog_23_method_20_code
def yJx4a65c_get_915e3 : MethodName := ⟨RJx4a65c, "get", "(I)Ljava/lang/Object;"⟩
abbrev cJx4a65c_add_72be8 : ByteArray := prog_23_method_24_code
def yJx4a65c_add_72be8 : MethodName := ⟨RJx4a65c, "add", "(Ljava/lang/Object;[Ljava/lang/Object;I)V"⟩
abbrev cJx4a65c_add_9ea2d : ByteArray := prog_23_method_25_code
def yJx4a65c_add_9ea2d : MethodName := ⟨RJx4a65c, "add", "(Ljava/lang/Object;)Z"⟩
def RJ7 : String := "java/util/Arrays"
def TJ7 : u_T := fun k => match k with
  | _ => ("", "", "", false)
def tyJ7 : Nat → FieldType := fun k => match k with
  | _ => .int
abbrev wsJ70 : List Cond := u_ws RJ7 TJ7 0
theorem nmJ7 : ∀ a, a < 0 → ∀ b, b < 0 → a ≠ b → (TJ7 a).2.1 ≠ (TJ7 b).2.1 := by decide +kernel
theorem tyJ7_ok : ∀ k, k < 0 → parseFieldDescriptor (TJ7 k).2.2.1 = some (tyJ7 k) := by decide +kernel
abbrev cJ7_fill_53178 : ByteArray := prog_24_method_103_code
def yJ7_fill_53178 : MethodName := ⟨RJ7, "fill", "([II)V"⟩
abbrev cJ7_copyOf_1904c : ByteArray := prog_24_method_119_code
def yJ7_copyOf_1904c : MethodName := ⟨RJ7, "copyOf", "([Ljava/lang/Object;I)[Ljava/lang/Object;"⟩
abbrev cJ7_copyOf_6403c : ByteArray := prog_24_method_120_code
def yJ7_copyOf_6403c : MethodName := ⟨RJ7, "copyOf", "([Ljava/lang/Object;ILjava/lang/Class;)[Ljava/lang/Object;"⟩
def RJx5ef63 : String := "java/util/Collection"
def TJx5ef63 : u_T := fun k => match k with
  | _ => ("", "", "", false)
def tyJx5ef63 : Nat → FieldType := fun k => match k with
  | _ => .int
abbrev wsJx5ef630 : List Cond := u_ws RJx5ef63 TJx5ef63 0
theorem nmJx5ef63 : ∀ a, a < 0 → ∀ b, b < 0 → a ≠ b → (TJx5ef63 a).2.1 ≠ (TJx5ef63 b).2.1 := by decide +kernel
theorem tyJx5ef63_ok : ∀ k, k < 0 → parseFieldDescriptor (TJx5ef63 k).2.2.1 = some (tyJx5ef63 k) := by decide +kernel
def RJxbd725 : String := "java/util/List"
def TJxbd725 : u_T := fun k => match k with
  | _ => ("", "", "", false)
def tyJxbd725 : Nat → FieldType := fun k => match k with
  | _ => .int
abbrev wsJxbd7250 : List Cond := u_ws RJxbd725 TJxbd725 0
theorem nmJxbd725 : ∀ a, a < 0 → ∀ b, b < 0 → a ≠ b → (TJxbd725 a).2.1 ≠ (TJxbd725 b).2.1 := by decide +kernel
theorem tyJxbd725_ok : ∀ k, k < 0 → parseFieldDescriptor (TJxbd725 k).2.2.1 = some (tyJxbd725 k) := by decide +kernel
def RJ15 : String := "java/util/Objects"
def TJ15 : u_T := fun k => match k with
  | _ => ("", "", "", false)
def tyJ15 : Nat → FieldType := fun k => match k with
  | _ => .int
abbrev wsJ150 : List Cond := u_ws RJ15 TJ15 0
theorem nmJ15 : ∀ a, a < 0 → ∀ b, b < 0 → a ≠ b → (TJ15 a).2.1 ≠ (TJ15 b).2.1 := by decide +kernel
theorem tyJ15_ok : ∀ k, k < 0 → parseFieldDescriptor (TJ15 k).2.2.1 = some (tyJ15 k) := by decide +kernel
abbrev cJ15_checkIndex_7cf53 : ByteArray := prog_27_method_17_code
def yJ15_checkIndex_7cf53 : MethodName := ⟨RJ15, "checkIndex", "(II)I"⟩
def RJxf0a74 : String := "java/util/RandomAccess"
def TJxf0a74 : u_T := fun k => match k with
  | _ => ("", "", "", false)
def tyJxf0a74 : Nat → FieldType := fun k => match k with
  | _ => .int
abbrev wsJxf0a740 : List Cond := u_ws RJxf0a74 TJxf0a74 0
theorem nmJxf0a74 : ∀ a, a < 0 → ∀ b, b < 0 → a ≠ b → (TJxf0a74 a).2.1 ≠ (TJxf0a74 b).2.1 := by decide +kernel
theorem tyJxf0a74_ok : ∀ k, k < 0 → parseFieldDescriptor (TJxf0a74 k).2.2.1 = some (tyJxf0a74 k) := by decide +kernel
def RJxa66e6 : String := "java/util/SequencedCollection"
def TJxa66e6 : u_T := fun k => match k with
  | _ => ("", "", "", false)
def tyJxa66e6 : Nat → FieldType := fun k => match k with
  | _ => .int
abbrev wsJxa66e60 : List Cond := u_ws RJxa66e6 TJxa66e6 0
theorem nmJxa66e6 : ∀ a, a < 0 → ∀ b, b < 0 → a ≠ b → (TJxa66e6 a).2.1 ≠ (TJxa66e6 b).2.1 := by decide +kernel
theorem tyJxa66e6_ok : ∀ k, k < 0 → parseFieldDescriptor (TJxa66e6 k).2.2.1 = some (tyJxa66e6 k) := by decide +kernel
def RJ8 : String := "jdk/internal/util/ArraysSupport"
def TJ8 : u_T := fun k => match k with
  | _ => ("", "", "", false)
def tyJ8 : Nat → FieldType := fun k => match k with
  | _ => .int
abbrev wsJ80 : List Cond := u_ws RJ8 TJ8 0
theorem nmJ8 : ∀ a, a < 0 → ∀ b, b < 0 → a ≠ b → (TJ8 a).2.1 ≠ (TJ8 b).2.1 := by decide +kernel
theorem tyJ8_ok : ∀ k, k < 0 → parseFieldDescriptor (TJ8 k).2.2.1 = some (tyJ8 k) := by decide +kernel
abbrev cJ8_newLength_cabcc : ByteArray := prog_30_method_27_code
def yJ8_newLength_cabcc : MethodName := ⟨RJ8, "newLength", "(III)I"⟩
abbrev cJ8_hugeLength_7cf53 : ByteArray := prog_30_method_28_code
def yJ8_hugeLength_7cf53 : MethodName := ⟨RJ8, "hugeLength", "(II)I"⟩
def RJ3 : String := "jdk/internal/util/Preconditions"
def TJ3 : u_T := fun k => match k with
  | _ => ("", "", "", false)
def tyJ3 : Nat → FieldType := fun k => match k with
  | _ => .int
abbrev wsJ30 : List Cond := u_ws RJ3 TJ3 0
theorem nmJ3 : ∀ a, a < 0 → ∀ b, b < 0 → a ≠ b → (TJ3 a).2.1 ≠ (TJ3 b).2.1 := by decide +kernel
theorem tyJ3_ok : ∀ k, k < 0 → parseFieldDescriptor (TJ3 k).2.2.1 = some (tyJ3 k) := by decide +kernel
abbrev cJ3_checkIndex_8e157 : ByteArray := prog_31_method_11_code
def yJ3_checkIndex_8e157 : MethodName := ⟨RJ3, "checkIndex", "(IILjava/util/function/BiFunction;)I"⟩
def RL : String := "SkyPlanLaw"
abbrev cL_setSite : ByteArray := method_3_code
def yL_setSite : MethodName := ⟨RL, "setSite", "(LSkyPlan;II[J)I"⟩
abbrev cL_setLength : ByteArray := method_4_code
def yL_setLength : MethodName := ⟨RL, "setLength", "(LSkyPlan;I[J)I"⟩
abbrev cL_setMoon : ByteArray := method_5_code
def yL_setMoon : MethodName := ⟨RL, "setMoon", "(LSkyPlan;III[J)I"⟩
abbrev cL_addClouds : ByteArray := method_6_code
def yL_addClouds : MethodName := ⟨RL, "addClouds", "(LSkyPlan;II[J)I"⟩
abbrev cL_sine : ByteArray := method_7_code
def yL_sine : MethodName := ⟨RL, "sine", "(LSkyPlan;I[J)I"⟩
abbrev cL_addTarget : ByteArray := method_8_code
def yL_addTarget : MethodName := ⟨RL, "addTarget", "(LSkyPlan;IIIII[J)I"⟩
abbrev cL_want : ByteArray := method_9_code
def yL_want : MethodName := ⟨RL, "want", "(LSkyPlan;IIII[J)I"⟩
abbrev cL_target : ByteArray := method_10_code
def yL_target : MethodName := ⟨RL, "target", "(LSkyPlan;II[J)I"⟩
abbrev cL_height : ByteArray := method_11_code
def yL_height : MethodName := ⟨RL, "height", "(LSkyPlan;II[J)I"⟩
abbrev cL_nearness : ByteArray := method_12_code
def yL_nearness : MethodName := ⟨RL, "nearness", "(LSkyPlan;II[J)I"⟩
abbrev cL_moonNearness : ByteArray := method_13_code
def yL_moonNearness : MethodName := ⟨RL, "moonNearness", "(LSkyPlan;I[J)I"⟩
abbrev cL_moonHeight : ByteArray := method_14_code
def yL_moonHeight : MethodName := ⟨RL, "moonHeight", "(LSkyPlan;I[J)I"⟩
abbrev cL_reason : ByteArray := method_15_code
def yL_reason : MethodName := ⟨RL, "reason", "(LSkyPlan;II[J)I"⟩
abbrev cL_window : ByteArray := method_16_code
def yL_window : MethodName := ⟨RL, "window", "(LSkyPlan;II[J)I"⟩
abbrev cL_isOpen : ByteArray := method_17_code
def yL_isOpen : MethodName := ⟨RL, "isOpen", "(LSkyPlan;I[J)I"⟩
abbrev cL_count : ByteArray := method_18_code
def yL_count : MethodName := ⟨RL, "count", "(LSkyPlan;I[J)I"⟩
abbrev cL_visit : ByteArray := method_19_code
def yL_visit : MethodName := ⟨RL, "visit", "(LSkyPlan;II[J)I"⟩
abbrev cL_observe : ByteArray := method_20_code
def yL_observe : MethodName := ⟨RL, "observe", "(LSkyPlan;[J)I"⟩
abbrev cL_pass : ByteArray := method_21_code
def yL_pass : MethodName := ⟨RL, "pass", "(LSkyPlan;I[J)I"⟩
abbrev cL_law : ByteArray := code
def yL_law : MethodName := ⟨RL, "law", "([I)Z"⟩
abbrev vwCl : List vw_C := [(RJx4a65c, TJx4a65c, 3), (RX0, TX0, 3), (RX1, TX1, 8), (RX2, TX2, 5), (RX3, TX3, 4), (RX4, TX4, 12), (RX5, TX5, 8), (RX6, TX6, 26)]
end
section
theorem dX0_init_0 : decode cX0_init 0 = .ok (.aload_n 0, 1) := by decide +kernel
theorem dX0_init_1 : decode cX0_init 1 = .ok (.invokespecial 3, 3) := by decide +kernel
theorem dX0_init_4 : decode cX0_init 4 = .ok (.aload_n 0, 1) := by decide +kernel
theorem dX0_init_5 : decode cX0_init 5 = .ok (.bipush 8, 2) := by decide +kernel
theorem dX0_init_7 : decode cX0_init 7 = .ok (.newarray .int, 2) := by decide +kernel
theorem dX0_init_9 : decode cX0_init 9 = .ok (.putfield 9, 3) := by decide +kernel
theorem dX0_init_12 : decode cX0_init 12 = .ok (.aload_n 0, 1) := by decide +kernel
theorem dX0_init_13 : decode cX0_init 13 = .ok (.bipush 8, 2) := by decide +kernel
theorem dX0_init_15 : decode cX0_init 15 = .ok (.newarray .int, 2) := by decide +kernel
theorem dX0_init_17 : decode cX0_init 17 = .ok (.putfield 15, 3) := by decide +kernel
theorem dX0_init_20 : decode cX0_init 20 = .ok (.return_, 1) := by decide +kernel
theorem dX0_tell_0 : decode cX0_tell 0 = .ok (.aload_n 0, 1) := by decide +kernel
theorem dX0_tell_1 : decode cX0_tell 1 = .ok (.getfield 18, 3) := by decide +kernel
theorem dX0_tell_4 : decode cX0_tell 4 = .ok (.ifCond .lt 42, 3) := by decide +kernel
theorem dX0_tell_7 : decode cX0_tell 7 = .ok (.aload_n 0, 1) := by decide +kernel
theorem dX0_tell_8 : decode cX0_tell 8 = .ok (.getfield 18, 3) := by decide +kernel
theorem dX0_tell_11 : decode cX0_tell 11 = .ok (.bipush 8, 2) := by decide +kernel
theorem dX0_tell_13 : decode cX0_tell 13 = .ok (.if_icmp .ge 33, 3) := by decide +kernel
theorem dX0_tell_16 : decode cX0_tell 16 = .ok (.aload_n 0, 1) := by decide +kernel
theorem dX0_tell_17 : decode cX0_tell 17 = .ok (.getfield 9, 3) := by decide +kernel
theorem dX0_tell_20 : decode cX0_tell 20 = .ok (.aload_n 0, 1) := by decide +kernel
theorem dX0_tell_21 : decode cX0_tell 21 = .ok (.getfield 18, 3) := by decide +kernel
theorem dX0_tell_24 : decode cX0_tell 24 = .ok (.iload_n 1, 1) := by decide +kernel
theorem dX0_tell_25 : decode cX0_tell 25 = .ok (.iastore, 1) := by decide +kernel
theorem dX0_tell_26 : decode cX0_tell 26 = .ok (.aload_n 0, 1) := by decide +kernel
theorem dX0_tell_27 : decode cX0_tell 27 = .ok (.getfield 15, 3) := by decide +kernel
theorem dX0_tell_30 : decode cX0_tell 30 = .ok (.aload_n 0, 1) := by decide +kernel
theorem dX0_tell_31 : decode cX0_tell 31 = .ok (.getfield 18, 3) := by decide +kernel
theorem dX0_tell_34 : decode cX0_tell 34 = .ok (.iload_n 2, 1) := by decide +kernel
theorem dX0_tell_35 : decode cX0_tell 35 = .ok (.iastore, 1) := by decide +kernel
theorem dX0_tell_36 : decode cX0_tell 36 = .ok (.aload_n 0, 1) := by decide +kernel
theorem dX0_tell_37 : decode cX0_tell 37 = .ok (.dup, 1) := by decide +kernel
theorem dX0_tell_38 : decode cX0_tell 38 = .ok (.getfield 18, 3) := by decide +kernel
theorem dX0_tell_41 : decode cX0_tell 41 = .ok (.iconst 1, 1) := by decide +kernel
theorem dX0_tell_42 : decode cX0_tell 42 = .ok (.iadd, 1) := by decide +kernel
theorem dX0_tell_43 : decode cX0_tell 43 = .ok (.putfield 18, 3) := by decide +kernel
theorem dX0_tell_46 : decode cX0_tell 46 = .ok (.return_, 1) := by decide +kernel
theorem dX0_cover_0 : decode cX0_cover 0 = .ok (.iconst 0, 1) := by decide +kernel
theorem dX0_cover_1 : decode cX0_cover 1 = .ok (.istore_n 2, 1) := by decide +kernel
theorem dX0_cover_2 : decode cX0_cover 2 = .ok (.iload_n 2, 1) := by decide +kernel
theorem dX0_cover_3 : decode cX0_cover 3 = .ok (.aload_n 0, 1) := by decide +kernel
theorem dX0_cover_4 : decode cX0_cover 4 = .ok (.getfield 18, 3) := by decide +kernel
theorem dX0_cover_7 : decode cX0_cover 7 = .ok (.if_icmp .ge 37, 3) := by decide +kernel
theorem dX0_cover_10 : decode cX0_cover 10 = .ok (.iload_n 2, 1) := by decide +kernel
theorem dX0_cover_11 : decode cX0_cover 11 = .ok (.bipush 8, 2) := by decide +kernel
theorem dX0_cover_13 : decode cX0_cover 13 = .ok (.if_icmp .ge 31, 3) := by decide +kernel
theorem dX0_cover_16 : decode cX0_cover 16 = .ok (.aload_n 0, 1) := by decide +kernel
theorem dX0_cover_17 : decode cX0_cover 17 = .ok (.getfield 9, 3) := by decide +kernel
theorem dX0_cover_20 : decode cX0_cover 20 = .ok (.iload_n 2, 1) := by decide +kernel
theorem dX0_cover_21 : decode cX0_cover 21 = .ok (.iaload, 1) := by decide +kernel
theorem dX0_cover_22 : decode cX0_cover 22 = .ok (.iload_n 1, 1) := by decide +kernel
theorem dX0_cover_23 : decode cX0_cover 23 = .ok (.if_icmp .gt 15, 3) := by decide +kernel
theorem dX0_cover_26 : decode cX0_cover 26 = .ok (.iload_n 1, 1) := by decide +kernel
theorem dX0_cover_27 : decode cX0_cover 27 = .ok (.aload_n 0, 1) := by decide +kernel
theorem dX0_cover_28 : decode cX0_cover 28 = .ok (.getfield 15, 3) := by decide +kernel
theorem dX0_cover_31 : decode cX0_cover 31 = .ok (.iload_n 2, 1) := by decide +kernel
theorem dX0_cover_32 : decode cX0_cover 32 = .ok (.iaload, 1) := by decide +kernel
theorem dX0_cover_33 : decode cX0_cover 33 = .ok (.if_icmp .gt 5, 3) := by decide +kernel
theorem dX0_cover_36 : decode cX0_cover 36 = .ok (.iconst 1, 1) := by decide +kernel
theorem dX0_cover_37 : decode cX0_cover 37 = .ok (.ireturn, 1) := by decide +kernel
theorem dX0_cover_38 : decode cX0_cover 38 = .ok (.iinc 2 1, 3) := by decide +kernel
theorem dX0_cover_41 : decode cX0_cover 41 = .ok (.goto (-39), 3) := by decide +kernel
theorem dX0_cover_44 : decode cX0_cover 44 = .ok (.iconst 0, 1) := by decide +kernel
theorem dX0_cover_45 : decode cX0_cover 45 = .ok (.ireturn, 1) := by decide +kernel
theorem dX1_init_0 : decode cX1_init 0 = .ok (.aload_n 0, 1) := by decide +kernel
theorem dX1_init_1 : decode cX1_init 1 = .ok (.invokespecial 3, 3) := by decide +kernel
theorem dX1_init_4 : decode cX1_init 4 = .ok (.aload_n 0, 1) := by decide +kernel
theorem dX1_init_5 : decode cX1_init 5 = .ok (.sipush 900, 3) := by decide +kernel
theorem dX1_init_8 : decode cX1_init 8 = .ok (.newarray .int, 2) := by decide +kernel
theorem dX1_init_10 : decode cX1_init 10 = .ok (.putfield 9, 3) := by decide +kernel
theorem dX1_init_13 : decode cX1_init 13 = .ok (.return_, 1) := by decide +kernel
theorem dX1_clear_0 : decode cX1_clear 0 = .ok (.aload_n 0, 1) := by decide +kernel
theorem dX1_clear_1 : decode cX1_clear 1 = .ok (.getfield 9, 3) := by decide +kernel
theorem dX1_clear_4 : decode cX1_clear 4 = .ok (.iconst 0, 1) := by decide +kernel
theorem dX1_clear_5 : decode cX1_clear 5 = .ok (.invokestatic 15, 3) := by decide +kernel
theorem dX1_clear_8 : decode cX1_clear 8 = .ok (.aload_n 0, 1) := by decide +kernel
theorem dX1_clear_9 : decode cX1_clear 9 = .ok (.iconst (-1), 1) := by decide +kernel
theorem dX1_clear_10 : decode cX1_clear 10 = .ok (.putfield 21, 3) := by decide +kernel
theorem dX1_clear_13 : decode cX1_clear 13 = .ok (.aload_n 0, 1) := by decide +kernel
theorem dX1_clear_14 : decode cX1_clear 14 = .ok (.iconst (-1), 1) := by decide +kernel
theorem dX1_clear_15 : decode cX1_clear 15 = .ok (.putfield 25, 3) := by decide +kernel
theorem dX1_clear_18 : decode cX1_clear 18 = .ok (.aload_n 0, 1) := by decide +kernel
theorem dX1_clear_19 : decode cX1_clear 19 = .ok (.iconst 0, 1) := by decide +kernel
theorem dX1_clear_20 : decode cX1_clear 20 = .ok (.putfield 28, 3) := by decide +kernel
theorem dX1_clear_23 : decode cX1_clear 23 = .ok (.aload_n 0, 1) := by decide +kernel
theorem dX1_clear_24 : decode cX1_clear 24 = .ok (.iconst (-1), 1) := by decide +kernel
theorem dX1_clear_25 : decode cX1_clear 25 = .ok (.putfield 31, 3) := by decide +kernel
theorem dX1_clear_28 : decode cX1_clear 28 = .ok (.aload_n 0, 1) := by decide +kernel
theorem dX1_clear_29 : decode cX1_clear 29 = .ok (.iconst 0, 1) := by decide +kernel
theorem dX1_clear_30 : decode cX1_clear 30 = .ok (.putfield 34, 3) := by decide +kernel
theorem dX1_clear_33 : decode cX1_clear 33 = .ok (.aload_n 0, 1) := by decide +kernel
theorem dX1_clear_34 : decode cX1_clear 34 = .ok (.iconst (-1), 1) := by decide +kernel
theorem dX1_clear_35 : decode cX1_clear 35 = .ok (.putfield 37, 3) := by decide +kernel
theorem dX1_clear_38 : decode cX1_clear 38 = .ok (.return_, 1) := by decide +kernel
theorem dX1_noteHeight_0 : decode cX1_noteHeight 0 = .ok (.aload_n 0, 1) := by decide +kernel
theorem dX1_noteHeight_1 : decode cX1_noteHeight 1 = .ok (.getfield 31, 3) := by decide +kernel
theorem dX1_noteHeight_4 : decode cX1_noteHeight 4 = .ok (.ifCond .lt 11, 3) := by decide +kernel
theorem dX1_noteHeight_7 : decode cX1_noteHeight 7 = .ok (.iload_n 2, 1) := by decide +kernel
theorem dX1_noteHeight_8 : decode cX1_noteHeight 8 = .ok (.aload_n 0, 1) := by decide +kernel
theorem dX1_noteHeight_9 : decode cX1_noteHeight 9 = .ok (.getfield 34, 3) := by decide +kernel
theorem dX1_noteHeight_12 : decode cX1_noteHeight 12 = .ok (.if_icmp .lt 13, 3) := by decide +kernel
theorem dX1_noteHeight_15 : decode cX1_noteHeight 15 = .ok (.aload_n 0, 1) := by decide +kernel
theorem dX1_noteHeight_16 : decode cX1_noteHeight 16 = .ok (.iload_n 1, 1) := by decide +kernel
theorem dX1_noteHeight_17 : decode cX1_noteHeight 17 = .ok (.putfield 31, 3) := by decide +kernel
theorem dX1_noteHeight_20 : decode cX1_noteHeight 20 = .ok (.aload_n 0, 1) := by decide +kernel
theorem dX1_noteHeight_21 : decode cX1_noteHeight 21 = .ok (.iload_n 2, 1) := by decide +kernel
theorem dX1_noteHeight_22 : decode cX1_noteHeight 22 = .ok (.putfield 34, 3) := by decide +kernel
theorem dX1_noteHeight_25 : decode cX1_noteHeight 25 = .ok (.return_, 1) := by decide +kernel
theorem dX1_noteRun_0 : decode cX1_noteRun 0 = .ok (.iload_n 2, 1) := by decide +kernel
theorem dX1_noteRun_1 : decode cX1_noteRun 1 = .ok (.ifCond .le 74, 3) := by decide +kernel
theorem dX1_noteRun_4 : decode cX1_noteRun 4 = .ok (.iload_n 1, 1) := by decide +kernel
theorem dX1_noteRun_5 : decode cX1_noteRun 5 = .ok (.ifCond .lt 70, 3) := by decide +kernel
theorem dX1_noteRun_8 : decode cX1_noteRun 8 = .ok (.iload_n 1, 1) := by decide +kernel
theorem dX1_noteRun_9 : decode cX1_noteRun 9 = .ok (.aload_n 0, 1) := by decide +kernel
theorem dX1_noteRun_10 : decode cX1_noteRun 10 = .ok (.getfield 9, 3) := by decide +kernel
theorem dX1_noteRun_13 : decode cX1_noteRun 13 = .ok (.arraylength, 1) := by decide +kernel
theorem dX1_noteRun_14 : decode cX1_noteRun 14 = .ok (.if_icmp .ge 61, 3) := by decide +kernel
theorem dX1_noteRun_17 : decode cX1_noteRun 17 = .ok (.aload_n 0, 1) := by decide +kernel
theorem dX1_noteRun_18 : decode cX1_noteRun 18 = .ok (.getfield 9, 3) := by decide +kernel
theorem dX1_noteRun_21 : decode cX1_noteRun 21 = .ok (.iload_n 1, 1) := by decide +kernel
theorem dX1_noteRun_22 : decode cX1_noteRun 22 = .ok (.iload_n 2, 1) := by decide +kernel
theorem dX1_noteRun_23 : decode cX1_noteRun 23 = .ok (.iastore, 1) := by decide +kernel
theorem dX1_noteRun_24 : decode cX1_noteRun 24 = .ok (.aload_n 0, 1) := by decide +kernel
theorem dX1_noteRun_25 : decode cX1_noteRun 25 = .ok (.iload_n 1, 1) := by decide +kernel
theorem dX1_noteRun_26 : decode cX1_noteRun 26 = .ok (.putfield 21, 3) := by decide +kernel
theorem dX1_noteRun_29 : decode cX1_noteRun 29 = .ok (.aload_n 0, 1) := by decide +kernel
theorem dX1_noteRun_30 : decode cX1_noteRun 30 = .ok (.aload_n 0, 1) := by decide +kernel
theorem dX1_noteRun_31 : decode cX1_noteRun 31 = .ok (.getfield 25, 3) := by decide +kernel
theorem dX1_noteRun_34 : decode cX1_noteRun 34 = .ok (.ifCond .ge 7, 3) := by decide +kernel
theorem dX1_noteRun_37 : decode cX1_noteRun 37 = .ok (.iload_n 1, 1) := by decide +kernel
theorem dX1_noteRun_38 : decode cX1_noteRun 38 = .ok (.goto 7, 3) := by decide +kernel
theorem dX1_noteRun_41 : decode cX1_noteRun 41 = .ok (.aload_n 0, 1) := by decide +kernel
theorem dX1_noteRun_42 : decode cX1_noteRun 42 = .ok (.getfield 25, 3) := by decide +kernel
theorem dX1_noteRun_45 : decode cX1_noteRun 45 = .ok (.putfield 25, 3) := by decide +kernel
theorem dX1_noteRun_48 : decode cX1_noteRun 48 = .ok (.aload_n 0, 1) := by decide +kernel
theorem dX1_noteRun_49 : decode cX1_noteRun 49 = .ok (.dup, 1) := by decide +kernel
theorem dX1_noteRun_50 : decode cX1_noteRun 50 = .ok (.getfield 28, 3) := by decide +kernel
theorem dX1_noteRun_53 : decode cX1_noteRun 53 = .ok (.iconst 1, 1) := by decide +kernel
theorem dX1_noteRun_54 : decode cX1_noteRun 54 = .ok (.iadd, 1) := by decide +kernel
theorem dX1_noteRun_55 : decode cX1_noteRun 55 = .ok (.putfield 28, 3) := by decide +kernel
theorem dX1_noteRun_58 : decode cX1_noteRun 58 = .ok (.aload_n 0, 1) := by decide +kernel
theorem dX1_noteRun_59 : decode cX1_noteRun 59 = .ok (.iload_n 2, 1) := by decide +kernel
theorem dX1_noteRun_60 : decode cX1_noteRun 60 = .ok (.iload_n 3, 1) := by decide +kernel
theorem dX1_noteRun_61 : decode cX1_noteRun 61 = .ok (.if_icmp .lt 7, 3) := by decide +kernel
theorem dX1_noteRun_64 : decode cX1_noteRun 64 = .ok (.iload_n 1, 1) := by decide +kernel
theorem dX1_noteRun_65 : decode cX1_noteRun 65 = .ok (.goto 7, 3) := by decide +kernel
theorem dX1_noteRun_68 : decode cX1_noteRun 68 = .ok (.aload_n 0, 1) := by decide +kernel
theorem dX1_noteRun_69 : decode cX1_noteRun 69 = .ok (.getfield 37, 3) := by decide +kernel
theorem dX1_noteRun_72 : decode cX1_noteRun 72 = .ok (.putfield 37, 3) := by decide +kernel
theorem dX1_noteRun_75 : decode cX1_noteRun 75 = .ok (.return_, 1) := by decide +kernel
theorem dX1_lasts_0 : decode cX1_lasts 0 = .ok (.iload_n 1, 1) := by decide +kernel
theorem dX1_lasts_1 : decode cX1_lasts 1 = .ok (.ifCond .lt 26, 3) := by decide +kernel
theorem dX1_lasts_4 : decode cX1_lasts 4 = .ok (.iload_n 1, 1) := by decide +kernel
theorem dX1_lasts_5 : decode cX1_lasts 5 = .ok (.aload_n 0, 1) := by decide +kernel
theorem dX1_lasts_6 : decode cX1_lasts 6 = .ok (.getfield 9, 3) := by decide +kernel
theorem dX1_lasts_9 : decode cX1_lasts 9 = .ok (.arraylength, 1) := by decide +kernel
theorem dX1_lasts_10 : decode cX1_lasts 10 = .ok (.if_icmp .ge 17, 3) := by decide +kernel
theorem dX1_lasts_13 : decode cX1_lasts 13 = .ok (.aload_n 0, 1) := by decide +kernel
theorem dX1_lasts_14 : decode cX1_lasts 14 = .ok (.getfield 9, 3) := by decide +kernel
theorem dX1_lasts_17 : decode cX1_lasts 17 = .ok (.iload_n 1, 1) := by decide +kernel
theorem dX1_lasts_18 : decode cX1_lasts 18 = .ok (.iaload, 1) := by decide +kernel
theorem dX1_lasts_19 : decode cX1_lasts 19 = .ok (.iload_n 2, 1) := by decide +kernel
theorem dX1_lasts_20 : decode cX1_lasts 20 = .ok (.if_icmp .lt 7, 3) := by decide +kernel
theorem dX1_lasts_23 : decode cX1_lasts 23 = .ok (.iconst 1, 1) := by decide +kernel
theorem dX1_lasts_24 : decode cX1_lasts 24 = .ok (.goto 4, 3) := by decide +kernel
theorem dX1_lasts_27 : decode cX1_lasts 27 = .ok (.iconst 0, 1) := by decide +kernel
theorem dX1_lasts_28 : decode cX1_lasts 28 = .ok (.ireturn, 1) := by decide +kernel
theorem dX1_fact_0 : decode cX1_fact 0 = .ok (.iload_n 1, 1) := by decide +kernel
theorem dX1_fact_1 : decode cX1_fact 1 = .ok (.tableswitch 51 0 3 #[31, 36, 41, 46], 31) := by decide +kernel
theorem dX1_fact_32 : decode cX1_fact 32 = .ok (.aload_n 0, 1) := by decide +kernel
theorem dX1_fact_33 : decode cX1_fact 33 = .ok (.getfield 21, 3) := by decide +kernel
theorem dX1_fact_36 : decode cX1_fact 36 = .ok (.ireturn, 1) := by decide +kernel
theorem dX1_fact_37 : decode cX1_fact 37 = .ok (.aload_n 0, 1) := by decide +kernel
theorem dX1_fact_38 : decode cX1_fact 38 = .ok (.getfield 25, 3) := by decide +kernel
theorem dX1_fact_41 : decode cX1_fact 41 = .ok (.ireturn, 1) := by decide +kernel
theorem dX1_fact_42 : decode cX1_fact 42 = .ok (.aload_n 0, 1) := by decide +kernel
theorem dX1_fact_43 : decode cX1_fact 43 = .ok (.getfield 28, 3) := by decide +kernel
theorem dX1_fact_46 : decode cX1_fact 46 = .ok (.ireturn, 1) := by decide +kernel
theorem dX1_fact_47 : decode cX1_fact 47 = .ok (.aload_n 0, 1) := by decide +kernel
theorem dX1_fact_48 : decode cX1_fact 48 = .ok (.getfield 31, 3) := by decide +kernel
theorem dX1_fact_51 : decode cX1_fact 51 = .ok (.ireturn, 1) := by decide +kernel
theorem dX1_fact_52 : decode cX1_fact 52 = .ok (.aload_n 0, 1) := by decide +kernel
theorem dX1_fact_53 : decode cX1_fact 53 = .ok (.getfield 37, 3) := by decide +kernel
theorem dX1_fact_56 : decode cX1_fact 56 = .ok (.ireturn, 1) := by decide +kernel
theorem dX2_init_0 : decode cX2_init 0 = .ok (.aload_n 0, 1) := by decide +kernel
theorem dX2_init_1 : decode cX2_init 1 = .ok (.invokespecial 3, 3) := by decide +kernel
theorem dX2_init_4 : decode cX2_init 4 = .ok (.aload_n 0, 1) := by decide +kernel
theorem dX2_init_5 : decode cX2_init 5 = .ok (.bipush 20, 2) := by decide +kernel
theorem dX2_init_7 : decode cX2_init 7 = .ok (.iconst 4, 1) := by decide +kernel
theorem dX2_init_8 : decode cX2_init 8 = .ok (.multianewarray 9 2, 4) := by decide +kernel
theorem dX2_init_12 : decode cX2_init 12 = .ok (.putfield 11, 3) := by decide +kernel
theorem dX2_init_15 : decode cX2_init 15 = .ok (.return_, 1) := by decide +kernel
theorem dX2_clear_0 : decode cX2_clear 0 = .ok (.aload_n 0, 1) := by decide +kernel
theorem dX2_clear_1 : decode cX2_clear 1 = .ok (.iconst 0, 1) := by decide +kernel
theorem dX2_clear_2 : decode cX2_clear 2 = .ok (.putfield 16, 3) := by decide +kernel
theorem dX2_clear_5 : decode cX2_clear 5 = .ok (.aload_n 0, 1) := by decide +kernel
theorem dX2_clear_6 : decode cX2_clear 6 = .ok (.iconst 0, 1) := by decide +kernel
theorem dX2_clear_7 : decode cX2_clear 7 = .ok (.putfield 20, 3) := by decide +kernel
theorem dX2_clear_10 : decode cX2_clear 10 = .ok (.aload_n 0, 1) := by decide +kernel
theorem dX2_clear_11 : decode cX2_clear 11 = .ok (.aconst_null, 1) := by decide +kernel
theorem dX2_clear_12 : decode cX2_clear 12 = .ok (.putfield 23, 3) := by decide +kernel
theorem dX2_clear_15 : decode cX2_clear 15 = .ok (.return_, 1) := by decide +kernel
theorem dX2_minutesUntilReady_0 : decode cX2_minutesUntilReady 0 = .ok (.aload_n 0, 1) := by decide +kernel
theorem dX2_minutesUntilReady_1 : decode cX2_minutesUntilReady 1 = .ok (.getfield 23, 3) := by decide +kernel
theorem dX2_minutesUntilReady_4 : decode cX2_minutesUntilReady 4 = .ok (.ifnonnull 7, 3) := by decide +kernel
theorem dX2_minutesUntilReady_7 : decode cX2_minutesUntilReady 7 = .ok (.iconst 0, 1) := by decide +kernel
theorem dX2_minutesUntilReady_8 : decode cX2_minutesUntilReady 8 = .ok (.goto 10, 3) := by decide +kernel
theorem dX2_minutesUntilReady_11 : decode cX2_minutesUntilReady 11 = .ok (.aload_n 0, 1) := by decide +kernel
theorem dX2_minutesUntilReady_12 : decode cX2_minutesUntilReady 12 = .ok (.getfield 23, 3) := by decide +kernel
theorem dX2_minutesUntilReady_15 : decode cX2_minutesUntilReady 15 = .ok (.getfield 27, 3) := by decide +kernel
theorem dX2_minutesUntilReady_18 : decode cX2_minutesUntilReady 18 = .ok (.istore_n 2, 1) := by decide +kernel
theorem dX2_minutesUntilReady_19 : decode cX2_minutesUntilReady 19 = .ok (.aload_n 0, 1) := by decide +kernel
theorem dX2_minutesUntilReady_20 : decode cX2_minutesUntilReady 20 = .ok (.getfield 23, 3) := by decide +kernel
theorem dX2_minutesUntilReady_23 : decode cX2_minutesUntilReady 23 = .ok (.ifnonnull 7, 3) := by decide +kernel
theorem dX2_minutesUntilReady_26 : decode cX2_minutesUntilReady 26 = .ok (.iconst 2, 1) := by decide +kernel
theorem dX2_minutesUntilReady_27 : decode cX2_minutesUntilReady 27 = .ok (.goto 27, 3) := by decide +kernel
theorem dX2_minutesUntilReady_30 : decode cX2_minutesUntilReady 30 = .ok (.iconst 1, 1) := by decide +kernel
theorem dX2_minutesUntilReady_31 : decode cX2_minutesUntilReady 31 = .ok (.sipush 1000, 3) := by decide +kernel
theorem dX2_minutesUntilReady_34 : decode cX2_minutesUntilReady 34 = .ok (.aload_n 0, 1) := by decide +kernel
theorem dX2_minutesUntilReady_35 : decode cX2_minutesUntilReady 35 = .ok (.getfield 23, 3) := by decide +kernel
theorem dX2_minutesUntilReady_38 : decode cX2_minutesUntilReady 38 = .ok (.getfield 32, 3) := by decide +kernel
theorem dX2_minutesUntilReady_41 : decode cX2_minutesUntilReady 41 = .ok (.aload_n 1, 1) := by decide +kernel
theorem dX2_minutesUntilReady_42 : decode cX2_minutesUntilReady 42 = .ok (.getfield 32, 3) := by decide +kernel
theorem dX2_minutesUntilReady_45 : decode cX2_minutesUntilReady 45 = .ok (.invokestatic 36, 3) := by decide +kernel
theorem dX2_minutesUntilReady_48 : decode cX2_minutesUntilReady 48 = .ok (.isub, 1) := by decide +kernel
theorem dX2_minutesUntilReady_49 : decode cX2_minutesUntilReady 49 = .ok (.sipush 250, 3) := by decide +kernel
theorem dX2_minutesUntilReady_52 : decode cX2_minutesUntilReady 52 = .ok (.idiv, 1) := by decide +kernel
theorem dX2_minutesUntilReady_53 : decode cX2_minutesUntilReady 53 = .ok (.iadd, 1) := by decide +kernel
theorem dX2_minutesUntilReady_54 : decode cX2_minutesUntilReady 54 = .ok (.istore_n 3, 1) := by decide +kernel
theorem dX2_minutesUntilReady_55 : decode cX2_minutesUntilReady 55 = .ok (.aload_n 1, 1) := by decide +kernel
theorem dX2_minutesUntilReady_56 : decode cX2_minutesUntilReady 56 = .ok (.getfield 27, 3) := by decide +kernel
theorem dX2_minutesUntilReady_59 : decode cX2_minutesUntilReady 59 = .ok (.iload_n 2, 1) := by decide +kernel
theorem dX2_minutesUntilReady_60 : decode cX2_minutesUntilReady 60 = .ok (.if_icmp .ne 7, 3) := by decide +kernel
theorem dX2_minutesUntilReady_63 : decode cX2_minutesUntilReady 63 = .ok (.iload_n 3, 1) := by decide +kernel
theorem dX2_minutesUntilReady_64 : decode cX2_minutesUntilReady 64 = .ok (.goto 6, 3) := by decide +kernel
theorem dX2_minutesUntilReady_67 : decode cX2_minutesUntilReady 67 = .ok (.iload_n 3, 1) := by decide +kernel
theorem dX2_minutesUntilReady_68 : decode cX2_minutesUntilReady 68 = .ok (.iconst 3, 1) := by decide +kernel
theorem dX2_minutesUntilReady_69 : decode cX2_minutesUntilReady 69 = .ok (.iadd, 1) := by decide +kernel
theorem dX2_minutesUntilReady_70 : decode cX2_minutesUntilReady 70 = .ok (.ireturn, 1) := by decide +kernel
theorem dX2_take_0 : decode cX2_take 0 = .ok (.aload_n 0, 1) := by decide +kernel
theorem dX2_take_1 : decode cX2_take 1 = .ok (.aload_n 1, 1) := by decide +kernel
theorem dX2_take_2 : decode cX2_take 2 = .ok (.invokevirtual 40, 3) := by decide +kernel
theorem dX2_take_5 : decode cX2_take 5 = .ok (.istore 4, 2) := by decide +kernel
theorem dX2_take_7 : decode cX2_take 7 = .ok (.aload_n 0, 1) := by decide +kernel
theorem dX2_take_8 : decode cX2_take 8 = .ok (.getfield 16, 3) := by decide +kernel
theorem dX2_take_11 : decode cX2_take 11 = .ok (.ifCond .lt 103, 3) := by decide +kernel
theorem dX2_take_14 : decode cX2_take 14 = .ok (.aload_n 0, 1) := by decide +kernel
theorem dX2_take_15 : decode cX2_take 15 = .ok (.getfield 16, 3) := by decide +kernel
theorem dX2_take_18 : decode cX2_take 18 = .ok (.aload_n 0, 1) := by decide +kernel
theorem dX2_take_19 : decode cX2_take 19 = .ok (.getfield 11, 3) := by decide +kernel
theorem dX2_take_22 : decode cX2_take 22 = .ok (.arraylength, 1) := by decide +kernel
theorem dX2_take_23 : decode cX2_take 23 = .ok (.if_icmp .ge 91, 3) := by decide +kernel
theorem dX2_take_26 : decode cX2_take 26 = .ok (.aload_n 0, 1) := by decide +kernel
theorem dX2_take_27 : decode cX2_take 27 = .ok (.getfield 11, 3) := by decide +kernel
theorem dX2_take_30 : decode cX2_take 30 = .ok (.aload_n 0, 1) := by decide +kernel
theorem dX2_take_31 : decode cX2_take 31 = .ok (.getfield 16, 3) := by decide +kernel
theorem dX2_take_34 : decode cX2_take 34 = .ok (.aaload, 1) := by decide +kernel
theorem dX2_take_35 : decode cX2_take 35 = .ok (.iconst 0, 1) := by decide +kernel
theorem dX2_take_36 : decode cX2_take 36 = .ok (.aload_n 1, 1) := by decide +kernel
theorem dX2_take_37 : decode cX2_take 37 = .ok (.getfield 44, 3) := by decide +kernel
theorem dX2_take_40 : decode cX2_take 40 = .ok (.iastore, 1) := by decide +kernel
theorem dX2_take_41 : decode cX2_take 41 = .ok (.aload_n 0, 1) := by decide +kernel
theorem dX2_take_42 : decode cX2_take 42 = .ok (.getfield 11, 3) := by decide +kernel
theorem dX2_take_45 : decode cX2_take 45 = .ok (.aload_n 0, 1) := by decide +kernel
theorem dX2_take_46 : decode cX2_take 46 = .ok (.getfield 16, 3) := by decide +kernel
theorem dX2_take_49 : decode cX2_take 49 = .ok (.aaload, 1) := by decide +kernel
theorem dX2_take_50 : decode cX2_take 50 = .ok (.iconst 1, 1) := by decide +kernel
theorem dX2_take_51 : decode cX2_take 51 = .ok (.iload_n 2, 1) := by decide +kernel
theorem dX2_take_52 : decode cX2_take 52 = .ok (.iload 4, 2) := by decide +kernel
theorem dX2_take_54 : decode cX2_take 54 = .ok (.iadd, 1) := by decide +kernel
theorem dX2_take_55 : decode cX2_take 55 = .ok (.iastore, 1) := by decide +kernel
theorem dX2_take_56 : decode cX2_take 56 = .ok (.aload_n 0, 1) := by decide +kernel
theorem dX2_take_57 : decode cX2_take 57 = .ok (.getfield 11, 3) := by decide +kernel
theorem dX2_take_60 : decode cX2_take 60 = .ok (.aload_n 0, 1) := by decide +kernel
theorem dX2_take_61 : decode cX2_take 61 = .ok (.getfield 16, 3) := by decide +kernel
theorem dX2_take_64 : decode cX2_take 64 = .ok (.aaload, 1) := by decide +kernel
theorem dX2_take_65 : decode cX2_take 65 = .ok (.iconst 2, 1) := by decide +kernel
theorem dX2_take_66 : decode cX2_take 66 = .ok (.iload 4, 2) := by decide +kernel
theorem dX2_take_68 : decode cX2_take 68 = .ok (.iastore, 1) := by decide +kernel
theorem dX2_take_69 : decode cX2_take 69 = .ok (.aload_n 0, 1) := by decide +kernel
theorem dX2_take_70 : decode cX2_take 70 = .ok (.getfield 11, 3) := by decide +kernel
theorem dX2_take_73 : decode cX2_take 73 = .ok (.aload_n 0, 1) := by decide +kernel
theorem dX2_take_74 : decode cX2_take 74 = .ok (.getfield 16, 3) := by decide +kernel
theorem dX2_take_77 : decode cX2_take 77 = .ok (.aaload, 1) := by decide +kernel
theorem dX2_take_78 : decode cX2_take 78 = .ok (.iconst 3, 1) := by decide +kernel
theorem dX2_take_79 : decode cX2_take 79 = .ok (.iload_n 3, 1) := by decide +kernel
theorem dX2_take_80 : decode cX2_take 80 = .ok (.iastore, 1) := by decide +kernel
theorem dX2_take_81 : decode cX2_take 81 = .ok (.aload_n 0, 1) := by decide +kernel
theorem dX2_take_82 : decode cX2_take 82 = .ok (.dup, 1) := by decide +kernel
theorem dX2_take_83 : decode cX2_take 83 = .ok (.getfield 16, 3) := by decide +kernel
theorem dX2_take_86 : decode cX2_take 86 = .ok (.iconst 1, 1) := by decide +kernel
theorem dX2_take_87 : decode cX2_take 87 = .ok (.iadd, 1) := by decide +kernel
theorem dX2_take_88 : decode cX2_take 88 = .ok (.putfield 16, 3) := by decide +kernel
theorem dX2_take_91 : decode cX2_take 91 = .ok (.aload_n 0, 1) := by decide +kernel
theorem dX2_take_92 : decode cX2_take 92 = .ok (.dup, 1) := by decide +kernel
theorem dX2_take_93 : decode cX2_take 93 = .ok (.getfield 20, 3) := by decide +kernel
theorem dX2_take_96 : decode cX2_take 96 = .ok (.aload_n 1, 1) := by decide +kernel
theorem dX2_take_97 : decode cX2_take 97 = .ok (.getfield 47, 3) := by decide +kernel
theorem dX2_take_100 : decode cX2_take 100 = .ok (.iadd, 1) := by decide +kernel
theorem dX2_take_101 : decode cX2_take 101 = .ok (.putfield 20, 3) := by decide +kernel
theorem dX2_take_104 : decode cX2_take 104 = .ok (.aload_n 1, 1) := by decide +kernel
theorem dX2_take_105 : decode cX2_take 105 = .ok (.iconst 1, 1) := by decide +kernel
theorem dX2_take_106 : decode cX2_take 106 = .ok (.putfield 48, 3) := by decide +kernel
theorem dX2_take_109 : decode cX2_take 109 = .ok (.aload_n 0, 1) := by decide +kernel
theorem dX2_take_110 : decode cX2_take 110 = .ok (.aload_n 1, 1) := by decide +kernel
theorem dX2_take_111 : decode cX2_take 111 = .ok (.putfield 23, 3) := by decide +kernel
theorem dX2_take_114 : decode cX2_take 114 = .ok (.iload_n 2, 1) := by decide +kernel
theorem dX2_take_115 : decode cX2_take 115 = .ok (.iload 4, 2) := by decide +kernel
theorem dX2_take_117 : decode cX2_take 117 = .ok (.iadd, 1) := by decide +kernel
theorem dX2_take_118 : decode cX2_take 118 = .ok (.aload_n 1, 1) := by decide +kernel
theorem dX2_take_119 : decode cX2_take 119 = .ok (.getfield 47, 3) := by decide +kernel
theorem dX2_take_122 : decode cX2_take 122 = .ok (.iadd, 1) := by decide +kernel
theorem dX2_take_123 : decode cX2_take 123 = .ok (.ireturn, 1) := by decide +kernel
theorem dX3_init_0 : decode cX3_init 0 = .ok (.aload_n 0, 1) := by decide +kernel
theorem dX3_init_1 : decode cX3_init 1 = .ok (.invokespecial 1, 3) := by decide +kernel
theorem dX3_init_4 : decode cX3_init 4 = .ok (.aload_n 0, 1) := by decide +kernel
theorem dX3_init_5 : decode cX3_init 5 = .ok (.iload_n 1, 1) := by decide +kernel
theorem dX3_init_6 : decode cX3_init 6 = .ok (.putfield 7, 3) := by decide +kernel
theorem dX3_init_9 : decode cX3_init 9 = .ok (.aload_n 0, 1) := by decide +kernel
theorem dX3_init_10 : decode cX3_init 10 = .ok (.iload_n 2, 1) := by decide +kernel
theorem dX3_init_11 : decode cX3_init 11 = .ok (.putfield 13, 3) := by decide +kernel
theorem dX3_init_14 : decode cX3_init 14 = .ok (.aload_n 0, 1) := by decide +kernel
theorem dX3_init_15 : decode cX3_init 15 = .ok (.iload_n 2, 1) := by decide +kernel
theorem dX3_init_16 : decode cX3_init 16 = .ok (.invokestatic 16, 3) := by decide +kernel
theorem dX3_init_19 : decode cX3_init 19 = .ok (.putfield 22, 3) := by decide +kernel
theorem dX3_init_22 : decode cX3_init 22 = .ok (.aload_n 0, 1) := by decide +kernel
theorem dX3_init_23 : decode cX3_init 23 = .ok (.iload_n 2, 1) := by decide +kernel
theorem dX3_init_24 : decode cX3_init 24 = .ok (.bipush 90, 2) := by decide +kernel
theorem dX3_init_26 : decode cX3_init 26 = .ok (.iadd, 1) := by decide +kernel
theorem dX3_init_27 : decode cX3_init 27 = .ok (.invokestatic 16, 3) := by decide +kernel
theorem dX3_init_30 : decode cX3_init 30 = .ok (.putfield 25, 3) := by decide +kernel
theorem dX3_init_33 : decode cX3_init 33 = .ok (.return_, 1) := by decide +kernel
theorem dX4_init_0 : decode cX4_init 0 = .ok (.aload_n 0, 1) := by decide +kernel
theorem dX4_init_1 : decode cX4_init 1 = .ok (.invokespecial 1, 3) := by decide +kernel
theorem dX4_init_4 : decode cX4_init 4 = .ok (.aload_n 0, 1) := by decide +kernel
theorem dX4_init_5 : decode cX4_init 5 = .ok (.new 7, 3) := by decide +kernel
theorem dX4_init_8 : decode cX4_init 8 = .ok (.dup, 1) := by decide +kernel
theorem dX4_init_9 : decode cX4_init 9 = .ok (.invokespecial 9, 3) := by decide +kernel
theorem dX4_init_12 : decode cX4_init 12 = .ok (.putfield 10, 3) := by decide +kernel
theorem dX4_init_15 : decode cX4_init 15 = .ok (.aload_n 0, 1) := by decide +kernel
theorem dX4_init_16 : decode cX4_init 16 = .ok (.sipush 300, 3) := by decide +kernel
theorem dX4_init_19 : decode cX4_init 19 = .ok (.putfield 16, 3) := by decide +kernel
theorem dX4_init_22 : decode cX4_init 22 = .ok (.aload_n 0, 1) := by decide +kernel
theorem dX4_init_23 : decode cX4_init 23 = .ok (.iconst 1, 1) := by decide +kernel
theorem dX4_init_24 : decode cX4_init 24 = .ok (.putfield 20, 3) := by decide +kernel
theorem dX4_init_27 : decode cX4_init 27 = .ok (.aload_n 0, 1) := by decide +kernel
theorem dX4_init_28 : decode cX4_init 28 = .ok (.iconst 1, 1) := by decide +kernel
theorem dX4_init_29 : decode cX4_init 29 = .ok (.putfield 23, 3) := by decide +kernel
theorem dX4_init_32 : decode cX4_init 32 = .ok (.aload_n 0, 1) := by decide +kernel
theorem dX4_init_33 : decode cX4_init 33 = .ok (.iconst (-1), 1) := by decide +kernel
theorem dX4_init_34 : decode cX4_init 34 = .ok (.putfield 26, 3) := by decide +kernel
theorem dX4_init_37 : decode cX4_init 37 = .ok (.aload_n 0, 1) := by decide +kernel
theorem dX4_init_38 : decode cX4_init 38 = .ok (.iload_n 1, 1) := by decide +kernel
theorem dX4_init_39 : decode cX4_init 39 = .ok (.putfield 29, 3) := by decide +kernel
theorem dX4_init_42 : decode cX4_init 42 = .ok (.aload_n 0, 1) := by decide +kernel
theorem dX4_init_43 : decode cX4_init 43 = .ok (.aload_n 2, 1) := by decide +kernel
theorem dX4_init_44 : decode cX4_init 44 = .ok (.putfield 32, 3) := by decide +kernel
theorem dX4_init_47 : decode cX4_init 47 = .ok (.aload_n 0, 1) := by decide +kernel
theorem dX4_init_48 : decode cX4_init 48 = .ok (.iload_n 3, 1) := by decide +kernel
theorem dX4_init_49 : decode cX4_init 49 = .ok (.putfield 36, 3) := by decide +kernel
theorem dX4_init_52 : decode cX4_init 52 = .ok (.aload_n 0, 1) := by decide +kernel
theorem dX4_init_53 : decode cX4_init 53 = .ok (.iload 4, 2) := by decide +kernel
theorem dX4_init_55 : decode cX4_init 55 = .ok (.putfield 39, 3) := by decide +kernel
theorem dX4_init_58 : decode cX4_init 58 = .ok (.aload_n 0, 1) := by decide +kernel
theorem dX4_init_59 : decode cX4_init 59 = .ok (.iload 5, 2) := by decide +kernel
theorem dX4_init_61 : decode cX4_init 61 = .ok (.putfield 42, 3) := by decide +kernel
theorem dX4_init_64 : decode cX4_init 64 = .ok (.return_, 1) := by decide +kernel
theorem dX4_isOpenOn_0 : decode cX4_isOpenOn 0 = .ok (.aload_n 0, 1) := by decide +kernel
theorem dX4_isOpenOn_1 : decode cX4_isOpenOn 1 = .ok (.getfield 45, 3) := by decide +kernel
theorem dX4_isOpenOn_4 : decode cX4_isOpenOn 4 = .ok (.aload_n 0, 1) := by decide +kernel
theorem dX4_isOpenOn_5 : decode cX4_isOpenOn 5 = .ok (.getfield 20, 3) := by decide +kernel
theorem dX4_isOpenOn_8 : decode cX4_isOpenOn 8 = .ok (.if_icmp .ge 27, 3) := by decide +kernel
theorem dX4_isOpenOn_11 : decode cX4_isOpenOn 11 = .ok (.aload_n 0, 1) := by decide +kernel
theorem dX4_isOpenOn_12 : decode cX4_isOpenOn 12 = .ok (.getfield 45, 3) := by decide +kernel
theorem dX4_isOpenOn_15 : decode cX4_isOpenOn 15 = .ok (.ifCond .eq 16, 3) := by decide +kernel
theorem dX4_isOpenOn_18 : decode cX4_isOpenOn 18 = .ok (.iload_n 1, 1) := by decide +kernel
theorem dX4_isOpenOn_19 : decode cX4_isOpenOn 19 = .ok (.aload_n 0, 1) := by decide +kernel
theorem dX4_isOpenOn_20 : decode cX4_isOpenOn 20 = .ok (.getfield 26, 3) := by decide +kernel
theorem dX4_isOpenOn_23 : decode cX4_isOpenOn 23 = .ok (.isub, 1) := by decide +kernel
theorem dX4_isOpenOn_24 : decode cX4_isOpenOn 24 = .ok (.aload_n 0, 1) := by decide +kernel
theorem dX4_isOpenOn_25 : decode cX4_isOpenOn 25 = .ok (.getfield 23, 3) := by decide +kernel
theorem dX4_isOpenOn_28 : decode cX4_isOpenOn 28 = .ok (.if_icmp .lt 7, 3) := by decide +kernel
theorem dX4_isOpenOn_31 : decode cX4_isOpenOn 31 = .ok (.iconst 1, 1) := by decide +kernel
theorem dX4_isOpenOn_32 : decode cX4_isOpenOn 32 = .ok (.goto 4, 3) := by decide +kernel
theorem dX4_isOpenOn_35 : decode cX4_isOpenOn 35 = .ok (.iconst 0, 1) := by decide +kernel
theorem dX4_isOpenOn_36 : decode cX4_isOpenOn 36 = .ok (.ireturn, 1) := by decide +kernel
theorem dX4_takeVisit_0 : decode cX4_takeVisit 0 = .ok (.aload_n 0, 1) := by decide +kernel
theorem dX4_takeVisit_1 : decode cX4_takeVisit 1 = .ok (.getfield 48, 3) := by decide +kernel
theorem dX4_takeVisit_4 : decode cX4_takeVisit 4 = .ok (.ifCond .eq 18, 3) := by decide +kernel
theorem dX4_takeVisit_7 : decode cX4_takeVisit 7 = .ok (.aload_n 0, 1) := by decide +kernel
theorem dX4_takeVisit_8 : decode cX4_takeVisit 8 = .ok (.dup, 1) := by decide +kernel
theorem dX4_takeVisit_9 : decode cX4_takeVisit 9 = .ok (.getfield 45, 3) := by decide +kernel
theorem dX4_takeVisit_12 : decode cX4_takeVisit 12 = .ok (.iconst 1, 1) := by decide +kernel
theorem dX4_takeVisit_13 : decode cX4_takeVisit 13 = .ok (.iadd, 1) := by decide +kernel
theorem dX4_takeVisit_14 : decode cX4_takeVisit 14 = .ok (.putfield 45, 3) := by decide +kernel
theorem dX4_takeVisit_17 : decode cX4_takeVisit 17 = .ok (.aload_n 0, 1) := by decide +kernel
theorem dX4_takeVisit_18 : decode cX4_takeVisit 18 = .ok (.iload_n 1, 1) := by decide +kernel
theorem dX4_takeVisit_19 : decode cX4_takeVisit 19 = .ok (.putfield 26, 3) := by decide +kernel
theorem dX4_takeVisit_22 : decode cX4_takeVisit 22 = .ok (.return_, 1) := by decide +kernel
theorem dX4_fact_0 : decode cX4_fact 0 = .ok (.iload_n 1, 1) := by decide +kernel
theorem dX4_fact_1 : decode cX4_fact 1 = .ok (.tableswitch 102 0 8 #[51, 59, 67, 72, 77, 82, 87, 92, 97], 51) := by decide +kernel
theorem dX4_fact_52 : decode cX4_fact 52 = .ok (.aload_n 0, 1) := by decide +kernel
theorem dX4_fact_53 : decode cX4_fact 53 = .ok (.getfield 32, 3) := by decide +kernel
theorem dX4_fact_56 : decode cX4_fact 56 = .ok (.getfield 52, 3) := by decide +kernel
theorem dX4_fact_59 : decode cX4_fact 59 = .ok (.ireturn, 1) := by decide +kernel
theorem dX4_fact_60 : decode cX4_fact 60 = .ok (.aload_n 0, 1) := by decide +kernel
theorem dX4_fact_61 : decode cX4_fact 61 = .ok (.getfield 32, 3) := by decide +kernel
theorem dX4_fact_64 : decode cX4_fact 64 = .ok (.getfield 57, 3) := by decide +kernel
theorem dX4_fact_67 : decode cX4_fact 67 = .ok (.ireturn, 1) := by decide +kernel
theorem dX4_fact_68 : decode cX4_fact 68 = .ok (.aload_n 0, 1) := by decide +kernel
theorem dX4_fact_69 : decode cX4_fact 69 = .ok (.getfield 36, 3) := by decide +kernel
theorem dX4_fact_72 : decode cX4_fact 72 = .ok (.ireturn, 1) := by decide +kernel
theorem dX4_fact_73 : decode cX4_fact 73 = .ok (.aload_n 0, 1) := by decide +kernel
theorem dX4_fact_74 : decode cX4_fact 74 = .ok (.getfield 39, 3) := by decide +kernel
theorem dX4_fact_77 : decode cX4_fact 77 = .ok (.ireturn, 1) := by decide +kernel
theorem dX4_fact_78 : decode cX4_fact 78 = .ok (.aload_n 0, 1) := by decide +kernel
theorem dX4_fact_79 : decode cX4_fact 79 = .ok (.getfield 16, 3) := by decide +kernel
theorem dX4_fact_82 : decode cX4_fact 82 = .ok (.ireturn, 1) := by decide +kernel
theorem dX4_fact_83 : decode cX4_fact 83 = .ok (.aload_n 0, 1) := by decide +kernel
theorem dX4_fact_84 : decode cX4_fact 84 = .ok (.getfield 42, 3) := by decide +kernel
theorem dX4_fact_87 : decode cX4_fact 87 = .ok (.ireturn, 1) := by decide +kernel
theorem dX4_fact_88 : decode cX4_fact 88 = .ok (.aload_n 0, 1) := by decide +kernel
theorem dX4_fact_89 : decode cX4_fact 89 = .ok (.getfield 20, 3) := by decide +kernel
theorem dX4_fact_92 : decode cX4_fact 92 = .ok (.ireturn, 1) := by decide +kernel
theorem dX4_fact_93 : decode cX4_fact 93 = .ok (.aload_n 0, 1) := by decide +kernel
theorem dX4_fact_94 : decode cX4_fact 94 = .ok (.getfield 23, 3) := by decide +kernel
theorem dX4_fact_97 : decode cX4_fact 97 = .ok (.ireturn, 1) := by decide +kernel
theorem dX4_fact_98 : decode cX4_fact 98 = .ok (.aload_n 0, 1) := by decide +kernel
theorem dX4_fact_99 : decode cX4_fact 99 = .ok (.getfield 45, 3) := by decide +kernel
theorem dX4_fact_102 : decode cX4_fact 102 = .ok (.ireturn, 1) := by decide +kernel
theorem dX4_fact_103 : decode cX4_fact 103 = .ok (.aload_n 0, 1) := by decide +kernel
theorem dX4_fact_104 : decode cX4_fact 104 = .ok (.getfield 26, 3) := by decide +kernel
theorem dX4_fact_107 : decode cX4_fact 107 = .ok (.ireturn, 1) := by decide +kernel
theorem dX5_init_0 : decode cX5_init 0 = .ok (.aload_n 0, 1) := by decide +kernel
theorem dX5_init_1 : decode cX5_init 1 = .ok (.invokespecial 3, 3) := by decide +kernel
theorem dX5_init_4 : decode cX5_init 4 = .ok (.aload_n 0, 1) := by decide +kernel
theorem dX5_init_5 : decode cX5_init 5 = .ok (.new 9, 3) := by decide +kernel
theorem dX5_init_8 : decode cX5_init 8 = .ok (.dup, 1) := by decide +kernel
theorem dX5_init_9 : decode cX5_init 9 = .ok (.iconst 0, 1) := by decide +kernel
theorem dX5_init_10 : decode cX5_init 10 = .ok (.bipush 50, 2) := by decide +kernel
theorem dX5_init_12 : decode cX5_init 12 = .ok (.invokespecial 11, 3) := by decide +kernel
theorem dX5_init_15 : decode cX5_init 15 = .ok (.putfield 14, 3) := by decide +kernel
theorem dX5_init_18 : decode cX5_init 18 = .ok (.aload_n 0, 1) := by decide +kernel
theorem dX5_init_19 : decode cX5_init 19 = .ok (.new 9, 3) := by decide +kernel
theorem dX5_init_22 : decode cX5_init 22 = .ok (.dup, 1) := by decide +kernel
theorem dX5_init_23 : decode cX5_init 23 = .ok (.iconst 0, 1) := by decide +kernel
theorem dX5_init_24 : decode cX5_init 24 = .ok (.iconst 0, 1) := by decide +kernel
theorem dX5_init_25 : decode cX5_init 25 = .ok (.invokespecial 11, 3) := by decide +kernel
theorem dX5_init_28 : decode cX5_init 28 = .ok (.putfield 20, 3) := by decide +kernel
theorem dX5_init_31 : decode cX5_init 31 = .ok (.aload_n 0, 1) := by decide +kernel
theorem dX5_init_32 : decode cX5_init 32 = .ok (.sipush 600, 3) := by decide +kernel
theorem dX5_init_35 : decode cX5_init 35 = .ok (.putfield 23, 3) := by decide +kernel
theorem dX5_init_38 : decode cX5_init 38 = .ok (.aload_n 0, 1) := by decide +kernel
theorem dX5_init_39 : decode cX5_init 39 = .ok (.new 27, 3) := by decide +kernel
theorem dX5_init_42 : decode cX5_init 42 = .ok (.dup, 1) := by decide +kernel
theorem dX5_init_43 : decode cX5_init 43 = .ok (.invokespecial 29, 3) := by decide +kernel
theorem dX5_init_46 : decode cX5_init 46 = .ok (.putfield 30, 3) := by decide +kernel
theorem dX5_init_49 : decode cX5_init 49 = .ok (.aload_n 0, 1) := by decide +kernel
theorem dX5_init_50 : decode cX5_init 50 = .ok (.new 34, 3) := by decide +kernel
theorem dX5_init_53 : decode cX5_init 53 = .ok (.dup, 1) := by decide +kernel
theorem dX5_init_54 : decode cX5_init 54 = .ok (.invokespecial 36, 3) := by decide +kernel
theorem dX5_init_57 : decode cX5_init 57 = .ok (.putfield 37, 3) := by decide +kernel
theorem dX5_init_60 : decode cX5_init 60 = .ok (.aload_n 0, 1) := by decide +kernel
theorem dX5_init_61 : decode cX5_init 61 = .ok (.new 41, 3) := by decide +kernel
theorem dX5_init_64 : decode cX5_init 64 = .ok (.dup, 1) := by decide +kernel
theorem dX5_init_65 : decode cX5_init 65 = .ok (.invokespecial 43, 3) := by decide +kernel
theorem dX5_init_68 : decode cX5_init 68 = .ok (.putfield 44, 3) := by decide +kernel
theorem dX5_init_71 : decode cX5_init 71 = .ok (.return_, 1) := by decide +kernel
theorem dX5_setSite_0 : decode cX5_setSite 0 = .ok (.iload_n 1, 1) := by decide +kernel
theorem dX5_setSite_1 : decode cX5_setSite 1 = .ok (.bipush (-90), 2) := by decide +kernel
theorem dX5_setSite_3 : decode cX5_setSite 3 = .ok (.bipush 90, 2) := by decide +kernel
theorem dX5_setSite_5 : decode cX5_setSite 5 = .ok (.invokestatic 48, 3) := by decide +kernel
theorem dX5_setSite_8 : decode cX5_setSite 8 = .ok (.ifCond .eq 14, 3) := by decide +kernel
theorem dX5_setSite_11 : decode cX5_setSite 11 = .ok (.iload_n 2, 1) := by decide +kernel
theorem dX5_setSite_12 : decode cX5_setSite 12 = .ok (.iconst 0, 1) := by decide +kernel
theorem dX5_setSite_13 : decode cX5_setSite 13 = .ok (.sipush 1439, 3) := by decide +kernel
theorem dX5_setSite_16 : decode cX5_setSite 16 = .ok (.invokestatic 48, 3) := by decide +kernel
theorem dX5_setSite_19 : decode cX5_setSite 19 = .ok (.ifCond .ne 13, 3) := by decide +kernel
theorem dX5_setSite_22 : decode cX5_setSite 22 = .ok (.new 52, 3) := by decide +kernel
theorem dX5_setSite_25 : decode cX5_setSite 25 = .ok (.dup, 1) := by decide +kernel
theorem dX5_setSite_26 : decode cX5_setSite 26 = .ok (.ldc 54, 2) := by decide +kernel
theorem dX5_setSite_28 : decode cX5_setSite 28 = .ok (.invokespecial 56, 3) := by decide +kernel
theorem dX5_setSite_31 : decode cX5_setSite 31 = .ok (.athrow, 1) := by decide +kernel
theorem dX5_setSite_32 : decode cX5_setSite 32 = .ok (.aload_n 0, 1) := by decide +kernel
theorem dX5_setSite_33 : decode cX5_setSite 33 = .ok (.getfield 14, 3) := by decide +kernel
theorem dX5_setSite_36 : decode cX5_setSite 36 = .ok (.getfield 59, 3) := by decide +kernel
theorem dX5_setSite_39 : decode cX5_setSite 39 = .ok (.istore_n 3, 1) := by decide +kernel
theorem dX5_setSite_40 : decode cX5_setSite 40 = .ok (.aload_n 0, 1) := by decide +kernel
theorem dX5_setSite_41 : decode cX5_setSite 41 = .ok (.new 9, 3) := by decide +kernel
theorem dX5_setSite_44 : decode cX5_setSite 44 = .ok (.dup, 1) := by decide +kernel
theorem dX5_setSite_45 : decode cX5_setSite 45 = .ok (.iload_n 2, 1) := by decide +kernel
theorem dX5_setSite_46 : decode cX5_setSite 46 = .ok (.iload_n 1, 1) := by decide +kernel
theorem dX5_setSite_47 : decode cX5_setSite 47 = .ok (.invokespecial 11, 3) := by decide +kernel
theorem dX5_setSite_50 : decode cX5_setSite 50 = .ok (.putfield 14, 3) := by decide +kernel
theorem dX5_setSite_53 : decode cX5_setSite 53 = .ok (.aload_n 0, 1) := by decide +kernel
theorem dX5_setSite_54 : decode cX5_setSite 54 = .ok (.invokevirtual 62, 3) := by decide +kernel
theorem dX5_setSite_57 : decode cX5_setSite 57 = .ok (.iload_n 3, 1) := by decide +kernel
theorem dX5_setSite_58 : decode cX5_setSite 58 = .ok (.ireturn, 1) := by decide +kernel
theorem dX5_setLength_0 : decode cX5_setLength 0 = .ok (.iload_n 1, 1) := by decide +kernel
theorem dX5_setLength_1 : decode cX5_setLength 1 = .ok (.bipush 60, 2) := by decide +kernel
theorem dX5_setLength_3 : decode cX5_setLength 3 = .ok (.sipush 900, 3) := by decide +kernel
theorem dX5_setLength_6 : decode cX5_setLength 6 = .ok (.invokestatic 48, 3) := by decide +kernel
theorem dX5_setLength_9 : decode cX5_setLength 9 = .ok (.ifCond .ne 13, 3) := by decide +kernel
theorem dX5_setLength_12 : decode cX5_setLength 12 = .ok (.new 52, 3) := by decide +kernel
theorem dX5_setLength_15 : decode cX5_setLength 15 = .ok (.dup, 1) := by decide +kernel
theorem dX5_setLength_16 : decode cX5_setLength 16 = .ok (.ldc 65, 2) := by decide +kernel
theorem dX5_setLength_18 : decode cX5_setLength 18 = .ok (.invokespecial 56, 3) := by decide +kernel
theorem dX5_setLength_21 : decode cX5_setLength 21 = .ok (.athrow, 1) := by decide +kernel
theorem dX5_setLength_22 : decode cX5_setLength 22 = .ok (.aload_n 0, 1) := by decide +kernel
theorem dX5_setLength_23 : decode cX5_setLength 23 = .ok (.getfield 23, 3) := by decide +kernel
theorem dX5_setLength_26 : decode cX5_setLength 26 = .ok (.istore_n 2, 1) := by decide +kernel
theorem dX5_setLength_27 : decode cX5_setLength 27 = .ok (.aload_n 0, 1) := by decide +kernel
theorem dX5_setLength_28 : decode cX5_setLength 28 = .ok (.iload_n 1, 1) := by decide +kernel
theorem dX5_setLength_29 : decode cX5_setLength 29 = .ok (.putfield 23, 3) := by decide +kernel
theorem dX5_setLength_32 : decode cX5_setLength 32 = .ok (.aload_n 0, 1) := by decide +kernel
theorem dX5_setLength_33 : decode cX5_setLength 33 = .ok (.invokevirtual 62, 3) := by decide +kernel
theorem dX5_setLength_36 : decode cX5_setLength 36 = .ok (.iload_n 2, 1) := by decide +kernel
theorem dX5_setLength_37 : decode cX5_setLength 37 = .ok (.ireturn, 1) := by decide +kernel
theorem dX5_setMoon_0 : decode cX5_setMoon 0 = .ok (.iload_n 1, 1) := by decide +kernel
theorem dX5_setMoon_1 : decode cX5_setMoon 1 = .ok (.iload_n 2, 1) := by decide +kernel
theorem dX5_setMoon_2 : decode cX5_setMoon 2 = .ok (.invokestatic 67, 3) := by decide +kernel
theorem dX5_setMoon_5 : decode cX5_setMoon 5 = .ok (.ifCond .eq 13, 3) := by decide +kernel
theorem dX5_setMoon_8 : decode cX5_setMoon 8 = .ok (.iload_n 3, 1) := by decide +kernel
theorem dX5_setMoon_9 : decode cX5_setMoon 9 = .ok (.iconst 0, 1) := by decide +kernel
theorem dX5_setMoon_10 : decode cX5_setMoon 10 = .ok (.bipush 29, 2) := by decide +kernel
theorem dX5_setMoon_12 : decode cX5_setMoon 12 = .ok (.invokestatic 48, 3) := by decide +kernel
theorem dX5_setMoon_15 : decode cX5_setMoon 15 = .ok (.ifCond .ne 13, 3) := by decide +kernel
theorem dX5_setMoon_18 : decode cX5_setMoon 18 = .ok (.new 52, 3) := by decide +kernel
theorem dX5_setMoon_21 : decode cX5_setMoon 21 = .ok (.dup, 1) := by decide +kernel
theorem dX5_setMoon_22 : decode cX5_setMoon 22 = .ok (.ldc 71, 2) := by decide +kernel
theorem dX5_setMoon_24 : decode cX5_setMoon 24 = .ok (.invokespecial 56, 3) := by decide +kernel
theorem dX5_setMoon_27 : decode cX5_setMoon 27 = .ok (.athrow, 1) := by decide +kernel
theorem dX5_setMoon_28 : decode cX5_setMoon 28 = .ok (.aload_n 0, 1) := by decide +kernel
theorem dX5_setMoon_29 : decode cX5_setMoon 29 = .ok (.new 9, 3) := by decide +kernel
theorem dX5_setMoon_32 : decode cX5_setMoon 32 = .ok (.dup, 1) := by decide +kernel
theorem dX5_setMoon_33 : decode cX5_setMoon 33 = .ok (.iload_n 1, 1) := by decide +kernel
theorem dX5_setMoon_34 : decode cX5_setMoon 34 = .ok (.iload_n 2, 1) := by decide +kernel
theorem dX5_setMoon_35 : decode cX5_setMoon 35 = .ok (.invokespecial 11, 3) := by decide +kernel
theorem dX5_setMoon_38 : decode cX5_setMoon 38 = .ok (.putfield 20, 3) := by decide +kernel
theorem dX5_setMoon_41 : decode cX5_setMoon 41 = .ok (.aload_n 0, 1) := by decide +kernel
theorem dX5_setMoon_42 : decode cX5_setMoon 42 = .ok (.iload_n 3, 1) := by decide +kernel
theorem dX5_setMoon_43 : decode cX5_setMoon 43 = .ok (.putfield 73, 3) := by decide +kernel
theorem dX5_setMoon_46 : decode cX5_setMoon 46 = .ok (.aload_n 0, 1) := by decide +kernel
theorem dX5_setMoon_47 : decode cX5_setMoon 47 = .ok (.invokevirtual 62, 3) := by decide +kernel
theorem dX5_setMoon_50 : decode cX5_setMoon 50 = .ok (.aload_n 0, 1) := by decide +kernel
theorem dX5_setMoon_51 : decode cX5_setMoon 51 = .ok (.invokevirtual 76, 3) := by decide +kernel
theorem dX5_setMoon_54 : decode cX5_setMoon 54 = .ok (.ireturn, 1) := by decide +kernel
theorem dX5_addClouds_0 : decode cX5_addClouds 0 = .ok (.iload_n 1, 1) := by decide +kernel
theorem dX5_addClouds_1 : decode cX5_addClouds 1 = .ok (.ifCond .lt 16, 3) := by decide +kernel
theorem dX5_addClouds_4 : decode cX5_addClouds 4 = .ok (.iload_n 1, 1) := by decide +kernel
theorem dX5_addClouds_5 : decode cX5_addClouds 5 = .ok (.iload_n 2, 1) := by decide +kernel
theorem dX5_addClouds_6 : decode cX5_addClouds 6 = .ok (.if_icmp .gt 11, 3) := by decide +kernel
theorem dX5_addClouds_9 : decode cX5_addClouds 9 = .ok (.iload_n 2, 1) := by decide +kernel
theorem dX5_addClouds_10 : decode cX5_addClouds 10 = .ok (.aload_n 0, 1) := by decide +kernel
theorem dX5_addClouds_11 : decode cX5_addClouds 11 = .ok (.getfield 23, 3) := by decide +kernel
theorem dX5_addClouds_14 : decode cX5_addClouds 14 = .ok (.if_icmp .lt 13, 3) := by decide +kernel
theorem dX5_addClouds_17 : decode cX5_addClouds 17 = .ok (.new 52, 3) := by decide +kernel
theorem dX5_addClouds_20 : decode cX5_addClouds 20 = .ok (.dup, 1) := by decide +kernel
theorem dX5_addClouds_21 : decode cX5_addClouds 21 = .ok (.ldc 80, 2) := by decide +kernel
theorem dX5_addClouds_23 : decode cX5_addClouds 23 = .ok (.invokespecial 56, 3) := by decide +kernel
theorem dX5_addClouds_26 : decode cX5_addClouds 26 = .ok (.athrow, 1) := by decide +kernel
theorem dX5_addClouds_27 : decode cX5_addClouds 27 = .ok (.aload_n 0, 1) := by decide +kernel
theorem dX5_addClouds_28 : decode cX5_addClouds 28 = .ok (.getfield 30, 3) := by decide +kernel
theorem dX5_addClouds_31 : decode cX5_addClouds 31 = .ok (.getfield 82, 3) := by decide +kernel
theorem dX5_addClouds_34 : decode cX5_addClouds 34 = .ok (.bipush 8, 2) := by decide +kernel
theorem dX5_addClouds_36 : decode cX5_addClouds 36 = .ok (.if_icmp .lt 13, 3) := by decide +kernel
theorem dX5_addClouds_39 : decode cX5_addClouds 39 = .ok (.new 85, 3) := by decide +kernel
theorem dX5_addClouds_42 : decode cX5_addClouds 42 = .ok (.dup, 1) := by decide +kernel
theorem dX5_addClouds_43 : decode cX5_addClouds 43 = .ok (.ldc 87, 2) := by decide +kernel
theorem dX5_addClouds_45 : decode cX5_addClouds 45 = .ok (.invokespecial 89, 3) := by decide +kernel
theorem dX5_addClouds_48 : decode cX5_addClouds 48 = .ok (.athrow, 1) := by decide +kernel
theorem dX5_addClouds_49 : decode cX5_addClouds 49 = .ok (.aload_n 0, 1) := by decide +kernel
theorem dX5_addClouds_50 : decode cX5_addClouds 50 = .ok (.getfield 30, 3) := by decide +kernel
theorem dX5_addClouds_53 : decode cX5_addClouds 53 = .ok (.iload_n 1, 1) := by decide +kernel
theorem dX5_addClouds_54 : decode cX5_addClouds 54 = .ok (.iload_n 2, 1) := by decide +kernel
theorem dX5_addClouds_55 : decode cX5_addClouds 55 = .ok (.invokevirtual 90, 3) := by decide +kernel
theorem dX5_addClouds_58 : decode cX5_addClouds 58 = .ok (.aload_n 0, 1) := by decide +kernel
theorem dX5_addClouds_59 : decode cX5_addClouds 59 = .ok (.invokevirtual 62, 3) := by decide +kernel
theorem dX5_addClouds_62 : decode cX5_addClouds 62 = .ok (.aload_n 0, 1) := by decide +kernel
theorem dX5_addClouds_63 : decode cX5_addClouds 63 = .ok (.invokevirtual 93, 3) := by decide +kernel
theorem dX5_addClouds_66 : decode cX5_addClouds 66 = .ok (.ireturn, 1) := by decide +kernel
theorem dX5_sine_0 : decode cX5_sine 0 = .ok (.iload_n 1, 1) := by decide +kernel
theorem dX5_sine_1 : decode cX5_sine 1 = .ok (.sipush (-10000), 3) := by decide +kernel
theorem dX5_sine_4 : decode cX5_sine 4 = .ok (.sipush 10000, 3) := by decide +kernel
theorem dX5_sine_7 : decode cX5_sine 7 = .ok (.invokestatic 48, 3) := by decide +kernel
theorem dX5_sine_10 : decode cX5_sine 10 = .ok (.ifCond .ne 13, 3) := by decide +kernel
theorem dX5_sine_13 : decode cX5_sine 13 = .ok (.new 52, 3) := by decide +kernel
theorem dX5_sine_16 : decode cX5_sine 16 = .ok (.dup, 1) := by decide +kernel
theorem dX5_sine_17 : decode cX5_sine 17 = .ok (.ldc 96, 2) := by decide +kernel
theorem dX5_sine_19 : decode cX5_sine 19 = .ok (.invokespecial 56, 3) := by decide +kernel
theorem dX5_sine_22 : decode cX5_sine 22 = .ok (.athrow, 1) := by decide +kernel
theorem dX5_sine_23 : decode cX5_sine 23 = .ok (.iload_n 1, 1) := by decide +kernel
theorem dX5_sine_24 : decode cX5_sine 24 = .ok (.invokestatic 98, 3) := by decide +kernel
theorem dX5_sine_27 : decode cX5_sine 27 = .ok (.ireturn, 1) := by decide +kernel
theorem dX5_addTarget_0 : decode cX5_addTarget 0 = .ok (.iload_n 1, 1) := by decide +kernel
theorem dX5_addTarget_1 : decode cX5_addTarget 1 = .ok (.iload_n 2, 1) := by decide +kernel
theorem dX5_addTarget_2 : decode cX5_addTarget 2 = .ok (.invokestatic 67, 3) := by decide +kernel
theorem dX5_addTarget_5 : decode cX5_addTarget 5 = .ok (.ifCond .eq 34, 3) := by decide +kernel
theorem dX5_addTarget_8 : decode cX5_addTarget 8 = .ok (.iload_n 3, 1) := by decide +kernel
theorem dX5_addTarget_9 : decode cX5_addTarget 9 = .ok (.iconst 0, 1) := by decide +kernel
theorem dX5_addTarget_10 : decode cX5_addTarget 10 = .ok (.iconst 3, 1) := by decide +kernel
theorem dX5_addTarget_11 : decode cX5_addTarget 11 = .ok (.invokestatic 48, 3) := by decide +kernel
theorem dX5_addTarget_14 : decode cX5_addTarget 14 = .ok (.ifCond .eq 25, 3) := by decide +kernel
theorem dX5_addTarget_17 : decode cX5_addTarget 17 = .ok (.iload 4, 2) := by decide +kernel
theorem dX5_addTarget_19 : decode cX5_addTarget 19 = .ok (.iconst 1, 1) := by decide +kernel
theorem dX5_addTarget_20 : decode cX5_addTarget 20 = .ok (.bipush 9, 2) := by decide +kernel
theorem dX5_addTarget_22 : decode cX5_addTarget 22 = .ok (.invokestatic 48, 3) := by decide +kernel
theorem dX5_addTarget_25 : decode cX5_addTarget 25 = .ok (.ifCond .eq 14, 3) := by decide +kernel
theorem dX5_addTarget_28 : decode cX5_addTarget 28 = .ok (.iload 5, 2) := by decide +kernel
theorem dX5_addTarget_30 : decode cX5_addTarget 30 = .ok (.iconst 5, 1) := by decide +kernel
theorem dX5_addTarget_31 : decode cX5_addTarget 31 = .ok (.bipush 120, 2) := by decide +kernel
theorem dX5_addTarget_33 : decode cX5_addTarget 33 = .ok (.invokestatic 48, 3) := by decide +kernel
theorem dX5_addTarget_36 : decode cX5_addTarget 36 = .ok (.ifCond .ne 13, 3) := by decide +kernel
theorem dX5_addTarget_39 : decode cX5_addTarget 39 = .ok (.new 52, 3) := by decide +kernel
theorem dX5_addTarget_42 : decode cX5_addTarget 42 = .ok (.dup, 1) := by decide +kernel
theorem dX5_addTarget_43 : decode cX5_addTarget 43 = .ok (.ldc 102, 2) := by decide +kernel
theorem dX5_addTarget_45 : decode cX5_addTarget 45 = .ok (.invokespecial 56, 3) := by decide +kernel
theorem dX5_addTarget_48 : decode cX5_addTarget 48 = .ok (.athrow, 1) := by decide +kernel
theorem dX5_addTarget_49 : decode cX5_addTarget 49 = .ok (.aload_n 0, 1) := by decide +kernel
theorem dX5_addTarget_50 : decode cX5_addTarget 50 = .ok (.getfield 37, 3) := by decide +kernel
theorem dX5_addTarget_53 : decode cX5_addTarget 53 = .ok (.invokevirtual 104, 3) := by decide +kernel
theorem dX5_addTarget_56 : decode cX5_addTarget 56 = .ok (.bipush 20, 2) := by decide +kernel
theorem dX5_addTarget_58 : decode cX5_addTarget 58 = .ok (.if_icmp .lt 13, 3) := by decide +kernel
theorem dX5_addTarget_61 : decode cX5_addTarget 61 = .ok (.new 85, 3) := by decide +kernel
theorem dX5_addTarget_64 : decode cX5_addTarget 64 = .ok (.dup, 1) := by decide +kernel
theorem dX5_addTarget_65 : decode cX5_addTarget 65 = .ok (.ldc 107, 2) := by decide +kernel
theorem dX5_addTarget_67 : decode cX5_addTarget 67 = .ok (.invokespecial 89, 3) := by decide +kernel
theorem dX5_addTarget_70 : decode cX5_addTarget 70 = .ok (.athrow, 1) := by decide +kernel
theorem dX5_addTarget_71 : decode cX5_addTarget 71 = .ok (.aload_n 0, 1) := by decide +kernel
theorem dX5_addTarget_72 : decode cX5_addTarget 72 = .ok (.getfield 37, 3) := by decide +kernel
theorem dX5_addTarget_75 : decode cX5_addTarget 75 = .ok (.invokevirtual 104, 3) := by decide +kernel
theorem dX5_addTarget_78 : decode cX5_addTarget 78 = .ok (.istore 6, 2) := by decide +kernel
theorem dX5_addTarget_80 : decode cX5_addTarget 80 = .ok (.aload_n 0, 1) := by decide +kernel
theorem dX5_addTarget_81 : decode cX5_addTarget 81 = .ok (.getfield 37, 3) := by decide +kernel
theorem dX5_addTarget_84 : decode cX5_addTarget 84 = .ok (.new 109, 3) := by decide +kernel
theorem dX5_addTarget_87 : decode cX5_addTarget 87 = .ok (.dup, 1) := by decide +kernel
theorem dX5_addTarget_88 : decode cX5_addTarget 88 = .ok (.iload 6, 2) := by decide +kernel
theorem dX5_addTarget_90 : decode cX5_addTarget 90 = .ok (.new 9, 3) := by decide +kernel
theorem dX5_addTarget_93 : decode cX5_addTarget 93 = .ok (.dup, 1) := by decide +kernel
theorem dX5_addTarget_94 : decode cX5_addTarget 94 = .ok (.iload_n 1, 1) := by decide +kernel
theorem dX5_addTarget_95 : decode cX5_addTarget 95 = .ok (.iload_n 2, 1) := by decide +kernel
theorem dX5_addTarget_96 : decode cX5_addTarget 96 = .ok (.invokespecial 11, 3) := by decide +kernel
theorem dX5_addTarget_99 : decode cX5_addTarget 99 = .ok (.iload_n 3, 1) := by decide +kernel
theorem dX5_addTarget_100 : decode cX5_addTarget 100 = .ok (.iload 4, 2) := by decide +kernel
theorem dX5_addTarget_102 : decode cX5_addTarget 102 = .ok (.iload 5, 2) := by decide +kernel
theorem dX5_addTarget_104 : decode cX5_addTarget 104 = .ok (.invokespecial 111, 3) := by decide +kernel
theorem dX5_addTarget_107 : decode cX5_addTarget 107 = .ok (.invokevirtual 114, 3) := by decide +kernel
theorem dX5_addTarget_110 : decode cX5_addTarget 110 = .ok (.pop, 1) := by decide +kernel
theorem dX5_addTarget_111 : decode cX5_addTarget 111 = .ok (.aload_n 0, 1) := by decide +kernel
theorem dX5_addTarget_112 : decode cX5_addTarget 112 = .ok (.getfield 44, 3) := by decide +kernel
theorem dX5_addTarget_115 : decode cX5_addTarget 115 = .ok (.iconst 0, 1) := by decide +kernel
theorem dX5_addTarget_116 : decode cX5_addTarget 116 = .ok (.putfield 118, 3) := by decide +kernel
theorem dX5_addTarget_119 : decode cX5_addTarget 119 = .ok (.iload 6, 2) := by decide +kernel
theorem dX5_addTarget_121 : decode cX5_addTarget 121 = .ok (.ireturn, 1) := by decide +kernel
theorem dX5_want_0 : decode cX5_want 0 = .ok (.aload_n 0, 1) := by decide +kernel
theorem dX5_want_1 : decode cX5_want 1 = .ok (.iload_n 1, 1) := by decide +kernel
theorem dX5_want_2 : decode cX5_want 2 = .ok (.invokevirtual 122, 3) := by decide +kernel
theorem dX5_want_5 : decode cX5_want 5 = .ok (.astore 5, 2) := by decide +kernel
theorem dX5_want_7 : decode cX5_want 7 = .ok (.iload_n 2, 1) := by decide +kernel
theorem dX5_want_8 : decode cX5_want 8 = .ok (.sipush (-1000), 3) := by decide +kernel
theorem dX5_want_11 : decode cX5_want 11 = .ok (.sipush 1000, 3) := by decide +kernel
theorem dX5_want_14 : decode cX5_want 14 = .ok (.invokestatic 48, 3) := by decide +kernel
theorem dX5_want_17 : decode cX5_want 17 = .ok (.ifCond .eq 24, 3) := by decide +kernel
theorem dX5_want_20 : decode cX5_want 20 = .ok (.iload_n 3, 1) := by decide +kernel
theorem dX5_want_21 : decode cX5_want 21 = .ok (.iconst 1, 1) := by decide +kernel
theorem dX5_want_22 : decode cX5_want 22 = .ok (.bipush 10, 2) := by decide +kernel
theorem dX5_want_24 : decode cX5_want 24 = .ok (.invokestatic 48, 3) := by decide +kernel
theorem dX5_want_27 : decode cX5_want 27 = .ok (.ifCond .eq 14, 3) := by decide +kernel
theorem dX5_want_30 : decode cX5_want 30 = .ok (.iload 4, 2) := by decide +kernel
theorem dX5_want_32 : decode cX5_want 32 = .ok (.iconst 1, 1) := by decide +kernel
theorem dX5_want_33 : decode cX5_want 33 = .ok (.bipush 20, 2) := by decide +kernel
theorem dX5_want_35 : decode cX5_want 35 = .ok (.invokestatic 48, 3) := by decide +kernel
theorem dX5_want_38 : decode cX5_want 38 = .ok (.ifCond .ne 13, 3) := by decide +kernel
theorem dX5_want_41 : decode cX5_want 41 = .ok (.new 52, 3) := by decide +kernel
theorem dX5_want_44 : decode cX5_want 44 = .ok (.dup, 1) := by decide +kernel
theorem dX5_want_45 : decode cX5_want 45 = .ok (.ldc 126, 2) := by decide +kernel
theorem dX5_want_47 : decode cX5_want 47 = .ok (.invokespecial 56, 3) := by decide +kernel
theorem dX5_want_50 : decode cX5_want 50 = .ok (.athrow, 1) := by decide +kernel
theorem dX5_want_51 : decode cX5_want 51 = .ok (.aload 5, 2) := by decide +kernel
theorem dX5_want_53 : decode cX5_want 53 = .ok (.getfield 128, 3) := by decide +kernel
theorem dX5_want_56 : decode cX5_want 56 = .ok (.istore 6, 2) := by decide +kernel
theorem dX5_want_58 : decode cX5_want 58 = .ok (.aload 5, 2) := by decide +kernel
theorem dX5_want_60 : decode cX5_want 60 = .ok (.iload_n 2, 1) := by decide +kernel
theorem dX5_want_61 : decode cX5_want 61 = .ok (.putfield 131, 3) := by decide +kernel
theorem dX5_want_64 : decode cX5_want 64 = .ok (.aload 5, 2) := by decide +kernel
theorem dX5_want_66 : decode cX5_want 66 = .ok (.iload_n 3, 1) := by decide +kernel
theorem dX5_want_67 : decode cX5_want 67 = .ok (.putfield 128, 3) := by decide +kernel
theorem dX5_want_70 : decode cX5_want 70 = .ok (.aload 5, 2) := by decide +kernel
theorem dX5_want_72 : decode cX5_want 72 = .ok (.iload 4, 2) := by decide +kernel
theorem dX5_want_74 : decode cX5_want 74 = .ok (.putfield 134, 3) := by decide +kernel
theorem dX5_want_77 : decode cX5_want 77 = .ok (.aload 5, 2) := by decide +kernel
theorem dX5_want_79 : decode cX5_want 79 = .ok (.getfield 137, 3) := by decide +kernel
theorem dX5_want_82 : decode cX5_want 82 = .ok (.iconst 0, 1) := by decide +kernel
theorem dX5_want_83 : decode cX5_want 83 = .ok (.putfield 141, 3) := by decide +kernel
theorem dX5_want_86 : decode cX5_want 86 = .ok (.aload_n 0, 1) := by decide +kernel
theorem dX5_want_87 : decode cX5_want 87 = .ok (.getfield 44, 3) := by decide +kernel
theorem dX5_want_90 : decode cX5_want 90 = .ok (.iconst 0, 1) := by decide +kernel
theorem dX5_want_91 : decode cX5_want 91 = .ok (.putfield 118, 3) := by decide +kernel
theorem dX5_want_94 : decode cX5_want 94 = .ok (.iload 6, 2) := by decide +kernel
theorem dX5_want_96 : decode cX5_want 96 = .ok (.ireturn, 1) := by decide +kernel
theorem dX5_target_0 : decode cX5_target 0 = .ok (.aload_n 0, 1) := by decide +kernel
theorem dX5_target_1 : decode cX5_target 1 = .ok (.iload_n 1, 1) := by decide +kernel
theorem dX5_target_2 : decode cX5_target 2 = .ok (.invokevirtual 122, 3) := by decide +kernel
theorem dX5_target_5 : decode cX5_target 5 = .ok (.astore_n 3, 1) := by decide +kernel
theorem dX5_target_6 : decode cX5_target 6 = .ok (.iload_n 2, 1) := by decide +kernel
theorem dX5_target_7 : decode cX5_target 7 = .ok (.bipush 10, 2) := by decide +kernel
theorem dX5_target_9 : decode cX5_target 9 = .ok (.invokestatic 144, 3) := by decide +kernel
theorem dX5_target_12 : decode cX5_target 12 = .ok (.aload_n 3, 1) := by decide +kernel
theorem dX5_target_13 : decode cX5_target 13 = .ok (.iload_n 2, 1) := by decide +kernel
theorem dX5_target_14 : decode cX5_target 14 = .ok (.invokevirtual 147, 3) := by decide +kernel
theorem dX5_target_17 : decode cX5_target 17 = .ok (.ireturn, 1) := by decide +kernel
theorem dX5_height_0 : decode cX5_height 0 = .ok (.aload_n 0, 1) := by decide +kernel
theorem dX5_height_1 : decode cX5_height 1 = .ok (.iload_n 1, 1) := by decide +kernel
theorem dX5_height_2 : decode cX5_height 2 = .ok (.invokevirtual 122, 3) := by decide +kernel
theorem dX5_height_5 : decode cX5_height 5 = .ok (.astore_n 3, 1) := by decide +kernel
theorem dX5_height_6 : decode cX5_height 6 = .ok (.aload_n 0, 1) := by decide +kernel
theorem dX5_height_7 : decode cX5_height 7 = .ok (.iload_n 2, 1) := by decide +kernel
theorem dX5_height_8 : decode cX5_height 8 = .ok (.invokevirtual 150, 3) := by decide +kernel
theorem dX5_height_11 : decode cX5_height 11 = .ok (.aload_n 0, 1) := by decide +kernel
theorem dX5_height_12 : decode cX5_height 12 = .ok (.aload_n 3, 1) := by decide +kernel
theorem dX5_height_13 : decode cX5_height 13 = .ok (.getfield 154, 3) := by decide +kernel
theorem dX5_height_16 : decode cX5_height 16 = .ok (.iload_n 2, 1) := by decide +kernel
theorem dX5_height_17 : decode cX5_height 17 = .ok (.invokevirtual 157, 3) := by decide +kernel
theorem dX5_height_20 : decode cX5_height 20 = .ok (.ireturn, 1) := by decide +kernel
theorem dX5_nearness_0 : decode cX5_nearness 0 = .ok (.aload_n 0, 1) := by decide +kernel
theorem dX5_nearness_1 : decode cX5_nearness 1 = .ok (.iload_n 1, 1) := by decide +kernel
theorem dX5_nearness_2 : decode cX5_nearness 2 = .ok (.invokevirtual 122, 3) := by decide +kernel
theorem dX5_nearness_5 : decode cX5_nearness 5 = .ok (.getfield 154, 3) := by decide +kernel
theorem dX5_nearness_8 : decode cX5_nearness 8 = .ok (.aload_n 0, 1) := by decide +kernel
theorem dX5_nearness_9 : decode cX5_nearness 9 = .ok (.iload_n 2, 1) := by decide +kernel
theorem dX5_nearness_10 : decode cX5_nearness 10 = .ok (.invokevirtual 122, 3) := by decide +kernel
theorem dX5_nearness_13 : decode cX5_nearness 13 = .ok (.getfield 154, 3) := by decide +kernel
theorem dX5_nearness_16 : decode cX5_nearness 16 = .ok (.invokestatic 161, 3) := by decide +kernel
theorem dX5_nearness_19 : decode cX5_nearness 19 = .ok (.ireturn, 1) := by decide +kernel
theorem dX5_moonNearness_0 : decode cX5_moonNearness 0 = .ok (.aload_n 0, 1) := by decide +kernel
theorem dX5_moonNearness_1 : decode cX5_moonNearness 1 = .ok (.iload_n 1, 1) := by decide +kernel
theorem dX5_moonNearness_2 : decode cX5_moonNearness 2 = .ok (.invokevirtual 122, 3) := by decide +kernel
theorem dX5_moonNearness_5 : decode cX5_moonNearness 5 = .ok (.getfield 154, 3) := by decide +kernel
theorem dX5_moonNearness_8 : decode cX5_moonNearness 8 = .ok (.aload_n 0, 1) := by decide +kernel
theorem dX5_moonNearness_9 : decode cX5_moonNearness 9 = .ok (.getfield 20, 3) := by decide +kernel
theorem dX5_moonNearness_12 : decode cX5_moonNearness 12 = .ok (.invokestatic 161, 3) := by decide +kernel
theorem dX5_moonNearness_15 : decode cX5_moonNearness 15 = .ok (.ireturn, 1) := by decide +kernel
theorem dX5_moonHeight_0 : decode cX5_moonHeight 0 = .ok (.aload_n 0, 1) := by decide +kernel
theorem dX5_moonHeight_1 : decode cX5_moonHeight 1 = .ok (.iload_n 1, 1) := by decide +kernel
theorem dX5_moonHeight_2 : decode cX5_moonHeight 2 = .ok (.invokevirtual 150, 3) := by decide +kernel
theorem dX5_moonHeight_5 : decode cX5_moonHeight 5 = .ok (.aload_n 0, 1) := by decide +kernel
theorem dX5_moonHeight_6 : decode cX5_moonHeight 6 = .ok (.aload_n 0, 1) := by decide +kernel
theorem dX5_moonHeight_7 : decode cX5_moonHeight 7 = .ok (.getfield 20, 3) := by decide +kernel
theorem dX5_moonHeight_10 : decode cX5_moonHeight 10 = .ok (.iload_n 1, 1) := by decide +kernel
theorem dX5_moonHeight_11 : decode cX5_moonHeight 11 = .ok (.invokevirtual 157, 3) := by decide +kernel
theorem dX5_moonHeight_14 : decode cX5_moonHeight 14 = .ok (.ireturn, 1) := by decide +kernel
theorem dX5_reason_0 : decode cX5_reason 0 = .ok (.aload_n 0, 1) := by decide +kernel
theorem dX5_reason_1 : decode cX5_reason 1 = .ok (.iload_n 1, 1) := by decide +kernel
theorem dX5_reason_2 : decode cX5_reason 2 = .ok (.invokevirtual 122, 3) := by decide +kernel
theorem dX5_reason_5 : decode cX5_reason 5 = .ok (.astore_n 3, 1) := by decide +kernel
theorem dX5_reason_6 : decode cX5_reason 6 = .ok (.aload_n 0, 1) := by decide +kernel
theorem dX5_reason_7 : decode cX5_reason 7 = .ok (.iload_n 2, 1) := by decide +kernel
theorem dX5_reason_8 : decode cX5_reason 8 = .ok (.invokevirtual 150, 3) := by decide +kernel
theorem dX5_reason_11 : decode cX5_reason 11 = .ok (.aload_n 0, 1) := by decide +kernel
theorem dX5_reason_12 : decode cX5_reason 12 = .ok (.aload_n 3, 1) := by decide +kernel
theorem dX5_reason_13 : decode cX5_reason 13 = .ok (.iload_n 2, 1) := by decide +kernel
theorem dX5_reason_14 : decode cX5_reason 14 = .ok (.aload_n 0, 1) := by decide +kernel
theorem dX5_reason_15 : decode cX5_reason 15 = .ok (.aload_n 3, 1) := by decide +kernel
theorem dX5_reason_16 : decode cX5_reason 16 = .ok (.getfield 154, 3) := by decide +kernel
theorem dX5_reason_19 : decode cX5_reason 19 = .ok (.iload_n 2, 1) := by decide +kernel
theorem dX5_reason_20 : decode cX5_reason 20 = .ok (.invokevirtual 157, 3) := by decide +kernel
theorem dX5_reason_23 : decode cX5_reason 23 = .ok (.invokevirtual 165, 3) := by decide +kernel
theorem dX5_reason_26 : decode cX5_reason 26 = .ok (.ireturn, 1) := by decide +kernel
theorem dX5_window_0 : decode cX5_window 0 = .ok (.aload_n 0, 1) := by decide +kernel
theorem dX5_window_1 : decode cX5_window 1 = .ok (.iload_n 1, 1) := by decide +kernel
theorem dX5_window_2 : decode cX5_window 2 = .ok (.invokevirtual 122, 3) := by decide +kernel
theorem dX5_window_5 : decode cX5_window 5 = .ok (.astore_n 3, 1) := by decide +kernel
theorem dX5_window_6 : decode cX5_window 6 = .ok (.iload_n 2, 1) := by decide +kernel
theorem dX5_window_7 : decode cX5_window 7 = .ok (.iconst 5, 1) := by decide +kernel
theorem dX5_window_8 : decode cX5_window 8 = .ok (.invokestatic 144, 3) := by decide +kernel
theorem dX5_window_11 : decode cX5_window 11 = .ok (.aload_n 0, 1) := by decide +kernel
theorem dX5_window_12 : decode cX5_window 12 = .ok (.aload_n 3, 1) := by decide +kernel
theorem dX5_window_13 : decode cX5_window 13 = .ok (.invokevirtual 169, 3) := by decide +kernel
theorem dX5_window_16 : decode cX5_window 16 = .ok (.aload_n 3, 1) := by decide +kernel
theorem dX5_window_17 : decode cX5_window 17 = .ok (.getfield 137, 3) := by decide +kernel
theorem dX5_window_20 : decode cX5_window 20 = .ok (.iload_n 2, 1) := by decide +kernel
theorem dX5_window_21 : decode cX5_window 21 = .ok (.invokevirtual 173, 3) := by decide +kernel
theorem dX5_window_24 : decode cX5_window 24 = .ok (.ireturn, 1) := by decide +kernel
theorem dX5_isOpen_0 : decode cX5_isOpen 0 = .ok (.aload_n 0, 1) := by decide +kernel
theorem dX5_isOpen_1 : decode cX5_isOpen 1 = .ok (.iload_n 1, 1) := by decide +kernel
theorem dX5_isOpen_2 : decode cX5_isOpen 2 = .ok (.invokevirtual 122, 3) := by decide +kernel
theorem dX5_isOpen_5 : decode cX5_isOpen 5 = .ok (.aload_n 0, 1) := by decide +kernel
theorem dX5_isOpen_6 : decode cX5_isOpen 6 = .ok (.getfield 174, 3) := by decide +kernel
theorem dX5_isOpen_9 : decode cX5_isOpen 9 = .ok (.invokevirtual 177, 3) := by decide +kernel
theorem dX5_isOpen_12 : decode cX5_isOpen 12 = .ok (.ireturn, 1) := by decide +kernel
theorem dX5_count_0 : decode cX5_count 0 = .ok (.iload_n 1, 1) := by decide +kernel
theorem dX5_count_1 : decode cX5_count 1 = .ok (.iconst 4, 1) := by decide +kernel
theorem dX5_count_2 : decode cX5_count 2 = .ok (.invokestatic 144, 3) := by decide +kernel
theorem dX5_count_5 : decode cX5_count 5 = .ok (.iconst 0, 1) := by decide +kernel
theorem dX5_count_6 : decode cX5_count 6 = .ok (.istore_n 2, 1) := by decide +kernel
theorem dX5_count_7 : decode cX5_count 7 = .ok (.iconst 0, 1) := by decide +kernel
theorem dX5_count_8 : decode cX5_count 8 = .ok (.istore_n 3, 1) := by decide +kernel
theorem dX5_count_9 : decode cX5_count 9 = .ok (.iload_n 3, 1) := by decide +kernel
theorem dX5_count_10 : decode cX5_count 10 = .ok (.aload_n 0, 1) := by decide +kernel
theorem dX5_count_11 : decode cX5_count 11 = .ok (.getfield 37, 3) := by decide +kernel
theorem dX5_count_14 : decode cX5_count 14 = .ok (.invokevirtual 104, 3) := by decide +kernel
theorem dX5_count_17 : decode cX5_count 17 = .ok (.if_icmp .ge 28, 3) := by decide +kernel
theorem dX5_count_20 : decode cX5_count 20 = .ok (.iload_n 2, 1) := by decide +kernel
theorem dX5_count_21 : decode cX5_count 21 = .ok (.aload_n 0, 1) := by decide +kernel
theorem dX5_count_22 : decode cX5_count 22 = .ok (.aload_n 0, 1) := by decide +kernel
theorem dX5_count_23 : decode cX5_count 23 = .ok (.getfield 37, 3) := by decide +kernel
theorem dX5_count_26 : decode cX5_count 26 = .ok (.iload_n 3, 1) := by decide +kernel
theorem dX5_count_27 : decode cX5_count 27 = .ok (.invokevirtual 181, 3) := by decide +kernel
theorem dX5_count_30 : decode cX5_count 30 = .ok (.checkcast 109, 3) := by decide +kernel
theorem dX5_count_33 : decode cX5_count 33 = .ok (.iload_n 1, 1) := by decide +kernel
theorem dX5_count_34 : decode cX5_count 34 = .ok (.invokevirtual 185, 3) := by decide +kernel
theorem dX5_count_37 : decode cX5_count 37 = .ok (.iadd, 1) := by decide +kernel
theorem dX5_count_38 : decode cX5_count 38 = .ok (.istore_n 2, 1) := by decide +kernel
theorem dX5_count_39 : decode cX5_count 39 = .ok (.iinc 3 1, 3) := by decide +kernel
theorem dX5_count_42 : decode cX5_count 42 = .ok (.goto (-33), 3) := by decide +kernel
theorem dX5_count_45 : decode cX5_count 45 = .ok (.iload_n 2, 1) := by decide +kernel
theorem dX5_count_46 : decode cX5_count 46 = .ok (.ireturn, 1) := by decide +kernel
theorem dX5_visits_0 : decode cX5_visits 0 = .ok (.aload_n 0, 1) := by decide +kernel
theorem dX5_visits_1 : decode cX5_visits 1 = .ok (.invokevirtual 189, 3) := by decide +kernel
theorem dX5_visits_4 : decode cX5_visits 4 = .ok (.aload_n 0, 1) := by decide +kernel
theorem dX5_visits_5 : decode cX5_visits 5 = .ok (.getfield 44, 3) := by decide +kernel
theorem dX5_visits_8 : decode cX5_visits 8 = .ok (.getfield 192, 3) := by decide +kernel
theorem dX5_visits_11 : decode cX5_visits 11 = .ok (.ireturn, 1) := by decide +kernel
theorem dX5_visit_0 : decode cX5_visit 0 = .ok (.aload_n 0, 1) := by decide +kernel
theorem dX5_visit_1 : decode cX5_visit 1 = .ok (.invokevirtual 189, 3) := by decide +kernel
theorem dX5_visit_4 : decode cX5_visit 4 = .ok (.iload_n 1, 1) := by decide +kernel
theorem dX5_visit_5 : decode cX5_visit 5 = .ok (.ifCond .lt 14, 3) := by decide +kernel
theorem dX5_visit_8 : decode cX5_visit 8 = .ok (.iload_n 1, 1) := by decide +kernel
theorem dX5_visit_9 : decode cX5_visit 9 = .ok (.aload_n 0, 1) := by decide +kernel
theorem dX5_visit_10 : decode cX5_visit 10 = .ok (.getfield 44, 3) := by decide +kernel
theorem dX5_visit_13 : decode cX5_visit 13 = .ok (.getfield 192, 3) := by decide +kernel
theorem dX5_visit_16 : decode cX5_visit 16 = .ok (.if_icmp .lt 13, 3) := by decide +kernel
theorem dX5_visit_19 : decode cX5_visit 19 = .ok (.new 194, 3) := by decide +kernel
theorem dX5_visit_22 : decode cX5_visit 22 = .ok (.dup, 1) := by decide +kernel
theorem dX5_visit_23 : decode cX5_visit 23 = .ok (.ldc 196, 2) := by decide +kernel
theorem dX5_visit_25 : decode cX5_visit 25 = .ok (.invokespecial 198, 3) := by decide +kernel
theorem dX5_visit_28 : decode cX5_visit 28 = .ok (.athrow, 1) := by decide +kernel
theorem dX5_visit_29 : decode cX5_visit 29 = .ok (.iload_n 2, 1) := by decide +kernel
theorem dX5_visit_30 : decode cX5_visit 30 = .ok (.iconst 4, 1) := by decide +kernel
theorem dX5_visit_31 : decode cX5_visit 31 = .ok (.invokestatic 144, 3) := by decide +kernel
theorem dX5_visit_34 : decode cX5_visit 34 = .ok (.aload_n 0, 1) := by decide +kernel
theorem dX5_visit_35 : decode cX5_visit 35 = .ok (.getfield 44, 3) := by decide +kernel
theorem dX5_visit_38 : decode cX5_visit 38 = .ok (.getfield 199, 3) := by decide +kernel
theorem dX5_visit_41 : decode cX5_visit 41 = .ok (.iload_n 1, 1) := by decide +kernel
theorem dX5_visit_42 : decode cX5_visit 42 = .ok (.aaload, 1) := by decide +kernel
theorem dX5_visit_43 : decode cX5_visit 43 = .ok (.iload_n 2, 1) := by decide +kernel
theorem dX5_visit_44 : decode cX5_visit 44 = .ok (.iaload, 1) := by decide +kernel
theorem dX5_visit_45 : decode cX5_visit 45 = .ok (.ireturn, 1) := by decide +kernel
theorem dX5_use_0 : decode cX5_use 0 = .ok (.aload_n 0, 1) := by decide +kernel
theorem dX5_use_1 : decode cX5_use 1 = .ok (.invokevirtual 189, 3) := by decide +kernel
theorem dX5_use_4 : decode cX5_use 4 = .ok (.aload_n 0, 1) := by decide +kernel
theorem dX5_use_5 : decode cX5_use 5 = .ok (.getfield 44, 3) := by decide +kernel
theorem dX5_use_8 : decode cX5_use 8 = .ok (.getfield 203, 3) := by decide +kernel
theorem dX5_use_11 : decode cX5_use 11 = .ok (.i2d, 1) := by decide +kernel
theorem dX5_use_12 : decode cX5_use 12 = .ok (.aload_n 0, 1) := by decide +kernel
theorem dX5_use_13 : decode cX5_use 13 = .ok (.getfield 23, 3) := by decide +kernel
theorem dX5_use_16 : decode cX5_use 16 = .ok (.i2d, 1) := by decide +kernel
theorem dX5_use_17 : decode cX5_use 17 = .ok (.ddiv, 1) := by decide +kernel
theorem dX5_use_18 : decode cX5_use 18 = .ok (.dreturn, 1) := by decide +kernel
theorem dX5_observe_0 : decode cX5_observe 0 = .ok (.aload_n 0, 1) := by decide +kernel
theorem dX5_observe_1 : decode cX5_observe 1 = .ok (.getfield 174, 3) := by decide +kernel
theorem dX5_observe_4 : decode cX5_observe 4 = .ok (.bipush 60, 2) := by decide +kernel
theorem dX5_observe_6 : decode cX5_observe 6 = .ok (.if_icmp .lt 13, 3) := by decide +kernel
theorem dX5_observe_9 : decode cX5_observe 9 = .ok (.new 85, 3) := by decide +kernel
theorem dX5_observe_12 : decode cX5_observe 12 = .ok (.dup, 1) := by decide +kernel
theorem dX5_observe_13 : decode cX5_observe 13 = .ok (.ldc 206, 2) := by decide +kernel
theorem dX5_observe_15 : decode cX5_observe 15 = .ok (.invokespecial 89, 3) := by decide +kernel
theorem dX5_observe_18 : decode cX5_observe 18 = .ok (.athrow, 1) := by decide +kernel
theorem dX5_observe_19 : decode cX5_observe 19 = .ok (.aload_n 0, 1) := by decide +kernel
theorem dX5_observe_20 : decode cX5_observe 20 = .ok (.invokevirtual 189, 3) := by decide +kernel
theorem dX5_observe_23 : decode cX5_observe 23 = .ok (.aload_n 0, 1) := by decide +kernel
theorem dX5_observe_24 : decode cX5_observe 24 = .ok (.getfield 44, 3) := by decide +kernel
theorem dX5_observe_27 : decode cX5_observe 27 = .ok (.getfield 192, 3) := by decide +kernel
theorem dX5_observe_30 : decode cX5_observe 30 = .ok (.istore_n 1, 1) := by decide +kernel
theorem dX5_observe_31 : decode cX5_observe 31 = .ok (.iconst 0, 1) := by decide +kernel
theorem dX5_observe_32 : decode cX5_observe 32 = .ok (.istore_n 2, 1) := by decide +kernel
theorem dX5_observe_33 : decode cX5_observe 33 = .ok (.iload_n 2, 1) := by decide +kernel
theorem dX5_observe_34 : decode cX5_observe 34 = .ok (.aload_n 0, 1) := by decide +kernel
theorem dX5_observe_35 : decode cX5_observe 35 = .ok (.getfield 37, 3) := by decide +kernel
theorem dX5_observe_38 : decode cX5_observe 38 = .ok (.invokevirtual 104, 3) := by decide +kernel
theorem dX5_observe_41 : decode cX5_observe 41 = .ok (.if_icmp .ge 27, 3) := by decide +kernel
theorem dX5_observe_44 : decode cX5_observe 44 = .ok (.aload_n 0, 1) := by decide +kernel
theorem dX5_observe_45 : decode cX5_observe 45 = .ok (.getfield 37, 3) := by decide +kernel
theorem dX5_observe_48 : decode cX5_observe 48 = .ok (.iload_n 2, 1) := by decide +kernel
theorem dX5_observe_49 : decode cX5_observe 49 = .ok (.invokevirtual 181, 3) := by decide +kernel
theorem dX5_observe_52 : decode cX5_observe 52 = .ok (.checkcast 109, 3) := by decide +kernel
theorem dX5_observe_55 : decode cX5_observe 55 = .ok (.aload_n 0, 1) := by decide +kernel
theorem dX5_observe_56 : decode cX5_observe 56 = .ok (.getfield 174, 3) := by decide +kernel
theorem dX5_observe_59 : decode cX5_observe 59 = .ok (.invokevirtual 208, 3) := by decide +kernel
theorem dX5_observe_62 : decode cX5_observe 62 = .ok (.iinc 2 1, 3) := by decide +kernel
theorem dX5_observe_65 : decode cX5_observe 65 = .ok (.goto (-32), 3) := by decide +kernel
theorem dX5_observe_68 : decode cX5_observe 68 = .ok (.aload_n 0, 1) := by decide +kernel
theorem dX5_observe_69 : decode cX5_observe 69 = .ok (.invokevirtual 211, 3) := by decide +kernel
theorem dX5_observe_72 : decode cX5_observe 72 = .ok (.iload_n 1, 1) := by decide +kernel
theorem dX5_observe_73 : decode cX5_observe 73 = .ok (.ireturn, 1) := by decide +kernel
theorem dX5_pass_0 : decode cX5_pass 0 = .ok (.iload_n 1, 1) := by decide +kernel
theorem dX5_pass_1 : decode cX5_pass 1 = .ok (.iconst 1, 1) := by decide +kernel
theorem dX5_pass_2 : decode cX5_pass 2 = .ok (.bipush 60, 2) := by decide +kernel
theorem dX5_pass_4 : decode cX5_pass 4 = .ok (.aload_n 0, 1) := by decide +kernel
theorem dX5_pass_5 : decode cX5_pass 5 = .ok (.getfield 174, 3) := by decide +kernel
theorem dX5_pass_8 : decode cX5_pass 8 = .ok (.isub, 1) := by decide +kernel
theorem dX5_pass_9 : decode cX5_pass 9 = .ok (.invokestatic 48, 3) := by decide +kernel
theorem dX5_pass_12 : decode cX5_pass 12 = .ok (.ifCond .ne 13, 3) := by decide +kernel
theorem dX5_pass_15 : decode cX5_pass 15 = .ok (.new 52, 3) := by decide +kernel
theorem dX5_pass_18 : decode cX5_pass 18 = .ok (.dup, 1) := by decide +kernel
theorem dX5_pass_19 : decode cX5_pass 19 = .ok (.ldc 214, 2) := by decide +kernel
theorem dX5_pass_21 : decode cX5_pass 21 = .ok (.invokespecial 56, 3) := by decide +kernel
theorem dX5_pass_24 : decode cX5_pass 24 = .ok (.athrow, 1) := by decide +kernel
theorem dX5_pass_25 : decode cX5_pass 25 = .ok (.iconst 0, 1) := by decide +kernel
theorem dX5_pass_26 : decode cX5_pass 26 = .ok (.istore_n 2, 1) := by decide +kernel
theorem dX5_pass_27 : decode cX5_pass 27 = .ok (.iload_n 2, 1) := by decide +kernel
theorem dX5_pass_28 : decode cX5_pass 28 = .ok (.iload_n 1, 1) := by decide +kernel
theorem dX5_pass_29 : decode cX5_pass 29 = .ok (.if_icmp .ge 13, 3) := by decide +kernel
theorem dX5_pass_32 : decode cX5_pass 32 = .ok (.aload_n 0, 1) := by decide +kernel
theorem dX5_pass_33 : decode cX5_pass 33 = .ok (.invokevirtual 211, 3) := by decide +kernel
theorem dX5_pass_36 : decode cX5_pass 36 = .ok (.iinc 2 1, 3) := by decide +kernel
theorem dX5_pass_39 : decode cX5_pass 39 = .ok (.goto (-12), 3) := by decide +kernel
theorem dX5_pass_42 : decode cX5_pass 42 = .ok (.aload_n 0, 1) := by decide +kernel
theorem dX5_pass_43 : decode cX5_pass 43 = .ok (.getfield 174, 3) := by decide +kernel
theorem dX5_pass_46 : decode cX5_pass 46 = .ok (.ireturn, 1) := by decide +kernel
theorem dX5_night_0 : decode cX5_night 0 = .ok (.aload_n 0, 1) := by decide +kernel
theorem dX5_night_1 : decode cX5_night 1 = .ok (.getfield 174, 3) := by decide +kernel
theorem dX5_night_4 : decode cX5_night 4 = .ok (.ireturn, 1) := by decide +kernel
theorem dX5_light_0 : decode cX5_light 0 = .ok (.aload_n 0, 1) := by decide +kernel
theorem dX5_light_1 : decode cX5_light 1 = .ok (.invokevirtual 76, 3) := by decide +kernel
theorem dX5_light_4 : decode cX5_light 4 = .ok (.ireturn, 1) := by decide +kernel
theorem dX5_digest_0 : decode cX5_digest 0 = .ok (.aload_n 0, 1) := by decide +kernel
theorem dX5_digest_1 : decode cX5_digest 1 = .ok (.invokevirtual 189, 3) := by decide +kernel
theorem dX5_digest_4 : decode cX5_digest 4 = .ok (.ldc2_w 216, 3) := by decide +kernel
theorem dX5_digest_7 : decode cX5_digest 7 = .ok (.lstore_n 1, 1) := by decide +kernel
theorem dX5_digest_8 : decode cX5_digest 8 = .ok (.lload_n 1, 1) := by decide +kernel
theorem dX5_digest_9 : decode cX5_digest 9 = .ok (.aload_n 0, 1) := by decide +kernel
theorem dX5_digest_10 : decode cX5_digest 10 = .ok (.getfield 174, 3) := by decide +kernel
theorem dX5_digest_13 : decode cX5_digest 13 = .ok (.invokestatic 218, 3) := by decide +kernel
theorem dX5_digest_16 : decode cX5_digest 16 = .ok (.lstore_n 1, 1) := by decide +kernel
theorem dX5_digest_17 : decode cX5_digest 17 = .ok (.lload_n 1, 1) := by decide +kernel
theorem dX5_digest_18 : decode cX5_digest 18 = .ok (.aload_n 0, 1) := by decide +kernel
theorem dX5_digest_19 : decode cX5_digest 19 = .ok (.getfield 23, 3) := by decide +kernel
theorem dX5_digest_22 : decode cX5_digest 22 = .ok (.invokestatic 218, 3) := by decide +kernel
theorem dX5_digest_25 : decode cX5_digest 25 = .ok (.lstore_n 1, 1) := by decide +kernel
theorem dX5_digest_26 : decode cX5_digest 26 = .ok (.lload_n 1, 1) := by decide +kernel
theorem dX5_digest_27 : decode cX5_digest 27 = .ok (.aload_n 0, 1) := by decide +kernel
theorem dX5_digest_28 : decode cX5_digest 28 = .ok (.getfield 14, 3) := by decide +kernel
theorem dX5_digest_31 : decode cX5_digest 31 = .ok (.getfield 59, 3) := by decide +kernel
theorem dX5_digest_34 : decode cX5_digest 34 = .ok (.invokestatic 218, 3) := by decide +kernel
theorem dX5_digest_37 : decode cX5_digest 37 = .ok (.lstore_n 1, 1) := by decide +kernel
theorem dX5_digest_38 : decode cX5_digest 38 = .ok (.lload_n 1, 1) := by decide +kernel
theorem dX5_digest_39 : decode cX5_digest 39 = .ok (.aload_n 0, 1) := by decide +kernel
theorem dX5_digest_40 : decode cX5_digest 40 = .ok (.getfield 14, 3) := by decide +kernel
theorem dX5_digest_43 : decode cX5_digest 43 = .ok (.getfield 222, 3) := by decide +kernel
theorem dX5_digest_46 : decode cX5_digest 46 = .ok (.invokestatic 218, 3) := by decide +kernel
theorem dX5_digest_49 : decode cX5_digest 49 = .ok (.lstore_n 1, 1) := by decide +kernel
theorem dX5_digest_50 : decode cX5_digest 50 = .ok (.lload_n 1, 1) := by decide +kernel
theorem dX5_digest_51 : decode cX5_digest 51 = .ok (.aload_n 0, 1) := by decide +kernel
theorem dX5_digest_52 : decode cX5_digest 52 = .ok (.getfield 20, 3) := by decide +kernel
theorem dX5_digest_55 : decode cX5_digest 55 = .ok (.getfield 222, 3) := by decide +kernel
theorem dX5_digest_58 : decode cX5_digest 58 = .ok (.invokestatic 218, 3) := by decide +kernel
theorem dX5_digest_61 : decode cX5_digest 61 = .ok (.lstore_n 1, 1) := by decide +kernel
theorem dX5_digest_62 : decode cX5_digest 62 = .ok (.lload_n 1, 1) := by decide +kernel
theorem dX5_digest_63 : decode cX5_digest 63 = .ok (.aload_n 0, 1) := by decide +kernel
theorem dX5_digest_64 : decode cX5_digest 64 = .ok (.getfield 20, 3) := by decide +kernel
theorem dX5_digest_67 : decode cX5_digest 67 = .ok (.getfield 59, 3) := by decide +kernel
theorem dX5_digest_70 : decode cX5_digest 70 = .ok (.invokestatic 218, 3) := by decide +kernel
theorem dX5_digest_73 : decode cX5_digest 73 = .ok (.lstore_n 1, 1) := by decide +kernel
theorem dX5_digest_74 : decode cX5_digest 74 = .ok (.lload_n 1, 1) := by decide +kernel
theorem dX5_digest_75 : decode cX5_digest 75 = .ok (.aload_n 0, 1) := by decide +kernel
theorem dX5_digest_76 : decode cX5_digest 76 = .ok (.getfield 73, 3) := by decide +kernel
theorem dX5_digest_79 : decode cX5_digest 79 = .ok (.invokestatic 218, 3) := by decide +kernel
theorem dX5_digest_82 : decode cX5_digest 82 = .ok (.lstore_n 1, 1) := by decide +kernel
theorem dX5_digest_83 : decode cX5_digest 83 = .ok (.aload_n 0, 1) := by decide +kernel
theorem dX5_digest_84 : decode cX5_digest 84 = .ok (.aload_n 0, 1) := by decide +kernel
theorem dX5_digest_85 : decode cX5_digest 85 = .ok (.lload_n 1, 1) := by decide +kernel
theorem dX5_digest_86 : decode cX5_digest 86 = .ok (.invokevirtual 225, 3) := by decide +kernel
theorem dX5_digest_89 : decode cX5_digest 89 = .ok (.invokevirtual 229, 3) := by decide +kernel
theorem dX5_digest_92 : decode cX5_digest 92 = .ok (.lreturn, 1) := by decide +kernel
theorem dX5_isWithin_0 : decode cX5_isWithin 0 = .ok (.iload_n 0, 1) := by decide +kernel
theorem dX5_isWithin_1 : decode cX5_isWithin 1 = .ok (.iload_n 1, 1) := by decide +kernel
theorem dX5_isWithin_2 : decode cX5_isWithin 2 = .ok (.if_icmp .lt 12, 3) := by decide +kernel
theorem dX5_isWithin_5 : decode cX5_isWithin 5 = .ok (.iload_n 0, 1) := by decide +kernel
theorem dX5_isWithin_6 : decode cX5_isWithin 6 = .ok (.iload_n 2, 1) := by decide +kernel
theorem dX5_isWithin_7 : decode cX5_isWithin 7 = .ok (.if_icmp .gt 7, 3) := by decide +kernel
theorem dX5_isWithin_10 : decode cX5_isWithin 10 = .ok (.iconst 1, 1) := by decide +kernel
theorem dX5_isWithin_11 : decode cX5_isWithin 11 = .ok (.goto 4, 3) := by decide +kernel
theorem dX5_isWithin_14 : decode cX5_isWithin 14 = .ok (.iconst 0, 1) := by decide +kernel
theorem dX5_isWithin_15 : decode cX5_isWithin 15 = .ok (.ireturn, 1) := by decide +kernel
theorem dX5_isPoint_0 : decode cX5_isPoint 0 = .ok (.iload_n 0, 1) := by decide +kernel
theorem dX5_isPoint_1 : decode cX5_isPoint 1 = .ok (.iconst 0, 1) := by decide +kernel
theorem dX5_isPoint_2 : decode cX5_isPoint 2 = .ok (.sipush 1439, 3) := by decide +kernel
theorem dX5_isPoint_5 : decode cX5_isPoint 5 = .ok (.invokestatic 48, 3) := by decide +kernel
theorem dX5_isPoint_8 : decode cX5_isPoint 8 = .ok (.ifCond .eq 18, 3) := by decide +kernel
theorem dX5_isPoint_11 : decode cX5_isPoint 11 = .ok (.iload_n 1, 1) := by decide +kernel
theorem dX5_isPoint_12 : decode cX5_isPoint 12 = .ok (.bipush (-90), 2) := by decide +kernel
theorem dX5_isPoint_14 : decode cX5_isPoint 14 = .ok (.bipush 90, 2) := by decide +kernel
theorem dX5_isPoint_16 : decode cX5_isPoint 16 = .ok (.invokestatic 48, 3) := by decide +kernel
theorem dX5_isPoint_19 : decode cX5_isPoint 19 = .ok (.ifCond .eq 7, 3) := by decide +kernel
theorem dX5_isPoint_22 : decode cX5_isPoint 22 = .ok (.iconst 1, 1) := by decide +kernel
theorem dX5_isPoint_23 : decode cX5_isPoint 23 = .ok (.goto 4, 3) := by decide +kernel
theorem dX5_isPoint_26 : decode cX5_isPoint 26 = .ok (.iconst 0, 1) := by decide +kernel
theorem dX5_isPoint_27 : decode cX5_isPoint 27 = .ok (.ireturn, 1) := by decide +kernel
theorem dX5_findTarget_0 : decode cX5_findTarget 0 = .ok (.iload_n 1, 1) := by decide +kernel
theorem dX5_findTarget_1 : decode cX5_findTarget 1 = .ok (.ifCond .lt 14, 3) := by decide +kernel
theorem dX5_findTarget_4 : decode cX5_findTarget 4 = .ok (.iload_n 1, 1) := by decide +kernel
theorem dX5_findTarget_5 : decode cX5_findTarget 5 = .ok (.aload_n 0, 1) := by decide +kernel
theorem dX5_findTarget_6 : decode cX5_findTarget 6 = .ok (.getfield 37, 3) := by decide +kernel
theorem dX5_findTarget_9 : decode cX5_findTarget 9 = .ok (.invokevirtual 104, 3) := by decide +kernel
theorem dX5_findTarget_12 : decode cX5_findTarget 12 = .ok (.if_icmp .lt 13, 3) := by decide +kernel
theorem dX5_findTarget_15 : decode cX5_findTarget 15 = .ok (.new 194, 3) := by decide +kernel
theorem dX5_findTarget_18 : decode cX5_findTarget 18 = .ok (.dup, 1) := by decide +kernel
theorem dX5_findTarget_19 : decode cX5_findTarget 19 = .ok (.ldc 232, 2) := by decide +kernel
theorem dX5_findTarget_21 : decode cX5_findTarget 21 = .ok (.invokespecial 198, 3) := by decide +kernel
theorem dX5_findTarget_24 : decode cX5_findTarget 24 = .ok (.athrow, 1) := by decide +kernel
theorem dX5_findTarget_25 : decode cX5_findTarget 25 = .ok (.aload_n 0, 1) := by decide +kernel
theorem dX5_findTarget_26 : decode cX5_findTarget 26 = .ok (.getfield 37, 3) := by decide +kernel
theorem dX5_findTarget_29 : decode cX5_findTarget 29 = .ok (.iload_n 1, 1) := by decide +kernel
theorem dX5_findTarget_30 : decode cX5_findTarget 30 = .ok (.invokevirtual 181, 3) := by decide +kernel
theorem dX5_findTarget_33 : decode cX5_findTarget 33 = .ok (.checkcast 109, 3) := by decide +kernel
theorem dX5_findTarget_36 : decode cX5_findTarget 36 = .ok (.areturn, 1) := by decide +kernel
theorem dX5_checkMinute_0 : decode cX5_checkMinute 0 = .ok (.iload_n 1, 1) := by decide +kernel
theorem dX5_checkMinute_1 : decode cX5_checkMinute 1 = .ok (.iconst 0, 1) := by decide +kernel
theorem dX5_checkMinute_2 : decode cX5_checkMinute 2 = .ok (.aload_n 0, 1) := by decide +kernel
theorem dX5_checkMinute_3 : decode cX5_checkMinute 3 = .ok (.getfield 23, 3) := by decide +kernel
theorem dX5_checkMinute_6 : decode cX5_checkMinute 6 = .ok (.iconst 1, 1) := by decide +kernel
theorem dX5_checkMinute_7 : decode cX5_checkMinute 7 = .ok (.isub, 1) := by decide +kernel
theorem dX5_checkMinute_8 : decode cX5_checkMinute 8 = .ok (.invokestatic 48, 3) := by decide +kernel
theorem dX5_checkMinute_11 : decode cX5_checkMinute 11 = .ok (.ifCond .ne 13, 3) := by decide +kernel
theorem dX5_checkMinute_14 : decode cX5_checkMinute 14 = .ok (.new 52, 3) := by decide +kernel
theorem dX5_checkMinute_17 : decode cX5_checkMinute 17 = .ok (.dup, 1) := by decide +kernel
theorem dX5_checkMinute_18 : decode cX5_checkMinute 18 = .ok (.ldc 234, 2) := by decide +kernel
theorem dX5_checkMinute_20 : decode cX5_checkMinute 20 = .ok (.invokespecial 56, 3) := by decide +kernel
theorem dX5_checkMinute_23 : decode cX5_checkMinute 23 = .ok (.athrow, 1) := by decide +kernel
theorem dX5_checkMinute_24 : decode cX5_checkMinute 24 = .ok (.return_, 1) := by decide +kernel
theorem dX5_checkWhat_0 : decode cX5_checkWhat 0 = .ok (.iload_n 0, 1) := by decide +kernel
theorem dX5_checkWhat_1 : decode cX5_checkWhat 1 = .ok (.ifCond .lt 8, 3) := by decide +kernel
theorem dX5_checkWhat_4 : decode cX5_checkWhat 4 = .ok (.iload_n 0, 1) := by decide +kernel
theorem dX5_checkWhat_5 : decode cX5_checkWhat 5 = .ok (.iload_n 1, 1) := by decide +kernel
theorem dX5_checkWhat_6 : decode cX5_checkWhat 6 = .ok (.if_icmp .lt 13, 3) := by decide +kernel
theorem dX5_checkWhat_9 : decode cX5_checkWhat 9 = .ok (.new 194, 3) := by decide +kernel
theorem dX5_checkWhat_12 : decode cX5_checkWhat 12 = .ok (.dup, 1) := by decide +kernel
theorem dX5_checkWhat_13 : decode cX5_checkWhat 13 = .ok (.ldc 236, 2) := by decide +kernel
theorem dX5_checkWhat_15 : decode cX5_checkWhat 15 = .ok (.invokespecial 198, 3) := by decide +kernel
theorem dX5_checkWhat_18 : decode cX5_checkWhat 18 = .ok (.athrow, 1) := by decide +kernel
theorem dX5_checkWhat_19 : decode cX5_checkWhat 19 = .ok (.return_, 1) := by decide +kernel
theorem dX5_sineOf_0 : decode cX5_sineOf 0 = .ok (.iload_n 0, 1) := by decide +kernel
theorem dX5_sineOf_1 : decode cX5_sineOf 1 = .ok (.sipush 360, 3) := by decide +kernel
theorem dX5_sineOf_4 : decode cX5_sineOf 4 = .ok (.irem, 1) := by decide +kernel
theorem dX5_sineOf_5 : decode cX5_sineOf 5 = .ok (.sipush 360, 3) := by decide +kernel
theorem dX5_sineOf_8 : decode cX5_sineOf 8 = .ok (.iadd, 1) := by decide +kernel
theorem dX5_sineOf_9 : decode cX5_sineOf 9 = .ok (.sipush 360, 3) := by decide +kernel
theorem dX5_sineOf_12 : decode cX5_sineOf 12 = .ok (.irem, 1) := by decide +kernel
theorem dX5_sineOf_13 : decode cX5_sineOf 13 = .ok (.istore_n 1, 1) := by decide +kernel
theorem dX5_sineOf_14 : decode cX5_sineOf 14 = .ok (.iload_n 1, 1) := by decide +kernel
theorem dX5_sineOf_15 : decode cX5_sineOf 15 = .ok (.sipush 180, 3) := by decide +kernel
theorem dX5_sineOf_18 : decode cX5_sineOf 18 = .ok (.irem, 1) := by decide +kernel
theorem dX5_sineOf_19 : decode cX5_sineOf 19 = .ok (.istore_n 2, 1) := by decide +kernel
theorem dX5_sineOf_20 : decode cX5_sineOf 20 = .ok (.iload_n 2, 1) := by decide +kernel
theorem dX5_sineOf_21 : decode cX5_sineOf 21 = .ok (.sipush 180, 3) := by decide +kernel
theorem dX5_sineOf_24 : decode cX5_sineOf 24 = .ok (.iload_n 2, 1) := by decide +kernel
theorem dX5_sineOf_25 : decode cX5_sineOf 25 = .ok (.isub, 1) := by decide +kernel
theorem dX5_sineOf_26 : decode cX5_sineOf 26 = .ok (.imul, 1) := by decide +kernel
theorem dX5_sineOf_27 : decode cX5_sineOf 27 = .ok (.istore_n 3, 1) := by decide +kernel
theorem dX5_sineOf_28 : decode cX5_sineOf 28 = .ok (.ldc 238, 2) := by decide +kernel
theorem dX5_sineOf_30 : decode cX5_sineOf 30 = .ok (.iload_n 3, 1) := by decide +kernel
theorem dX5_sineOf_31 : decode cX5_sineOf 31 = .ok (.isub, 1) := by decide +kernel
theorem dX5_sineOf_32 : decode cX5_sineOf 32 = .ok (.istore 4, 2) := by decide +kernel
theorem dX5_sineOf_34 : decode cX5_sineOf 34 = .ok (.iload 4, 2) := by decide +kernel
theorem dX5_sineOf_36 : decode cX5_sineOf 36 = .ok (.ifCond .le 14, 3) := by decide +kernel
theorem dX5_sineOf_39 : decode cX5_sineOf 39 = .ok (.sipush 4000, 3) := by decide +kernel
theorem dX5_sineOf_42 : decode cX5_sineOf 42 = .ok (.iload_n 3, 1) := by decide +kernel
theorem dX5_sineOf_43 : decode cX5_sineOf 43 = .ok (.imul, 1) := by decide +kernel
theorem dX5_sineOf_44 : decode cX5_sineOf 44 = .ok (.iload 4, 2) := by decide +kernel
theorem dX5_sineOf_46 : decode cX5_sineOf 46 = .ok (.idiv, 1) := by decide +kernel
theorem dX5_sineOf_47 : decode cX5_sineOf 47 = .ok (.goto 4, 3) := by decide +kernel
theorem dX5_sineOf_50 : decode cX5_sineOf 50 = .ok (.iconst 0, 1) := by decide +kernel
theorem dX5_sineOf_51 : decode cX5_sineOf 51 = .ok (.istore 5, 2) := by decide +kernel
theorem dX5_sineOf_53 : decode cX5_sineOf 53 = .ok (.iload_n 1, 1) := by decide +kernel
theorem dX5_sineOf_54 : decode cX5_sineOf 54 = .ok (.sipush 180, 3) := by decide +kernel
theorem dX5_sineOf_57 : decode cX5_sineOf 57 = .ok (.if_icmp .ge 8, 3) := by decide +kernel
theorem dX5_sineOf_60 : decode cX5_sineOf 60 = .ok (.iload 5, 2) := by decide +kernel
theorem dX5_sineOf_62 : decode cX5_sineOf 62 = .ok (.goto 6, 3) := by decide +kernel
theorem dX5_sineOf_65 : decode cX5_sineOf 65 = .ok (.iload 5, 2) := by decide +kernel
theorem dX5_sineOf_67 : decode cX5_sineOf 67 = .ok (.ineg, 1) := by decide +kernel
theorem dX5_sineOf_68 : decode cX5_sineOf 68 = .ok (.ireturn, 1) := by decide +kernel
theorem dX5_closeness_0 : decode cX5_closeness 0 = .ok (.aload_n 0, 1) := by decide +kernel
theorem dX5_closeness_1 : decode cX5_closeness 1 = .ok (.getfield 239, 3) := by decide +kernel
theorem dX5_closeness_4 : decode cX5_closeness 4 = .ok (.aload_n 1, 1) := by decide +kernel
theorem dX5_closeness_5 : decode cX5_closeness 5 = .ok (.getfield 239, 3) := by decide +kernel
theorem dX5_closeness_8 : decode cX5_closeness 8 = .ok (.imul, 1) := by decide +kernel
theorem dX5_closeness_9 : decode cX5_closeness 9 = .ok (.aload_n 0, 1) := by decide +kernel
theorem dX5_closeness_10 : decode cX5_closeness 10 = .ok (.getfield 242, 3) := by decide +kernel
theorem dX5_closeness_13 : decode cX5_closeness 13 = .ok (.aload_n 1, 1) := by decide +kernel
theorem dX5_closeness_14 : decode cX5_closeness 14 = .ok (.getfield 242, 3) := by decide +kernel
theorem dX5_closeness_17 : decode cX5_closeness 17 = .ok (.imul, 1) := by decide +kernel
theorem dX5_closeness_18 : decode cX5_closeness 18 = .ok (.sipush 1000, 3) := by decide +kernel
theorem dX5_closeness_21 : decode cX5_closeness 21 = .ok (.idiv, 1) := by decide +kernel
theorem dX5_closeness_22 : decode cX5_closeness 22 = .ok (.iload_n 2, 1) := by decide +kernel
theorem dX5_closeness_23 : decode cX5_closeness 23 = .ok (.imul, 1) := by decide +kernel
theorem dX5_closeness_24 : decode cX5_closeness 24 = .ok (.iadd, 1) := by decide +kernel
theorem dX5_closeness_25 : decode cX5_closeness 25 = .ok (.sipush 1000, 3) := by decide +kernel
theorem dX5_closeness_28 : decode cX5_closeness 28 = .ok (.idiv, 1) := by decide +kernel
theorem dX5_closeness_29 : decode cX5_closeness 29 = .ok (.ireturn, 1) := by decide +kernel
theorem dX5_nearnessOf_0 : decode cX5_nearnessOf 0 = .ok (.aload_n 0, 1) := by decide +kernel
theorem dX5_nearnessOf_1 : decode cX5_nearnessOf 1 = .ok (.getfield 222, 3) := by decide +kernel
theorem dX5_nearnessOf_4 : decode cX5_nearnessOf 4 = .ok (.aload_n 1, 1) := by decide +kernel
theorem dX5_nearnessOf_5 : decode cX5_nearnessOf 5 = .ok (.getfield 222, 3) := by decide +kernel
theorem dX5_nearnessOf_8 : decode cX5_nearnessOf 8 = .ok (.isub, 1) := by decide +kernel
theorem dX5_nearnessOf_9 : decode cX5_nearnessOf 9 = .ok (.invokestatic 245, 3) := by decide +kernel
theorem dX5_nearnessOf_12 : decode cX5_nearnessOf 12 = .ok (.iconst 4, 1) := by decide +kernel
theorem dX5_nearnessOf_13 : decode cX5_nearnessOf 13 = .ok (.idiv, 1) := by decide +kernel
theorem dX5_nearnessOf_14 : decode cX5_nearnessOf 14 = .ok (.istore_n 2, 1) := by decide +kernel
theorem dX5_nearnessOf_15 : decode cX5_nearnessOf 15 = .ok (.aload_n 0, 1) := by decide +kernel
theorem dX5_nearnessOf_16 : decode cX5_nearnessOf 16 = .ok (.aload_n 1, 1) := by decide +kernel
theorem dX5_nearnessOf_17 : decode cX5_nearnessOf 17 = .ok (.iload_n 2, 1) := by decide +kernel
theorem dX5_nearnessOf_18 : decode cX5_nearnessOf 18 = .ok (.bipush 90, 2) := by decide +kernel
theorem dX5_nearnessOf_20 : decode cX5_nearnessOf 20 = .ok (.iadd, 1) := by decide +kernel
theorem dX5_nearnessOf_21 : decode cX5_nearnessOf 21 = .ok (.invokestatic 98, 3) := by decide +kernel
theorem dX5_nearnessOf_24 : decode cX5_nearnessOf 24 = .ok (.invokestatic 250, 3) := by decide +kernel
theorem dX5_nearnessOf_27 : decode cX5_nearnessOf 27 = .ok (.ireturn, 1) := by decide +kernel
theorem dX5_heightOf_0 : decode cX5_heightOf 0 = .ok (.aload_n 0, 1) := by decide +kernel
theorem dX5_heightOf_1 : decode cX5_heightOf 1 = .ok (.getfield 14, 3) := by decide +kernel
theorem dX5_heightOf_4 : decode cX5_heightOf 4 = .ok (.getfield 222, 3) := by decide +kernel
theorem dX5_heightOf_7 : decode cX5_heightOf 7 = .ok (.iconst 4, 1) := by decide +kernel
theorem dX5_heightOf_8 : decode cX5_heightOf 8 = .ok (.aload_n 0, 1) := by decide +kernel
theorem dX5_heightOf_9 : decode cX5_heightOf 9 = .ok (.getfield 174, 3) := by decide +kernel
theorem dX5_heightOf_12 : decode cX5_heightOf 12 = .ok (.imul, 1) := by decide +kernel
theorem dX5_heightOf_13 : decode cX5_heightOf 13 = .ok (.iadd, 1) := by decide +kernel
theorem dX5_heightOf_14 : decode cX5_heightOf 14 = .ok (.iload_n 2, 1) := by decide +kernel
theorem dX5_heightOf_15 : decode cX5_heightOf 15 = .ok (.iadd, 1) := by decide +kernel
theorem dX5_heightOf_16 : decode cX5_heightOf 16 = .ok (.sipush 1440, 3) := by decide +kernel
theorem dX5_heightOf_19 : decode cX5_heightOf 19 = .ok (.irem, 1) := by decide +kernel
theorem dX5_heightOf_20 : decode cX5_heightOf 20 = .ok (.istore_n 3, 1) := by decide +kernel
theorem dX5_heightOf_21 : decode cX5_heightOf 21 = .ok (.iload_n 3, 1) := by decide +kernel
theorem dX5_heightOf_22 : decode cX5_heightOf 22 = .ok (.aload_n 1, 1) := by decide +kernel
theorem dX5_heightOf_23 : decode cX5_heightOf 23 = .ok (.getfield 222, 3) := by decide +kernel
theorem dX5_heightOf_26 : decode cX5_heightOf 26 = .ok (.isub, 1) := by decide +kernel
theorem dX5_heightOf_27 : decode cX5_heightOf 27 = .ok (.sipush 1440, 3) := by decide +kernel
theorem dX5_heightOf_30 : decode cX5_heightOf 30 = .ok (.iadd, 1) := by decide +kernel
theorem dX5_heightOf_31 : decode cX5_heightOf 31 = .ok (.sipush 1440, 3) := by decide +kernel
theorem dX5_heightOf_34 : decode cX5_heightOf 34 = .ok (.irem, 1) := by decide +kernel
theorem dX5_heightOf_35 : decode cX5_heightOf 35 = .ok (.iconst 4, 1) := by decide +kernel
theorem dX5_heightOf_36 : decode cX5_heightOf 36 = .ok (.idiv, 1) := by decide +kernel
theorem dX5_heightOf_37 : decode cX5_heightOf 37 = .ok (.istore 4, 2) := by decide +kernel
theorem dX5_heightOf_39 : decode cX5_heightOf 39 = .ok (.aload_n 0, 1) := by decide +kernel
theorem dX5_heightOf_40 : decode cX5_heightOf 40 = .ok (.getfield 14, 3) := by decide +kernel
theorem dX5_heightOf_43 : decode cX5_heightOf 43 = .ok (.aload_n 1, 1) := by decide +kernel
theorem dX5_heightOf_44 : decode cX5_heightOf 44 = .ok (.iload 4, 2) := by decide +kernel
theorem dX5_heightOf_46 : decode cX5_heightOf 46 = .ok (.bipush 90, 2) := by decide +kernel
theorem dX5_heightOf_48 : decode cX5_heightOf 48 = .ok (.iadd, 1) := by decide +kernel
theorem dX5_heightOf_49 : decode cX5_heightOf 49 = .ok (.invokestatic 98, 3) := by decide +kernel
theorem dX5_heightOf_52 : decode cX5_heightOf 52 = .ok (.invokestatic 250, 3) := by decide +kernel
theorem dX5_heightOf_55 : decode cX5_heightOf 55 = .ok (.ireturn, 1) := by decide +kernel
theorem dX5_moonLight_0 : decode cX5_moonLight 0 = .ok (.bipush 100, 2) := by decide +kernel
theorem dX5_moonLight_2 : decode cX5_moonLight 2 = .ok (.bipush 100, 2) := by decide +kernel
theorem dX5_moonLight_4 : decode cX5_moonLight 4 = .ok (.aload_n 0, 1) := by decide +kernel
theorem dX5_moonLight_5 : decode cX5_moonLight 5 = .ok (.getfield 73, 3) := by decide +kernel
theorem dX5_moonLight_8 : decode cX5_moonLight 8 = .ok (.bipush 15, 2) := by decide +kernel
theorem dX5_moonLight_10 : decode cX5_moonLight 10 = .ok (.isub, 1) := by decide +kernel
theorem dX5_moonLight_11 : decode cX5_moonLight 11 = .ok (.invokestatic 245, 3) := by decide +kernel
theorem dX5_moonLight_14 : decode cX5_moonLight 14 = .ok (.imul, 1) := by decide +kernel
theorem dX5_moonLight_15 : decode cX5_moonLight 15 = .ok (.bipush 15, 2) := by decide +kernel
theorem dX5_moonLight_17 : decode cX5_moonLight 17 = .ok (.idiv, 1) := by decide +kernel
theorem dX5_moonLight_18 : decode cX5_moonLight 18 = .ok (.isub, 1) := by decide +kernel
theorem dX5_moonLight_19 : decode cX5_moonLight 19 = .ok (.ireturn, 1) := by decide +kernel
theorem dX5_clearMinutes_0 : decode cX5_clearMinutes 0 = .ok (.iconst 0, 1) := by decide +kernel
theorem dX5_clearMinutes_1 : decode cX5_clearMinutes 1 = .ok (.istore_n 1, 1) := by decide +kernel
theorem dX5_clearMinutes_2 : decode cX5_clearMinutes 2 = .ok (.iconst 0, 1) := by decide +kernel
theorem dX5_clearMinutes_3 : decode cX5_clearMinutes 3 = .ok (.istore_n 2, 1) := by decide +kernel
theorem dX5_clearMinutes_4 : decode cX5_clearMinutes 4 = .ok (.iload_n 2, 1) := by decide +kernel
theorem dX5_clearMinutes_5 : decode cX5_clearMinutes 5 = .ok (.aload_n 0, 1) := by decide +kernel
theorem dX5_clearMinutes_6 : decode cX5_clearMinutes 6 = .ok (.getfield 23, 3) := by decide +kernel
theorem dX5_clearMinutes_9 : decode cX5_clearMinutes 9 = .ok (.if_icmp .ge 28, 3) := by decide +kernel
theorem dX5_clearMinutes_12 : decode cX5_clearMinutes 12 = .ok (.iload_n 1, 1) := by decide +kernel
theorem dX5_clearMinutes_13 : decode cX5_clearMinutes 13 = .ok (.aload_n 0, 1) := by decide +kernel
theorem dX5_clearMinutes_14 : decode cX5_clearMinutes 14 = .ok (.getfield 30, 3) := by decide +kernel
theorem dX5_clearMinutes_17 : decode cX5_clearMinutes 17 = .ok (.iload_n 2, 1) := by decide +kernel
theorem dX5_clearMinutes_18 : decode cX5_clearMinutes 18 = .ok (.invokevirtual 254, 3) := by decide +kernel
theorem dX5_clearMinutes_21 : decode cX5_clearMinutes 21 = .ok (.ifCond .eq 7, 3) := by decide +kernel
theorem dX5_clearMinutes_24 : decode cX5_clearMinutes 24 = .ok (.iconst 0, 1) := by decide +kernel
theorem dX5_clearMinutes_25 : decode cX5_clearMinutes 25 = .ok (.goto 4, 3) := by decide +kernel
theorem dX5_clearMinutes_28 : decode cX5_clearMinutes 28 = .ok (.iconst 1, 1) := by decide +kernel
theorem dX5_clearMinutes_29 : decode cX5_clearMinutes 29 = .ok (.iadd, 1) := by decide +kernel
theorem dX5_clearMinutes_30 : decode cX5_clearMinutes 30 = .ok (.istore_n 1, 1) := by decide +kernel
theorem dX5_clearMinutes_31 : decode cX5_clearMinutes 31 = .ok (.iinc 2 1, 3) := by decide +kernel
theorem dX5_clearMinutes_34 : decode cX5_clearMinutes 34 = .ok (.goto (-30), 3) := by decide +kernel
theorem dX5_clearMinutes_37 : decode cX5_clearMinutes 37 = .ok (.iload_n 1, 1) := by decide +kernel
theorem dX5_clearMinutes_38 : decode cX5_clearMinutes 38 = .ok (.ireturn, 1) := by decide +kernel
theorem dX5_reasonAgainst_0 : decode cX5_reasonAgainst 0 = .ok (.aload_n 0, 1) := by decide +kernel
theorem dX5_reasonAgainst_1 : decode cX5_reasonAgainst 1 = .ok (.getfield 30, 3) := by decide +kernel
theorem dX5_reasonAgainst_4 : decode cX5_reasonAgainst 4 = .ok (.iload_n 2, 1) := by decide +kernel
theorem dX5_reasonAgainst_5 : decode cX5_reasonAgainst 5 = .ok (.invokevirtual 254, 3) := by decide +kernel
theorem dX5_reasonAgainst_8 : decode cX5_reasonAgainst 8 = .ok (.ifCond .eq 5, 3) := by decide +kernel
theorem dX5_reasonAgainst_11 : decode cX5_reasonAgainst 11 = .ok (.iconst 1, 1) := by decide +kernel
theorem dX5_reasonAgainst_12 : decode cX5_reasonAgainst 12 = .ok (.ireturn, 1) := by decide +kernel
theorem dX5_reasonAgainst_13 : decode cX5_reasonAgainst 13 = .ok (.iload_n 3, 1) := by decide +kernel
theorem dX5_reasonAgainst_14 : decode cX5_reasonAgainst 14 = .ok (.aload_n 1, 1) := by decide +kernel
theorem dX5_reasonAgainst_15 : decode cX5_reasonAgainst 15 = .ok (.getfield 131, 3) := by decide +kernel
theorem dX5_reasonAgainst_18 : decode cX5_reasonAgainst 18 = .ok (.if_icmp .ge 5, 3) := by decide +kernel
theorem dX5_reasonAgainst_21 : decode cX5_reasonAgainst 21 = .ok (.iconst 2, 1) := by decide +kernel
theorem dX5_reasonAgainst_22 : decode cX5_reasonAgainst 22 = .ok (.ireturn, 1) := by decide +kernel
theorem dX5_reasonAgainst_23 : decode cX5_reasonAgainst 23 = .ok (.aload_n 1, 1) := by decide +kernel
theorem dX5_reasonAgainst_24 : decode cX5_reasonAgainst 24 = .ok (.getfield 154, 3) := by decide +kernel
theorem dX5_reasonAgainst_27 : decode cX5_reasonAgainst 27 = .ok (.aload_n 0, 1) := by decide +kernel
theorem dX5_reasonAgainst_28 : decode cX5_reasonAgainst 28 = .ok (.getfield 20, 3) := by decide +kernel
theorem dX5_reasonAgainst_31 : decode cX5_reasonAgainst 31 = .ok (.invokestatic 161, 3) := by decide +kernel
theorem dX5_reasonAgainst_34 : decode cX5_reasonAgainst 34 = .ok (.sipush 1000, 3) := by decide +kernel
theorem dX5_reasonAgainst_37 : decode cX5_reasonAgainst 37 = .ok (.iconst 5, 1) := by decide +kernel
theorem dX5_reasonAgainst_38 : decode cX5_reasonAgainst 38 = .ok (.aload_n 0, 1) := by decide +kernel
theorem dX5_reasonAgainst_39 : decode cX5_reasonAgainst 39 = .ok (.invokevirtual 76, 3) := by decide +kernel
theorem dX5_reasonAgainst_42 : decode cX5_reasonAgainst 42 = .ok (.imul, 1) := by decide +kernel
theorem dX5_reasonAgainst_43 : decode cX5_reasonAgainst 43 = .ok (.isub, 1) := by decide +kernel
theorem dX5_reasonAgainst_44 : decode cX5_reasonAgainst 44 = .ok (.if_icmp .le 7, 3) := by decide +kernel
theorem dX5_reasonAgainst_47 : decode cX5_reasonAgainst 47 = .ok (.iconst 1, 1) := by decide +kernel
theorem dX5_reasonAgainst_48 : decode cX5_reasonAgainst 48 = .ok (.goto 4, 3) := by decide +kernel
theorem dX5_reasonAgainst_51 : decode cX5_reasonAgainst 51 = .ok (.iconst 0, 1) := by decide +kernel
theorem dX5_reasonAgainst_52 : decode cX5_reasonAgainst 52 = .ok (.istore 4, 2) := by decide +kernel
theorem dX5_reasonAgainst_54 : decode cX5_reasonAgainst 54 = .ok (.iload 4, 2) := by decide +kernel
theorem dX5_reasonAgainst_56 : decode cX5_reasonAgainst 56 = .ok (.ifCond .eq 19, 3) := by decide +kernel
theorem dX5_reasonAgainst_59 : decode cX5_reasonAgainst 59 = .ok (.aload_n 0, 1) := by decide +kernel
theorem dX5_reasonAgainst_60 : decode cX5_reasonAgainst 60 = .ok (.aload_n 0, 1) := by decide +kernel
theorem dX5_reasonAgainst_61 : decode cX5_reasonAgainst 61 = .ok (.getfield 20, 3) := by decide +kernel
theorem dX5_reasonAgainst_64 : decode cX5_reasonAgainst 64 = .ok (.iload_n 2, 1) := by decide +kernel
theorem dX5_reasonAgainst_65 : decode cX5_reasonAgainst 65 = .ok (.invokevirtual 157, 3) := by decide +kernel
theorem dX5_reasonAgainst_68 : decode cX5_reasonAgainst 68 = .ok (.ifCond .le 7, 3) := by decide +kernel
theorem dX5_reasonAgainst_71 : decode cX5_reasonAgainst 71 = .ok (.iconst 3, 1) := by decide +kernel
theorem dX5_reasonAgainst_72 : decode cX5_reasonAgainst 72 = .ok (.goto 4, 3) := by decide +kernel
theorem dX5_reasonAgainst_75 : decode cX5_reasonAgainst 75 = .ok (.iconst 0, 1) := by decide +kernel
theorem dX5_reasonAgainst_76 : decode cX5_reasonAgainst 76 = .ok (.ireturn, 1) := by decide +kernel
theorem dX5_survey_0 : decode cX5_survey 0 = .ok (.aload_n 1, 1) := by decide +kernel
theorem dX5_survey_1 : decode cX5_survey 1 = .ok (.getfield 137, 3) := by decide +kernel
theorem dX5_survey_4 : decode cX5_survey 4 = .ok (.getfield 141, 3) := by decide +kernel
theorem dX5_survey_7 : decode cX5_survey 7 = .ok (.ifCond .eq 4, 3) := by decide +kernel
theorem dX5_survey_10 : decode cX5_survey 10 = .ok (.return_, 1) := by decide +kernel
theorem dX5_survey_11 : decode cX5_survey 11 = .ok (.aload_n 1, 1) := by decide +kernel
theorem dX5_survey_12 : decode cX5_survey 12 = .ok (.getfield 137, 3) := by decide +kernel
theorem dX5_survey_15 : decode cX5_survey 15 = .ok (.invokevirtual 257, 3) := by decide +kernel
theorem dX5_survey_18 : decode cX5_survey 18 = .ok (.iconst 0, 1) := by decide +kernel
theorem dX5_survey_19 : decode cX5_survey 19 = .ok (.istore_n 2, 1) := by decide +kernel
theorem dX5_survey_20 : decode cX5_survey 20 = .ok (.aload_n 0, 1) := by decide +kernel
theorem dX5_survey_21 : decode cX5_survey 21 = .ok (.getfield 23, 3) := by decide +kernel
theorem dX5_survey_24 : decode cX5_survey 24 = .ok (.iconst 1, 1) := by decide +kernel
theorem dX5_survey_25 : decode cX5_survey 25 = .ok (.isub, 1) := by decide +kernel
theorem dX5_survey_26 : decode cX5_survey 26 = .ok (.istore_n 3, 1) := by decide +kernel
theorem dX5_survey_27 : decode cX5_survey 27 = .ok (.iload_n 3, 1) := by decide +kernel
theorem dX5_survey_28 : decode cX5_survey 28 = .ok (.ifCond .lt 62, 3) := by decide +kernel
theorem dX5_survey_31 : decode cX5_survey 31 = .ok (.aload_n 0, 1) := by decide +kernel
theorem dX5_survey_32 : decode cX5_survey 32 = .ok (.aload_n 1, 1) := by decide +kernel
theorem dX5_survey_33 : decode cX5_survey 33 = .ok (.getfield 154, 3) := by decide +kernel
theorem dX5_survey_36 : decode cX5_survey 36 = .ok (.iload_n 3, 1) := by decide +kernel
theorem dX5_survey_37 : decode cX5_survey 37 = .ok (.invokevirtual 157, 3) := by decide +kernel
theorem dX5_survey_40 : decode cX5_survey 40 = .ok (.istore 4, 2) := by decide +kernel
theorem dX5_survey_42 : decode cX5_survey 42 = .ok (.aload_n 0, 1) := by decide +kernel
theorem dX5_survey_43 : decode cX5_survey 43 = .ok (.aload_n 1, 1) := by decide +kernel
theorem dX5_survey_44 : decode cX5_survey 44 = .ok (.iload_n 3, 1) := by decide +kernel
theorem dX5_survey_45 : decode cX5_survey 45 = .ok (.iload 4, 2) := by decide +kernel
theorem dX5_survey_47 : decode cX5_survey 47 = .ok (.invokevirtual 165, 3) := by decide +kernel
theorem dX5_survey_50 : decode cX5_survey 50 = .ok (.ifCond .ne 9, 3) := by decide +kernel
theorem dX5_survey_53 : decode cX5_survey 53 = .ok (.iload_n 2, 1) := by decide +kernel
theorem dX5_survey_54 : decode cX5_survey 54 = .ok (.iconst 1, 1) := by decide +kernel
theorem dX5_survey_55 : decode cX5_survey 55 = .ok (.iadd, 1) := by decide +kernel
theorem dX5_survey_56 : decode cX5_survey 56 = .ok (.goto 4, 3) := by decide +kernel
theorem dX5_survey_59 : decode cX5_survey 59 = .ok (.iconst 0, 1) := by decide +kernel
theorem dX5_survey_60 : decode cX5_survey 60 = .ok (.istore_n 2, 1) := by decide +kernel
theorem dX5_survey_61 : decode cX5_survey 61 = .ok (.aload_n 1, 1) := by decide +kernel
theorem dX5_survey_62 : decode cX5_survey 62 = .ok (.getfield 137, 3) := by decide +kernel
theorem dX5_survey_65 : decode cX5_survey 65 = .ok (.iload_n 3, 1) := by decide +kernel
theorem dX5_survey_66 : decode cX5_survey 66 = .ok (.iload 4, 2) := by decide +kernel
theorem dX5_survey_68 : decode cX5_survey 68 = .ok (.invokevirtual 260, 3) := by decide +kernel
theorem dX5_survey_71 : decode cX5_survey 71 = .ok (.aload_n 1, 1) := by decide +kernel
theorem dX5_survey_72 : decode cX5_survey 72 = .ok (.getfield 137, 3) := by decide +kernel
theorem dX5_survey_75 : decode cX5_survey 75 = .ok (.iload_n 3, 1) := by decide +kernel
theorem dX5_survey_76 : decode cX5_survey 76 = .ok (.iload_n 2, 1) := by decide +kernel
theorem dX5_survey_77 : decode cX5_survey 77 = .ok (.aload_n 1, 1) := by decide +kernel
theorem dX5_survey_78 : decode cX5_survey 78 = .ok (.getfield 263, 3) := by decide +kernel
theorem dX5_survey_81 : decode cX5_survey 81 = .ok (.invokevirtual 264, 3) := by decide +kernel
theorem dX5_survey_84 : decode cX5_survey 84 = .ok (.iinc 3 (-1), 3) := by decide +kernel
theorem dX5_survey_87 : decode cX5_survey 87 = .ok (.goto (-60), 3) := by decide +kernel
theorem dX5_survey_90 : decode cX5_survey 90 = .ok (.aload_n 1, 1) := by decide +kernel
theorem dX5_survey_91 : decode cX5_survey 91 = .ok (.getfield 137, 3) := by decide +kernel
theorem dX5_survey_94 : decode cX5_survey 94 = .ok (.iconst 1, 1) := by decide +kernel
theorem dX5_survey_95 : decode cX5_survey 95 = .ok (.putfield 141, 3) := by decide +kernel
theorem dX5_survey_98 : decode cX5_survey 98 = .ok (.return_, 1) := by decide +kernel
theorem dX5_share_0 : decode cX5_share 0 = .ok (.iload_n 2, 1) := by decide +kernel
theorem dX5_share_1 : decode cX5_share 1 = .ok (.tableswitch 63 0 2 #[27, 29, 46], 27) := by decide +kernel
theorem dX5_share_28 : decode cX5_share 28 = .ok (.iconst 1, 1) := by decide +kernel
theorem dX5_share_29 : decode cX5_share 29 = .ok (.ireturn, 1) := by decide +kernel
theorem dX5_share_30 : decode cX5_share 30 = .ok (.aload_n 1, 1) := by decide +kernel
theorem dX5_share_31 : decode cX5_share 31 = .ok (.aload_n 0, 1) := by decide +kernel
theorem dX5_share_32 : decode cX5_share 32 = .ok (.getfield 174, 3) := by decide +kernel
theorem dX5_share_35 : decode cX5_share 35 = .ok (.invokevirtual 177, 3) := by decide +kernel
theorem dX5_share_38 : decode cX5_share 38 = .ok (.ifCond .eq 7, 3) := by decide +kernel
theorem dX5_share_41 : decode cX5_share 41 = .ok (.iconst 1, 1) := by decide +kernel
theorem dX5_share_42 : decode cX5_share 42 = .ok (.goto 4, 3) := by decide +kernel
theorem dX5_share_45 : decode cX5_share 45 = .ok (.iconst 0, 1) := by decide +kernel
theorem dX5_share_46 : decode cX5_share 46 = .ok (.ireturn, 1) := by decide +kernel
theorem dX5_share_47 : decode cX5_share 47 = .ok (.aload_n 1, 1) := by decide +kernel
theorem dX5_share_48 : decode cX5_share 48 = .ok (.getfield 268, 3) := by decide +kernel
theorem dX5_share_51 : decode cX5_share 51 = .ok (.aload_n 1, 1) := by decide +kernel
theorem dX5_share_52 : decode cX5_share 52 = .ok (.getfield 128, 3) := by decide +kernel
theorem dX5_share_55 : decode cX5_share 55 = .ok (.if_icmp .lt 7, 3) := by decide +kernel
theorem dX5_share_58 : decode cX5_share 58 = .ok (.iconst 1, 1) := by decide +kernel
theorem dX5_share_59 : decode cX5_share 59 = .ok (.goto 4, 3) := by decide +kernel
theorem dX5_share_62 : decode cX5_share 62 = .ok (.iconst 0, 1) := by decide +kernel
theorem dX5_share_63 : decode cX5_share 63 = .ok (.ireturn, 1) := by decide +kernel
theorem dX5_share_64 : decode cX5_share 64 = .ok (.aload_n 1, 1) := by decide +kernel
theorem dX5_share_65 : decode cX5_share 65 = .ok (.getfield 268, 3) := by decide +kernel
theorem dX5_share_68 : decode cX5_share 68 = .ok (.ireturn, 1) := by decide +kernel
theorem dX5_settlePlan_0 : decode cX5_settlePlan 0 = .ok (.aload_n 0, 1) := by decide +kernel
theorem dX5_settlePlan_1 : decode cX5_settlePlan 1 = .ok (.getfield 44, 3) := by decide +kernel
theorem dX5_settlePlan_4 : decode cX5_settlePlan 4 = .ok (.getfield 118, 3) := by decide +kernel
theorem dX5_settlePlan_7 : decode cX5_settlePlan 7 = .ok (.ifCond .eq 4, 3) := by decide +kernel
theorem dX5_settlePlan_10 : decode cX5_settlePlan 10 = .ok (.return_, 1) := by decide +kernel
theorem dX5_settlePlan_11 : decode cX5_settlePlan 11 = .ok (.aload_n 0, 1) := by decide +kernel
theorem dX5_settlePlan_12 : decode cX5_settlePlan 12 = .ok (.getfield 44, 3) := by decide +kernel
theorem dX5_settlePlan_15 : decode cX5_settlePlan 15 = .ok (.invokevirtual 271, 3) := by decide +kernel
theorem dX5_settlePlan_18 : decode cX5_settlePlan 18 = .ok (.iconst 0, 1) := by decide +kernel
theorem dX5_settlePlan_19 : decode cX5_settlePlan 19 = .ok (.istore_n 1, 1) := by decide +kernel
theorem dX5_settlePlan_20 : decode cX5_settlePlan 20 = .ok (.iload_n 1, 1) := by decide +kernel
theorem dX5_settlePlan_21 : decode cX5_settlePlan 21 = .ok (.aload_n 0, 1) := by decide +kernel
theorem dX5_settlePlan_22 : decode cX5_settlePlan 22 = .ok (.getfield 37, 3) := by decide +kernel
theorem dX5_settlePlan_25 : decode cX5_settlePlan 25 = .ok (.invokevirtual 104, 3) := by decide +kernel
theorem dX5_settlePlan_28 : decode cX5_settlePlan 28 = .ok (.if_icmp .ge 31, 3) := by decide +kernel
theorem dX5_settlePlan_31 : decode cX5_settlePlan 31 = .ok (.aload_n 0, 1) := by decide +kernel
theorem dX5_settlePlan_32 : decode cX5_settlePlan 32 = .ok (.getfield 37, 3) := by decide +kernel
theorem dX5_settlePlan_35 : decode cX5_settlePlan 35 = .ok (.iload_n 1, 1) := by decide +kernel
theorem dX5_settlePlan_36 : decode cX5_settlePlan 36 = .ok (.invokevirtual 181, 3) := by decide +kernel
theorem dX5_settlePlan_39 : decode cX5_settlePlan 39 = .ok (.checkcast 109, 3) := by decide +kernel
theorem dX5_settlePlan_42 : decode cX5_settlePlan 42 = .ok (.astore_n 2, 1) := by decide +kernel
theorem dX5_settlePlan_43 : decode cX5_settlePlan 43 = .ok (.aload_n 2, 1) := by decide +kernel
theorem dX5_settlePlan_44 : decode cX5_settlePlan 44 = .ok (.iconst 0, 1) := by decide +kernel
theorem dX5_settlePlan_45 : decode cX5_settlePlan 45 = .ok (.putfield 272, 3) := by decide +kernel
theorem dX5_settlePlan_48 : decode cX5_settlePlan 48 = .ok (.aload_n 0, 1) := by decide +kernel
theorem dX5_settlePlan_49 : decode cX5_settlePlan 49 = .ok (.aload_n 2, 1) := by decide +kernel
theorem dX5_settlePlan_50 : decode cX5_settlePlan 50 = .ok (.invokevirtual 169, 3) := by decide +kernel
theorem dX5_settlePlan_53 : decode cX5_settlePlan 53 = .ok (.iinc 1 1, 3) := by decide +kernel
theorem dX5_settlePlan_56 : decode cX5_settlePlan 56 = .ok (.goto (-36), 3) := by decide +kernel
theorem dX5_settlePlan_59 : decode cX5_settlePlan 59 = .ok (.iconst 0, 1) := by decide +kernel
theorem dX5_settlePlan_60 : decode cX5_settlePlan 60 = .ok (.istore_n 1, 1) := by decide +kernel
theorem dX5_settlePlan_61 : decode cX5_settlePlan 61 = .ok (.iload_n 1, 1) := by decide +kernel
theorem dX5_settlePlan_62 : decode cX5_settlePlan 62 = .ok (.aload_n 0, 1) := by decide +kernel
theorem dX5_settlePlan_63 : decode cX5_settlePlan 63 = .ok (.getfield 23, 3) := by decide +kernel
theorem dX5_settlePlan_66 : decode cX5_settlePlan 66 = .ok (.if_icmp .ge 18, 3) := by decide +kernel
theorem dX5_settlePlan_69 : decode cX5_settlePlan 69 = .ok (.iload_n 1, 1) := by decide +kernel
theorem dX5_settlePlan_70 : decode cX5_settlePlan 70 = .ok (.iconst 1, 1) := by decide +kernel
theorem dX5_settlePlan_71 : decode cX5_settlePlan 71 = .ok (.iadd, 1) := by decide +kernel
theorem dX5_settlePlan_72 : decode cX5_settlePlan 72 = .ok (.aload_n 0, 1) := by decide +kernel
theorem dX5_settlePlan_73 : decode cX5_settlePlan 73 = .ok (.iload_n 1, 1) := by decide +kernel
theorem dX5_settlePlan_74 : decode cX5_settlePlan 74 = .ok (.invokevirtual 275, 3) := by decide +kernel
theorem dX5_settlePlan_77 : decode cX5_settlePlan 77 = .ok (.invokestatic 278, 3) := by decide +kernel
theorem dX5_settlePlan_80 : decode cX5_settlePlan 80 = .ok (.istore_n 1, 1) := by decide +kernel
theorem dX5_settlePlan_81 : decode cX5_settlePlan 81 = .ok (.goto (-20), 3) := by decide +kernel
theorem dX5_settlePlan_84 : decode cX5_settlePlan 84 = .ok (.aload_n 0, 1) := by decide +kernel
theorem dX5_settlePlan_85 : decode cX5_settlePlan 85 = .ok (.getfield 44, 3) := by decide +kernel
theorem dX5_settlePlan_88 : decode cX5_settlePlan 88 = .ok (.iconst 1, 1) := by decide +kernel
theorem dX5_settlePlan_89 : decode cX5_settlePlan 89 = .ok (.putfield 118, 3) := by decide +kernel
theorem dX5_settlePlan_92 : decode cX5_settlePlan 92 = .ok (.return_, 1) := by decide +kernel
theorem dX5_takeBest_0 : decode cX5_takeBest 0 = .ok (.aconst_null, 1) := by decide +kernel
theorem dX5_takeBest_1 : decode cX5_takeBest 1 = .ok (.astore_n 2, 1) := by decide +kernel
theorem dX5_takeBest_2 : decode cX5_takeBest 2 = .ok (.ldc_w 282, 3) := by decide +kernel
theorem dX5_takeBest_5 : decode cX5_takeBest 5 = .ok (.istore_n 3, 1) := by decide +kernel
theorem dX5_takeBest_6 : decode cX5_takeBest 6 = .ok (.iconst 0, 1) := by decide +kernel
theorem dX5_takeBest_7 : decode cX5_takeBest 7 = .ok (.istore 4, 2) := by decide +kernel
theorem dX5_takeBest_9 : decode cX5_takeBest 9 = .ok (.iload 4, 2) := by decide +kernel
theorem dX5_takeBest_11 : decode cX5_takeBest 11 = .ok (.aload_n 0, 1) := by decide +kernel
theorem dX5_takeBest_12 : decode cX5_takeBest 12 = .ok (.getfield 37, 3) := by decide +kernel
theorem dX5_takeBest_15 : decode cX5_takeBest 15 = .ok (.invokevirtual 104, 3) := by decide +kernel
theorem dX5_takeBest_18 : decode cX5_takeBest 18 = .ok (.if_icmp .ge 44, 3) := by decide +kernel
theorem dX5_takeBest_21 : decode cX5_takeBest 21 = .ok (.aload_n 0, 1) := by decide +kernel
theorem dX5_takeBest_22 : decode cX5_takeBest 22 = .ok (.getfield 37, 3) := by decide +kernel
theorem dX5_takeBest_25 : decode cX5_takeBest 25 = .ok (.iload 4, 2) := by decide +kernel
theorem dX5_takeBest_27 : decode cX5_takeBest 27 = .ok (.invokevirtual 181, 3) := by decide +kernel
theorem dX5_takeBest_30 : decode cX5_takeBest 30 = .ok (.checkcast 109, 3) := by decide +kernel
theorem dX5_takeBest_33 : decode cX5_takeBest 33 = .ok (.astore 5, 2) := by decide +kernel
theorem dX5_takeBest_35 : decode cX5_takeBest 35 = .ok (.aload_n 0, 1) := by decide +kernel
theorem dX5_takeBest_36 : decode cX5_takeBest 36 = .ok (.aload 5, 2) := by decide +kernel
theorem dX5_takeBest_38 : decode cX5_takeBest 38 = .ok (.iload_n 1, 1) := by decide +kernel
theorem dX5_takeBest_39 : decode cX5_takeBest 39 = .ok (.invokevirtual 283, 3) := by decide +kernel
theorem dX5_takeBest_42 : decode cX5_takeBest 42 = .ok (.istore 6, 2) := by decide +kernel
theorem dX5_takeBest_44 : decode cX5_takeBest 44 = .ok (.iload 6, 2) := by decide +kernel
theorem dX5_takeBest_46 : decode cX5_takeBest 46 = .ok (.iload_n 3, 1) := by decide +kernel
theorem dX5_takeBest_47 : decode cX5_takeBest 47 = .ok (.if_icmp .le 9, 3) := by decide +kernel
theorem dX5_takeBest_50 : decode cX5_takeBest 50 = .ok (.aload 5, 2) := by decide +kernel
theorem dX5_takeBest_52 : decode cX5_takeBest 52 = .ok (.astore_n 2, 1) := by decide +kernel
theorem dX5_takeBest_53 : decode cX5_takeBest 53 = .ok (.iload 6, 2) := by decide +kernel
theorem dX5_takeBest_55 : decode cX5_takeBest 55 = .ok (.istore_n 3, 1) := by decide +kernel
theorem dX5_takeBest_56 : decode cX5_takeBest 56 = .ok (.iinc 4 1, 3) := by decide +kernel
theorem dX5_takeBest_59 : decode cX5_takeBest 59 = .ok (.goto (-50), 3) := by decide +kernel
theorem dX5_takeBest_62 : decode cX5_takeBest 62 = .ok (.aload_n 2, 1) := by decide +kernel
theorem dX5_takeBest_63 : decode cX5_takeBest 63 = .ok (.ifnonnull 7, 3) := by decide +kernel
theorem dX5_takeBest_66 : decode cX5_takeBest 66 = .ok (.iload_n 1, 1) := by decide +kernel
theorem dX5_takeBest_67 : decode cX5_takeBest 67 = .ok (.goto 13, 3) := by decide +kernel
theorem dX5_takeBest_70 : decode cX5_takeBest 70 = .ok (.aload_n 0, 1) := by decide +kernel
theorem dX5_takeBest_71 : decode cX5_takeBest 71 = .ok (.getfield 44, 3) := by decide +kernel
theorem dX5_takeBest_74 : decode cX5_takeBest 74 = .ok (.aload_n 2, 1) := by decide +kernel
theorem dX5_takeBest_75 : decode cX5_takeBest 75 = .ok (.iload_n 1, 1) := by decide +kernel
theorem dX5_takeBest_76 : decode cX5_takeBest 76 = .ok (.iload_n 3, 1) := by decide +kernel
theorem dX5_takeBest_77 : decode cX5_takeBest 77 = .ok (.invokevirtual 286, 3) := by decide +kernel
theorem dX5_takeBest_80 : decode cX5_takeBest 80 = .ok (.ireturn, 1) := by decide +kernel
theorem dX5_meritAt_0 : decode cX5_meritAt 0 = .ok (.aload_n 1, 1) := by decide +kernel
theorem dX5_meritAt_1 : decode cX5_meritAt 1 = .ok (.getfield 272, 3) := by decide +kernel
theorem dX5_meritAt_4 : decode cX5_meritAt 4 = .ok (.ifCond .ne 14, 3) := by decide +kernel
theorem dX5_meritAt_7 : decode cX5_meritAt 7 = .ok (.aload_n 1, 1) := by decide +kernel
theorem dX5_meritAt_8 : decode cX5_meritAt 8 = .ok (.aload_n 0, 1) := by decide +kernel
theorem dX5_meritAt_9 : decode cX5_meritAt 9 = .ok (.getfield 174, 3) := by decide +kernel
theorem dX5_meritAt_12 : decode cX5_meritAt 12 = .ok (.invokevirtual 177, 3) := by decide +kernel
theorem dX5_meritAt_15 : decode cX5_meritAt 15 = .ok (.ifCond .ne 7, 3) := by decide +kernel
theorem dX5_meritAt_18 : decode cX5_meritAt 18 = .ok (.ldc_w 282, 3) := by decide +kernel
theorem dX5_meritAt_21 : decode cX5_meritAt 21 = .ok (.ireturn, 1) := by decide +kernel
theorem dX5_meritAt_22 : decode cX5_meritAt 22 = .ok (.aload_n 0, 1) := by decide +kernel
theorem dX5_meritAt_23 : decode cX5_meritAt 23 = .ok (.getfield 44, 3) := by decide +kernel
theorem dX5_meritAt_26 : decode cX5_meritAt 26 = .ok (.aload_n 1, 1) := by decide +kernel
theorem dX5_meritAt_27 : decode cX5_meritAt 27 = .ok (.invokevirtual 289, 3) := by decide +kernel
theorem dX5_meritAt_30 : decode cX5_meritAt 30 = .ok (.istore_n 3, 1) := by decide +kernel
theorem dX5_meritAt_31 : decode cX5_meritAt 31 = .ok (.aload_n 1, 1) := by decide +kernel
theorem dX5_meritAt_32 : decode cX5_meritAt 32 = .ok (.getfield 137, 3) := by decide +kernel
theorem dX5_meritAt_35 : decode cX5_meritAt 35 = .ok (.iload_n 2, 1) := by decide +kernel
theorem dX5_meritAt_36 : decode cX5_meritAt 36 = .ok (.iload_n 3, 1) := by decide +kernel
theorem dX5_meritAt_37 : decode cX5_meritAt 37 = .ok (.iadd, 1) := by decide +kernel
theorem dX5_meritAt_38 : decode cX5_meritAt 38 = .ok (.aload_n 1, 1) := by decide +kernel
theorem dX5_meritAt_39 : decode cX5_meritAt 39 = .ok (.getfield 263, 3) := by decide +kernel
theorem dX5_meritAt_42 : decode cX5_meritAt 42 = .ok (.invokevirtual 293, 3) := by decide +kernel
theorem dX5_meritAt_45 : decode cX5_meritAt 45 = .ok (.ifCond .ne 7, 3) := by decide +kernel
theorem dX5_meritAt_48 : decode cX5_meritAt 48 = .ok (.ldc_w 282, 3) := by decide +kernel
theorem dX5_meritAt_51 : decode cX5_meritAt 51 = .ok (.ireturn, 1) := by decide +kernel
theorem dX5_meritAt_52 : decode cX5_meritAt 52 = .ok (.bipush 100, 2) := by decide +kernel
theorem dX5_meritAt_54 : decode cX5_meritAt 54 = .ok (.aload_n 1, 1) := by decide +kernel
theorem dX5_meritAt_55 : decode cX5_meritAt 55 = .ok (.getfield 296, 3) := by decide +kernel
theorem dX5_meritAt_58 : decode cX5_meritAt 58 = .ok (.imul, 1) := by decide +kernel
theorem dX5_meritAt_59 : decode cX5_meritAt 59 = .ok (.aload_n 0, 1) := by decide +kernel
theorem dX5_meritAt_60 : decode cX5_meritAt 60 = .ok (.aload_n 1, 1) := by decide +kernel
theorem dX5_meritAt_61 : decode cX5_meritAt 61 = .ok (.getfield 154, 3) := by decide +kernel
theorem dX5_meritAt_64 : decode cX5_meritAt 64 = .ok (.iload_n 2, 1) := by decide +kernel
theorem dX5_meritAt_65 : decode cX5_meritAt 65 = .ok (.iload_n 3, 1) := by decide +kernel
theorem dX5_meritAt_66 : decode cX5_meritAt 66 = .ok (.iadd, 1) := by decide +kernel
theorem dX5_meritAt_67 : decode cX5_meritAt 67 = .ok (.invokevirtual 157, 3) := by decide +kernel
theorem dX5_meritAt_70 : decode cX5_meritAt 70 = .ok (.bipush 10, 2) := by decide +kernel
theorem dX5_meritAt_72 : decode cX5_meritAt 72 = .ok (.idiv, 1) := by decide +kernel
theorem dX5_meritAt_73 : decode cX5_meritAt 73 = .ok (.iadd, 1) := by decide +kernel
theorem dX5_meritAt_74 : decode cX5_meritAt 74 = .ok (.iload_n 3, 1) := by decide +kernel
theorem dX5_meritAt_75 : decode cX5_meritAt 75 = .ok (.isub, 1) := by decide +kernel
theorem dX5_meritAt_76 : decode cX5_meritAt 76 = .ok (.ireturn, 1) := by decide +kernel
theorem dX5_beginNextNight_0 : decode cX5_beginNextNight 0 = .ok (.aload_n 0, 1) := by decide +kernel
theorem dX5_beginNextNight_1 : decode cX5_beginNextNight 1 = .ok (.dup, 1) := by decide +kernel
theorem dX5_beginNextNight_2 : decode cX5_beginNextNight 2 = .ok (.getfield 174, 3) := by decide +kernel
theorem dX5_beginNextNight_5 : decode cX5_beginNextNight 5 = .ok (.iconst 1, 1) := by decide +kernel
theorem dX5_beginNextNight_6 : decode cX5_beginNextNight 6 = .ok (.iadd, 1) := by decide +kernel
theorem dX5_beginNextNight_7 : decode cX5_beginNextNight 7 = .ok (.putfield 174, 3) := by decide +kernel
theorem dX5_beginNextNight_10 : decode cX5_beginNextNight 10 = .ok (.aload_n 0, 1) := by decide +kernel
theorem dX5_beginNextNight_11 : decode cX5_beginNextNight 11 = .ok (.new 9, 3) := by decide +kernel
theorem dX5_beginNextNight_14 : decode cX5_beginNextNight 14 = .ok (.dup, 1) := by decide +kernel
theorem dX5_beginNextNight_15 : decode cX5_beginNextNight 15 = .ok (.aload_n 0, 1) := by decide +kernel
theorem dX5_beginNextNight_16 : decode cX5_beginNextNight 16 = .ok (.getfield 20, 3) := by decide +kernel
theorem dX5_beginNextNight_19 : decode cX5_beginNextNight 19 = .ok (.getfield 222, 3) := by decide +kernel
theorem dX5_beginNextNight_22 : decode cX5_beginNextNight 22 = .ok (.bipush 49, 2) := by decide +kernel
theorem dX5_beginNextNight_24 : decode cX5_beginNextNight 24 = .ok (.iadd, 1) := by decide +kernel
theorem dX5_beginNextNight_25 : decode cX5_beginNextNight 25 = .ok (.sipush 1440, 3) := by decide +kernel
theorem dX5_beginNextNight_28 : decode cX5_beginNextNight 28 = .ok (.irem, 1) := by decide +kernel
theorem dX5_beginNextNight_29 : decode cX5_beginNextNight 29 = .ok (.aload_n 0, 1) := by decide +kernel
theorem dX5_beginNextNight_30 : decode cX5_beginNextNight 30 = .ok (.getfield 20, 3) := by decide +kernel
theorem dX5_beginNextNight_33 : decode cX5_beginNextNight 33 = .ok (.getfield 59, 3) := by decide +kernel
theorem dX5_beginNextNight_36 : decode cX5_beginNextNight 36 = .ok (.invokespecial 11, 3) := by decide +kernel
theorem dX5_beginNextNight_39 : decode cX5_beginNextNight 39 = .ok (.putfield 20, 3) := by decide +kernel
theorem dX5_beginNextNight_42 : decode cX5_beginNextNight 42 = .ok (.aload_n 0, 1) := by decide +kernel
theorem dX5_beginNextNight_43 : decode cX5_beginNextNight 43 = .ok (.aload_n 0, 1) := by decide +kernel
theorem dX5_beginNextNight_44 : decode cX5_beginNextNight 44 = .ok (.getfield 73, 3) := by decide +kernel
theorem dX5_beginNextNight_47 : decode cX5_beginNextNight 47 = .ok (.iconst 1, 1) := by decide +kernel
theorem dX5_beginNextNight_48 : decode cX5_beginNextNight 48 = .ok (.iadd, 1) := by decide +kernel
theorem dX5_beginNextNight_49 : decode cX5_beginNextNight 49 = .ok (.bipush 30, 2) := by decide +kernel
theorem dX5_beginNextNight_51 : decode cX5_beginNextNight 51 = .ok (.irem, 1) := by decide +kernel
theorem dX5_beginNextNight_52 : decode cX5_beginNextNight 52 = .ok (.putfield 73, 3) := by decide +kernel
theorem dX5_beginNextNight_55 : decode cX5_beginNextNight 55 = .ok (.aload_n 0, 1) := by decide +kernel
theorem dX5_beginNextNight_56 : decode cX5_beginNextNight 56 = .ok (.getfield 30, 3) := by decide +kernel
theorem dX5_beginNextNight_59 : decode cX5_beginNextNight 59 = .ok (.iconst 0, 1) := by decide +kernel
theorem dX5_beginNextNight_60 : decode cX5_beginNextNight 60 = .ok (.putfield 82, 3) := by decide +kernel
theorem dX5_beginNextNight_63 : decode cX5_beginNextNight 63 = .ok (.aload_n 0, 1) := by decide +kernel
theorem dX5_beginNextNight_64 : decode cX5_beginNextNight 64 = .ok (.invokevirtual 62, 3) := by decide +kernel
theorem dX5_beginNextNight_67 : decode cX5_beginNextNight 67 = .ok (.return_, 1) := by decide +kernel
theorem dX5_forgetNight_0 : decode cX5_forgetNight 0 = .ok (.iconst 0, 1) := by decide +kernel
theorem dX5_forgetNight_1 : decode cX5_forgetNight 1 = .ok (.istore_n 1, 1) := by decide +kernel
theorem dX5_forgetNight_2 : decode cX5_forgetNight 2 = .ok (.iload_n 1, 1) := by decide +kernel
theorem dX5_forgetNight_3 : decode cX5_forgetNight 3 = .ok (.aload_n 0, 1) := by decide +kernel
theorem dX5_forgetNight_4 : decode cX5_forgetNight 4 = .ok (.getfield 37, 3) := by decide +kernel
theorem dX5_forgetNight_7 : decode cX5_forgetNight 7 = .ok (.invokevirtual 104, 3) := by decide +kernel
theorem dX5_forgetNight_10 : decode cX5_forgetNight 10 = .ok (.if_icmp .ge 27, 3) := by decide +kernel
theorem dX5_forgetNight_13 : decode cX5_forgetNight 13 = .ok (.aload_n 0, 1) := by decide +kernel
theorem dX5_forgetNight_14 : decode cX5_forgetNight 14 = .ok (.getfield 37, 3) := by decide +kernel
theorem dX5_forgetNight_17 : decode cX5_forgetNight 17 = .ok (.iload_n 1, 1) := by decide +kernel
theorem dX5_forgetNight_18 : decode cX5_forgetNight 18 = .ok (.invokevirtual 181, 3) := by decide +kernel
theorem dX5_forgetNight_21 : decode cX5_forgetNight 21 = .ok (.checkcast 109, 3) := by decide +kernel
theorem dX5_forgetNight_24 : decode cX5_forgetNight 24 = .ok (.getfield 137, 3) := by decide +kernel
theorem dX5_forgetNight_27 : decode cX5_forgetNight 27 = .ok (.iconst 0, 1) := by decide +kernel
theorem dX5_forgetNight_28 : decode cX5_forgetNight 28 = .ok (.putfield 141, 3) := by decide +kernel
theorem dX5_forgetNight_31 : decode cX5_forgetNight 31 = .ok (.iinc 1 1, 3) := by decide +kernel
theorem dX5_forgetNight_34 : decode cX5_forgetNight 34 = .ok (.goto (-32), 3) := by decide +kernel
theorem dX5_forgetNight_37 : decode cX5_forgetNight 37 = .ok (.aload_n 0, 1) := by decide +kernel
theorem dX5_forgetNight_38 : decode cX5_forgetNight 38 = .ok (.getfield 44, 3) := by decide +kernel
theorem dX5_forgetNight_41 : decode cX5_forgetNight 41 = .ok (.iconst 0, 1) := by decide +kernel
theorem dX5_forgetNight_42 : decode cX5_forgetNight 42 = .ok (.putfield 118, 3) := by decide +kernel
theorem dX5_forgetNight_45 : decode cX5_forgetNight 45 = .ok (.return_, 1) := by decide +kernel
theorem dX5_blend_0 : decode cX5_blend 0 = .ok (.lload_n 0, 1) := by decide +kernel
theorem dX5_blend_1 : decode cX5_blend 1 = .ok (.ldc2_w 299, 3) := by decide +kernel
theorem dX5_blend_4 : decode cX5_blend 4 = .ok (.lmul, 1) := by decide +kernel
theorem dX5_blend_5 : decode cX5_blend 5 = .ok (.iload_n 2, 1) := by decide +kernel
theorem dX5_blend_6 : decode cX5_blend 6 = .ok (.i2l, 1) := by decide +kernel
theorem dX5_blend_7 : decode cX5_blend 7 = .ok (.ladd, 1) := by decide +kernel
theorem dX5_blend_8 : decode cX5_blend 8 = .ok (.lreturn, 1) := by decide +kernel
theorem dX5_blendTargets_0 : decode cX5_blendTargets 0 = .ok (.lload_n 1, 1) := by decide +kernel
theorem dX5_blendTargets_1 : decode cX5_blendTargets 1 = .ok (.aload_n 0, 1) := by decide +kernel
theorem dX5_blendTargets_2 : decode cX5_blendTargets 2 = .ok (.getfield 37, 3) := by decide +kernel
theorem dX5_blendTargets_5 : decode cX5_blendTargets 5 = .ok (.invokevirtual 104, 3) := by decide +kernel
theorem dX5_blendTargets_8 : decode cX5_blendTargets 8 = .ok (.invokestatic 218, 3) := by decide +kernel
theorem dX5_blendTargets_11 : decode cX5_blendTargets 11 = .ok (.lstore_n 3, 1) := by decide +kernel
theorem dX5_blendTargets_12 : decode cX5_blendTargets 12 = .ok (.iconst 0, 1) := by decide +kernel
theorem dX5_blendTargets_13 : decode cX5_blendTargets 13 = .ok (.istore 5, 2) := by decide +kernel
theorem dX5_blendTargets_15 : decode cX5_blendTargets 15 = .ok (.iload 5, 2) := by decide +kernel
theorem dX5_blendTargets_17 : decode cX5_blendTargets 17 = .ok (.aload_n 0, 1) := by decide +kernel
theorem dX5_blendTargets_18 : decode cX5_blendTargets 18 = .ok (.getfield 37, 3) := by decide +kernel
theorem dX5_blendTargets_21 : decode cX5_blendTargets 21 = .ok (.invokevirtual 104, 3) := by decide +kernel
theorem dX5_blendTargets_24 : decode cX5_blendTargets 24 = .ok (.if_icmp .ge 81, 3) := by decide +kernel
theorem dX5_blendTargets_27 : decode cX5_blendTargets 27 = .ok (.aload_n 0, 1) := by decide +kernel
theorem dX5_blendTargets_28 : decode cX5_blendTargets 28 = .ok (.getfield 37, 3) := by decide +kernel
theorem dX5_blendTargets_31 : decode cX5_blendTargets 31 = .ok (.iload 5, 2) := by decide +kernel
theorem dX5_blendTargets_33 : decode cX5_blendTargets 33 = .ok (.invokevirtual 181, 3) := by decide +kernel
theorem dX5_blendTargets_36 : decode cX5_blendTargets 36 = .ok (.checkcast 109, 3) := by decide +kernel
theorem dX5_blendTargets_39 : decode cX5_blendTargets 39 = .ok (.astore 6, 2) := by decide +kernel
theorem dX5_blendTargets_41 : decode cX5_blendTargets 41 = .ok (.iconst 0, 1) := by decide +kernel
theorem dX5_blendTargets_42 : decode cX5_blendTargets 42 = .ok (.istore 7, 2) := by decide +kernel
theorem dX5_blendTargets_44 : decode cX5_blendTargets 44 = .ok (.iload 7, 2) := by decide +kernel
theorem dX5_blendTargets_46 : decode cX5_blendTargets 46 = .ok (.bipush 10, 2) := by decide +kernel
theorem dX5_blendTargets_48 : decode cX5_blendTargets 48 = .ok (.if_icmp .ge 21, 3) := by decide +kernel
theorem dX5_blendTargets_51 : decode cX5_blendTargets 51 = .ok (.lload_n 3, 1) := by decide +kernel
theorem dX5_blendTargets_52 : decode cX5_blendTargets 52 = .ok (.aload 6, 2) := by decide +kernel
theorem dX5_blendTargets_54 : decode cX5_blendTargets 54 = .ok (.iload 7, 2) := by decide +kernel
theorem dX5_blendTargets_56 : decode cX5_blendTargets 56 = .ok (.invokevirtual 147, 3) := by decide +kernel
theorem dX5_blendTargets_59 : decode cX5_blendTargets 59 = .ok (.invokestatic 218, 3) := by decide +kernel
theorem dX5_blendTargets_62 : decode cX5_blendTargets 62 = .ok (.lstore_n 3, 1) := by decide +kernel
theorem dX5_blendTargets_63 : decode cX5_blendTargets 63 = .ok (.iinc 7 1, 3) := by decide +kernel
theorem dX5_blendTargets_66 : decode cX5_blendTargets 66 = .ok (.goto (-22), 3) := by decide +kernel
theorem dX5_blendTargets_69 : decode cX5_blendTargets 69 = .ok (.iconst 0, 1) := by decide +kernel
theorem dX5_blendTargets_70 : decode cX5_blendTargets 70 = .ok (.istore 7, 2) := by decide +kernel
theorem dX5_blendTargets_72 : decode cX5_blendTargets 72 = .ok (.iload 7, 2) := by decide +kernel
theorem dX5_blendTargets_74 : decode cX5_blendTargets 74 = .ok (.iconst 5, 1) := by decide +kernel
theorem dX5_blendTargets_75 : decode cX5_blendTargets 75 = .ok (.if_icmp .ge 24, 3) := by decide +kernel
theorem dX5_blendTargets_78 : decode cX5_blendTargets 78 = .ok (.lload_n 3, 1) := by decide +kernel
theorem dX5_blendTargets_79 : decode cX5_blendTargets 79 = .ok (.aload 6, 2) := by decide +kernel
theorem dX5_blendTargets_81 : decode cX5_blendTargets 81 = .ok (.getfield 137, 3) := by decide +kernel
theorem dX5_blendTargets_84 : decode cX5_blendTargets 84 = .ok (.iload 7, 2) := by decide +kernel
theorem dX5_blendTargets_86 : decode cX5_blendTargets 86 = .ok (.invokevirtual 173, 3) := by decide +kernel
theorem dX5_blendTargets_89 : decode cX5_blendTargets 89 = .ok (.invokestatic 218, 3) := by decide +kernel
theorem dX5_blendTargets_92 : decode cX5_blendTargets 92 = .ok (.lstore_n 3, 1) := by decide +kernel
theorem dX5_blendTargets_93 : decode cX5_blendTargets 93 = .ok (.iinc 7 1, 3) := by decide +kernel
theorem dX5_blendTargets_96 : decode cX5_blendTargets 96 = .ok (.goto (-24), 3) := by decide +kernel
theorem dX5_blendTargets_99 : decode cX5_blendTargets 99 = .ok (.iinc 5 1, 3) := by decide +kernel
theorem dX5_blendTargets_102 : decode cX5_blendTargets 102 = .ok (.goto (-87), 3) := by decide +kernel
theorem dX5_blendTargets_105 : decode cX5_blendTargets 105 = .ok (.lload_n 3, 1) := by decide +kernel
theorem dX5_blendTargets_106 : decode cX5_blendTargets 106 = .ok (.lreturn, 1) := by decide +kernel
theorem dX5_blendPlan_0 : decode cX5_blendPlan 0 = .ok (.lload_n 1, 1) := by decide +kernel
theorem dX5_blendPlan_1 : decode cX5_blendPlan 1 = .ok (.aload_n 0, 1) := by decide +kernel
theorem dX5_blendPlan_2 : decode cX5_blendPlan 2 = .ok (.getfield 44, 3) := by decide +kernel
theorem dX5_blendPlan_5 : decode cX5_blendPlan 5 = .ok (.getfield 192, 3) := by decide +kernel
theorem dX5_blendPlan_8 : decode cX5_blendPlan 8 = .ok (.invokestatic 218, 3) := by decide +kernel
theorem dX5_blendPlan_11 : decode cX5_blendPlan 11 = .ok (.lstore_n 3, 1) := by decide +kernel
theorem dX5_blendPlan_12 : decode cX5_blendPlan 12 = .ok (.iconst 0, 1) := by decide +kernel
theorem dX5_blendPlan_13 : decode cX5_blendPlan 13 = .ok (.istore 5, 2) := by decide +kernel
theorem dX5_blendPlan_15 : decode cX5_blendPlan 15 = .ok (.iload 5, 2) := by decide +kernel
theorem dX5_blendPlan_17 : decode cX5_blendPlan 17 = .ok (.aload_n 0, 1) := by decide +kernel
theorem dX5_blendPlan_18 : decode cX5_blendPlan 18 = .ok (.getfield 44, 3) := by decide +kernel
theorem dX5_blendPlan_21 : decode cX5_blendPlan 21 = .ok (.getfield 192, 3) := by decide +kernel
theorem dX5_blendPlan_24 : decode cX5_blendPlan 24 = .ok (.if_icmp .ge 42, 3) := by decide +kernel
theorem dX5_blendPlan_27 : decode cX5_blendPlan 27 = .ok (.iconst 0, 1) := by decide +kernel
theorem dX5_blendPlan_28 : decode cX5_blendPlan 28 = .ok (.istore 6, 2) := by decide +kernel
theorem dX5_blendPlan_30 : decode cX5_blendPlan 30 = .ok (.iload 6, 2) := by decide +kernel
theorem dX5_blendPlan_32 : decode cX5_blendPlan 32 = .ok (.iconst 4, 1) := by decide +kernel
theorem dX5_blendPlan_33 : decode cX5_blendPlan 33 = .ok (.if_icmp .ge 27, 3) := by decide +kernel
theorem dX5_blendPlan_36 : decode cX5_blendPlan 36 = .ok (.lload_n 3, 1) := by decide +kernel
theorem dX5_blendPlan_37 : decode cX5_blendPlan 37 = .ok (.aload_n 0, 1) := by decide +kernel
theorem dX5_blendPlan_38 : decode cX5_blendPlan 38 = .ok (.getfield 44, 3) := by decide +kernel
theorem dX5_blendPlan_41 : decode cX5_blendPlan 41 = .ok (.getfield 199, 3) := by decide +kernel
theorem dX5_blendPlan_44 : decode cX5_blendPlan 44 = .ok (.iload 5, 2) := by decide +kernel
theorem dX5_blendPlan_46 : decode cX5_blendPlan 46 = .ok (.aaload, 1) := by decide +kernel
theorem dX5_blendPlan_47 : decode cX5_blendPlan 47 = .ok (.iload 6, 2) := by decide +kernel
theorem dX5_blendPlan_49 : decode cX5_blendPlan 49 = .ok (.iaload, 1) := by decide +kernel
theorem dX5_blendPlan_50 : decode cX5_blendPlan 50 = .ok (.invokestatic 218, 3) := by decide +kernel
theorem dX5_blendPlan_53 : decode cX5_blendPlan 53 = .ok (.lstore_n 3, 1) := by decide +kernel
theorem dX5_blendPlan_54 : decode cX5_blendPlan 54 = .ok (.iinc 6 1, 3) := by decide +kernel
theorem dX5_blendPlan_57 : decode cX5_blendPlan 57 = .ok (.goto (-27), 3) := by decide +kernel
theorem dX5_blendPlan_60 : decode cX5_blendPlan 60 = .ok (.iinc 5 1, 3) := by decide +kernel
theorem dX5_blendPlan_63 : decode cX5_blendPlan 63 = .ok (.goto (-48), 3) := by decide +kernel
theorem dX5_blendPlan_66 : decode cX5_blendPlan 66 = .ok (.lload_n 3, 1) := by decide +kernel
theorem dX5_blendPlan_67 : decode cX5_blendPlan 67 = .ok (.lreturn, 1) := by decide +kernel
theorem dX6_init_0 : decode cX6_init 0 = .ok (.aload_n 0, 1) := by decide +kernel
theorem dX6_init_1 : decode cX6_init 1 = .ok (.invokespecial 1, 3) := by decide +kernel
theorem dX6_init_4 : decode cX6_init 4 = .ok (.aload_n 0, 1) := by decide +kernel
theorem dX6_init_5 : decode cX6_init 5 = .ok (.sipush 600, 3) := by decide +kernel
theorem dX6_init_8 : decode cX6_init 8 = .ok (.putfield 7, 3) := by decide +kernel
theorem dX6_init_11 : decode cX6_init 11 = .ok (.aload_n 0, 1) := by decide +kernel
theorem dX6_init_12 : decode cX6_init 12 = .ok (.bipush 50, 2) := by decide +kernel
theorem dX6_init_14 : decode cX6_init 14 = .ok (.putfield 13, 3) := by decide +kernel
theorem dX6_init_17 : decode cX6_init 17 = .ok (.aload_n 0, 1) := by decide +kernel
theorem dX6_init_18 : decode cX6_init 18 = .ok (.sipush 900, 3) := by decide +kernel
theorem dX6_init_21 : decode cX6_init 21 = .ok (.newarray .boolean, 2) := by decide +kernel
theorem dX6_init_23 : decode cX6_init 23 = .ok (.putfield 16, 3) := by decide +kernel
theorem dX6_init_26 : decode cX6_init 26 = .ok (.aload_n 0, 1) := by decide +kernel
theorem dX6_init_27 : decode cX6_init 27 = .ok (.bipush 20, 2) := by decide +kernel
theorem dX6_init_29 : decode cX6_init 29 = .ok (.newarray .int, 2) := by decide +kernel
theorem dX6_init_31 : decode cX6_init 31 = .ok (.putfield 20, 3) := by decide +kernel
theorem dX6_init_34 : decode cX6_init 34 = .ok (.aload_n 0, 1) := by decide +kernel
theorem dX6_init_35 : decode cX6_init 35 = .ok (.bipush 20, 2) := by decide +kernel
theorem dX6_init_37 : decode cX6_init 37 = .ok (.newarray .int, 2) := by decide +kernel
theorem dX6_init_39 : decode cX6_init 39 = .ok (.putfield 24, 3) := by decide +kernel
theorem dX6_init_42 : decode cX6_init 42 = .ok (.aload_n 0, 1) := by decide +kernel
theorem dX6_init_43 : decode cX6_init 43 = .ok (.bipush 20, 2) := by decide +kernel
theorem dX6_init_45 : decode cX6_init 45 = .ok (.newarray .int, 2) := by decide +kernel
theorem dX6_init_47 : decode cX6_init 47 = .ok (.putfield 27, 3) := by decide +kernel
theorem dX6_init_50 : decode cX6_init 50 = .ok (.aload_n 0, 1) := by decide +kernel
theorem dX6_init_51 : decode cX6_init 51 = .ok (.bipush 20, 2) := by decide +kernel
theorem dX6_init_53 : decode cX6_init 53 = .ok (.newarray .int, 2) := by decide +kernel
theorem dX6_init_55 : decode cX6_init 55 = .ok (.putfield 30, 3) := by decide +kernel
theorem dX6_init_58 : decode cX6_init 58 = .ok (.aload_n 0, 1) := by decide +kernel
theorem dX6_init_59 : decode cX6_init 59 = .ok (.bipush 20, 2) := by decide +kernel
theorem dX6_init_61 : decode cX6_init 61 = .ok (.newarray .int, 2) := by decide +kernel
theorem dX6_init_63 : decode cX6_init 63 = .ok (.putfield 33, 3) := by decide +kernel
theorem dX6_init_66 : decode cX6_init 66 = .ok (.aload_n 0, 1) := by decide +kernel
theorem dX6_init_67 : decode cX6_init 67 = .ok (.bipush 20, 2) := by decide +kernel
theorem dX6_init_69 : decode cX6_init 69 = .ok (.newarray .int, 2) := by decide +kernel
theorem dX6_init_71 : decode cX6_init 71 = .ok (.putfield 36, 3) := by decide +kernel
theorem dX6_init_74 : decode cX6_init 74 = .ok (.aload_n 0, 1) := by decide +kernel
theorem dX6_init_75 : decode cX6_init 75 = .ok (.bipush 20, 2) := by decide +kernel
theorem dX6_init_77 : decode cX6_init 77 = .ok (.newarray .int, 2) := by decide +kernel
theorem dX6_init_79 : decode cX6_init 79 = .ok (.putfield 39, 3) := by decide +kernel
theorem dX6_init_82 : decode cX6_init 82 = .ok (.aload_n 0, 1) := by decide +kernel
theorem dX6_init_83 : decode cX6_init 83 = .ok (.bipush 20, 2) := by decide +kernel
theorem dX6_init_85 : decode cX6_init 85 = .ok (.newarray .int, 2) := by decide +kernel
theorem dX6_init_87 : decode cX6_init 87 = .ok (.putfield 42, 3) := by decide +kernel
theorem dX6_init_90 : decode cX6_init 90 = .ok (.aload_n 0, 1) := by decide +kernel
theorem dX6_init_91 : decode cX6_init 91 = .ok (.bipush 20, 2) := by decide +kernel
theorem dX6_init_93 : decode cX6_init 93 = .ok (.newarray .int, 2) := by decide +kernel
theorem dX6_init_95 : decode cX6_init 95 = .ok (.putfield 45, 3) := by decide +kernel
theorem dX6_init_98 : decode cX6_init 98 = .ok (.aload_n 0, 1) := by decide +kernel
theorem dX6_init_99 : decode cX6_init 99 = .ok (.bipush 20, 2) := by decide +kernel
theorem dX6_init_101 : decode cX6_init 101 = .ok (.newarray .int, 2) := by decide +kernel
theorem dX6_init_103 : decode cX6_init 103 = .ok (.putfield 48, 3) := by decide +kernel
theorem dX6_init_106 : decode cX6_init 106 = .ok (.aload_n 0, 1) := by decide +kernel
theorem dX6_init_107 : decode cX6_init 107 = .ok (.sipush 18000, 3) := by decide +kernel
theorem dX6_init_110 : decode cX6_init 110 = .ok (.newarray .int, 2) := by decide +kernel
theorem dX6_init_112 : decode cX6_init 112 = .ok (.putfield 51, 3) := by decide +kernel
theorem dX6_init_115 : decode cX6_init 115 = .ok (.aload_n 0, 1) := by decide +kernel
theorem dX6_init_116 : decode cX6_init 116 = .ok (.sipush 18000, 3) := by decide +kernel
theorem dX6_init_119 : decode cX6_init 119 = .ok (.newarray .int, 2) := by decide +kernel
theorem dX6_init_121 : decode cX6_init 121 = .ok (.putfield 54, 3) := by decide +kernel
theorem dX6_init_124 : decode cX6_init 124 = .ok (.aload_n 0, 1) := by decide +kernel
theorem dX6_init_125 : decode cX6_init 125 = .ok (.bipush 80, 2) := by decide +kernel
theorem dX6_init_127 : decode cX6_init 127 = .ok (.newarray .int, 2) := by decide +kernel
theorem dX6_init_129 : decode cX6_init 129 = .ok (.putfield 57, 3) := by decide +kernel
theorem dX6_init_132 : decode cX6_init 132 = .ok (.return_, 1) := by decide +kernel
theorem dX6_thrown_0 : decode cX6_thrown 0 = .ok (.aload_n 0, 1) := by decide +kernel
theorem dX6_thrown_1 : decode cX6_thrown 1 = .ok (.getfield 60, 3) := by decide +kernel
theorem dX6_thrown_4 : decode cX6_thrown 4 = .ok (.ireturn, 1) := by decide +kernel
theorem dX6_no_0 : decode cX6_no 0 = .ok (.aload_n 0, 1) := by decide +kernel
theorem dX6_no_1 : decode cX6_no 1 = .ok (.iload_n 1, 1) := by decide +kernel
theorem dX6_no_2 : decode cX6_no 2 = .ok (.putfield 60, 3) := by decide +kernel
theorem dX6_no_5 : decode cX6_no 5 = .ok (.iconst 0, 1) := by decide +kernel
theorem dX6_no_6 : decode cX6_no 6 = .ok (.ireturn, 1) := by decide +kernel
theorem dX6_isIn_0 : decode cX6_isIn 0 = .ok (.iload_n 0, 1) := by decide +kernel
theorem dX6_isIn_1 : decode cX6_isIn 1 = .ok (.iload_n 1, 1) := by decide +kernel
theorem dX6_isIn_2 : decode cX6_isIn 2 = .ok (.if_icmp .lt 12, 3) := by decide +kernel
theorem dX6_isIn_5 : decode cX6_isIn 5 = .ok (.iload_n 0, 1) := by decide +kernel
theorem dX6_isIn_6 : decode cX6_isIn 6 = .ok (.iload_n 2, 1) := by decide +kernel
theorem dX6_isIn_7 : decode cX6_isIn 7 = .ok (.if_icmp .gt 7, 3) := by decide +kernel
theorem dX6_isIn_10 : decode cX6_isIn 10 = .ok (.iconst 1, 1) := by decide +kernel
theorem dX6_isIn_11 : decode cX6_isIn 11 = .ok (.goto 4, 3) := by decide +kernel
theorem dX6_isIn_14 : decode cX6_isIn 14 = .ok (.iconst 0, 1) := by decide +kernel
theorem dX6_isIn_15 : decode cX6_isIn 15 = .ok (.ireturn, 1) := by decide +kernel
theorem dX6_isTarget_0 : decode cX6_isTarget 0 = .ok (.iload_n 1, 1) := by decide +kernel
theorem dX6_isTarget_1 : decode cX6_isTarget 1 = .ok (.iconst 0, 1) := by decide +kernel
theorem dX6_isTarget_2 : decode cX6_isTarget 2 = .ok (.aload_n 0, 1) := by decide +kernel
theorem dX6_isTarget_3 : decode cX6_isTarget 3 = .ok (.getfield 63, 3) := by decide +kernel
theorem dX6_isTarget_6 : decode cX6_isTarget 6 = .ok (.iconst 1, 1) := by decide +kernel
theorem dX6_isTarget_7 : decode cX6_isTarget 7 = .ok (.isub, 1) := by decide +kernel
theorem dX6_isTarget_8 : decode cX6_isTarget 8 = .ok (.invokestatic 66, 3) := by decide +kernel
theorem dX6_isTarget_11 : decode cX6_isTarget 11 = .ok (.ireturn, 1) := by decide +kernel
theorem dX6_isMinute_0 : decode cX6_isMinute 0 = .ok (.iload_n 1, 1) := by decide +kernel
theorem dX6_isMinute_1 : decode cX6_isMinute 1 = .ok (.iconst 0, 1) := by decide +kernel
theorem dX6_isMinute_2 : decode cX6_isMinute 2 = .ok (.aload_n 0, 1) := by decide +kernel
theorem dX6_isMinute_3 : decode cX6_isMinute 3 = .ok (.getfield 7, 3) := by decide +kernel
theorem dX6_isMinute_6 : decode cX6_isMinute 6 = .ok (.iconst 1, 1) := by decide +kernel
theorem dX6_isMinute_7 : decode cX6_isMinute 7 = .ok (.isub, 1) := by decide +kernel
theorem dX6_isMinute_8 : decode cX6_isMinute 8 = .ok (.invokestatic 66, 3) := by decide +kernel
theorem dX6_isMinute_11 : decode cX6_isMinute 11 = .ok (.ireturn, 1) := by decide +kernel
theorem dX6_isPoint_0 : decode cX6_isPoint 0 = .ok (.iload_n 0, 1) := by decide +kernel
theorem dX6_isPoint_1 : decode cX6_isPoint 1 = .ok (.iconst 0, 1) := by decide +kernel
theorem dX6_isPoint_2 : decode cX6_isPoint 2 = .ok (.sipush 1439, 3) := by decide +kernel
theorem dX6_isPoint_5 : decode cX6_isPoint 5 = .ok (.invokestatic 66, 3) := by decide +kernel
theorem dX6_isPoint_8 : decode cX6_isPoint 8 = .ok (.ifCond .eq 18, 3) := by decide +kernel
theorem dX6_isPoint_11 : decode cX6_isPoint 11 = .ok (.iload_n 1, 1) := by decide +kernel
theorem dX6_isPoint_12 : decode cX6_isPoint 12 = .ok (.bipush (-90), 2) := by decide +kernel
theorem dX6_isPoint_14 : decode cX6_isPoint 14 = .ok (.bipush 90, 2) := by decide +kernel
theorem dX6_isPoint_16 : decode cX6_isPoint 16 = .ok (.invokestatic 66, 3) := by decide +kernel
theorem dX6_isPoint_19 : decode cX6_isPoint 19 = .ok (.ifCond .eq 7, 3) := by decide +kernel
theorem dX6_isPoint_22 : decode cX6_isPoint 22 = .ok (.iconst 1, 1) := by decide +kernel
theorem dX6_isPoint_23 : decode cX6_isPoint 23 = .ok (.goto 4, 3) := by decide +kernel
theorem dX6_isPoint_26 : decode cX6_isPoint 26 = .ok (.iconst 0, 1) := by decide +kernel
theorem dX6_isPoint_27 : decode cX6_isPoint 27 = .ok (.ireturn, 1) := by decide +kernel
theorem dX6_sineOf_0 : decode cX6_sineOf 0 = .ok (.iload_n 0, 1) := by decide +kernel
theorem dX6_sineOf_1 : decode cX6_sineOf 1 = .ok (.sipush 360, 3) := by decide +kernel
theorem dX6_sineOf_4 : decode cX6_sineOf 4 = .ok (.invokestatic 70, 3) := by decide +kernel
theorem dX6_sineOf_7 : decode cX6_sineOf 7 = .ok (.istore_n 1, 1) := by decide +kernel
theorem dX6_sineOf_8 : decode cX6_sineOf 8 = .ok (.iload_n 1, 1) := by decide +kernel
theorem dX6_sineOf_9 : decode cX6_sineOf 9 = .ok (.sipush 180, 3) := by decide +kernel
theorem dX6_sineOf_12 : decode cX6_sineOf 12 = .ok (.irem, 1) := by decide +kernel
theorem dX6_sineOf_13 : decode cX6_sineOf 13 = .ok (.istore_n 2, 1) := by decide +kernel
theorem dX6_sineOf_14 : decode cX6_sineOf 14 = .ok (.sipush 4000, 3) := by decide +kernel
theorem dX6_sineOf_17 : decode cX6_sineOf 17 = .ok (.iload_n 2, 1) := by decide +kernel
theorem dX6_sineOf_18 : decode cX6_sineOf 18 = .ok (.imul, 1) := by decide +kernel
theorem dX6_sineOf_19 : decode cX6_sineOf 19 = .ok (.sipush 180, 3) := by decide +kernel
theorem dX6_sineOf_22 : decode cX6_sineOf 22 = .ok (.iload_n 2, 1) := by decide +kernel
theorem dX6_sineOf_23 : decode cX6_sineOf 23 = .ok (.isub, 1) := by decide +kernel
theorem dX6_sineOf_24 : decode cX6_sineOf 24 = .ok (.imul, 1) := by decide +kernel
theorem dX6_sineOf_25 : decode cX6_sineOf 25 = .ok (.ldc 76, 2) := by decide +kernel
theorem dX6_sineOf_27 : decode cX6_sineOf 27 = .ok (.iload_n 2, 1) := by decide +kernel
theorem dX6_sineOf_28 : decode cX6_sineOf 28 = .ok (.sipush 180, 3) := by decide +kernel
theorem dX6_sineOf_31 : decode cX6_sineOf 31 = .ok (.iload_n 2, 1) := by decide +kernel
theorem dX6_sineOf_32 : decode cX6_sineOf 32 = .ok (.isub, 1) := by decide +kernel
theorem dX6_sineOf_33 : decode cX6_sineOf 33 = .ok (.imul, 1) := by decide +kernel
theorem dX6_sineOf_34 : decode cX6_sineOf 34 = .ok (.isub, 1) := by decide +kernel
theorem dX6_sineOf_35 : decode cX6_sineOf 35 = .ok (.idiv, 1) := by decide +kernel
theorem dX6_sineOf_36 : decode cX6_sineOf 36 = .ok (.istore_n 3, 1) := by decide +kernel
theorem dX6_sineOf_37 : decode cX6_sineOf 37 = .ok (.iload_n 1, 1) := by decide +kernel
theorem dX6_sineOf_38 : decode cX6_sineOf 38 = .ok (.sipush 180, 3) := by decide +kernel
theorem dX6_sineOf_41 : decode cX6_sineOf 41 = .ok (.if_icmp .ge 7, 3) := by decide +kernel
theorem dX6_sineOf_44 : decode cX6_sineOf 44 = .ok (.iload_n 3, 1) := by decide +kernel
theorem dX6_sineOf_45 : decode cX6_sineOf 45 = .ok (.goto 5, 3) := by decide +kernel
theorem dX6_sineOf_48 : decode cX6_sineOf 48 = .ok (.iload_n 3, 1) := by decide +kernel
theorem dX6_sineOf_49 : decode cX6_sineOf 49 = .ok (.ineg, 1) := by decide +kernel
theorem dX6_sineOf_50 : decode cX6_sineOf 50 = .ok (.ireturn, 1) := by decide +kernel
theorem dX6_cosineOf_0 : decode cX6_cosineOf 0 = .ok (.iload_n 0, 1) := by decide +kernel
theorem dX6_cosineOf_1 : decode cX6_cosineOf 1 = .ok (.bipush 90, 2) := by decide +kernel
theorem dX6_cosineOf_3 : decode cX6_cosineOf 3 = .ok (.iadd, 1) := by decide +kernel
theorem dX6_cosineOf_4 : decode cX6_cosineOf 4 = .ok (.invokestatic 77, 3) := by decide +kernel
theorem dX6_cosineOf_7 : decode cX6_cosineOf 7 = .ok (.ireturn, 1) := by decide +kernel
theorem dX6_mixed_0 : decode cX6_mixed 0 = .ok (.iload_n 0, 1) := by decide +kernel
theorem dX6_mixed_1 : decode cX6_mixed 1 = .ok (.invokestatic 77, 3) := by decide +kernel
theorem dX6_mixed_4 : decode cX6_mixed 4 = .ok (.iload_n 1, 1) := by decide +kernel
theorem dX6_mixed_5 : decode cX6_mixed 5 = .ok (.invokestatic 77, 3) := by decide +kernel
theorem dX6_mixed_8 : decode cX6_mixed 8 = .ok (.imul, 1) := by decide +kernel
theorem dX6_mixed_9 : decode cX6_mixed 9 = .ok (.iload_n 0, 1) := by decide +kernel
theorem dX6_mixed_10 : decode cX6_mixed 10 = .ok (.invokestatic 81, 3) := by decide +kernel
theorem dX6_mixed_13 : decode cX6_mixed 13 = .ok (.iload_n 1, 1) := by decide +kernel
theorem dX6_mixed_14 : decode cX6_mixed 14 = .ok (.invokestatic 81, 3) := by decide +kernel
theorem dX6_mixed_17 : decode cX6_mixed 17 = .ok (.imul, 1) := by decide +kernel
theorem dX6_mixed_18 : decode cX6_mixed 18 = .ok (.sipush 1000, 3) := by decide +kernel
theorem dX6_mixed_21 : decode cX6_mixed 21 = .ok (.idiv, 1) := by decide +kernel
theorem dX6_mixed_22 : decode cX6_mixed 22 = .ok (.iload_n 2, 1) := by decide +kernel
theorem dX6_mixed_23 : decode cX6_mixed 23 = .ok (.invokestatic 81, 3) := by decide +kernel
theorem dX6_mixed_26 : decode cX6_mixed 26 = .ok (.imul, 1) := by decide +kernel
theorem dX6_mixed_27 : decode cX6_mixed 27 = .ok (.iadd, 1) := by decide +kernel
theorem dX6_mixed_28 : decode cX6_mixed 28 = .ok (.sipush 1000, 3) := by decide +kernel
theorem dX6_mixed_31 : decode cX6_mixed 31 = .ok (.idiv, 1) := by decide +kernel
theorem dX6_mixed_32 : decode cX6_mixed 32 = .ok (.ireturn, 1) := by decide +kernel
theorem dX6_heightOf_0 : decode cX6_heightOf 0 = .ok (.aload_n 0, 1) := by decide +kernel
theorem dX6_heightOf_1 : decode cX6_heightOf 1 = .ok (.getfield 84, 3) := by decide +kernel
theorem dX6_heightOf_4 : decode cX6_heightOf 4 = .ok (.iconst 4, 1) := by decide +kernel
theorem dX6_heightOf_5 : decode cX6_heightOf 5 = .ok (.aload_n 0, 1) := by decide +kernel
theorem dX6_heightOf_6 : decode cX6_heightOf 6 = .ok (.getfield 87, 3) := by decide +kernel
theorem dX6_heightOf_9 : decode cX6_heightOf 9 = .ok (.imul, 1) := by decide +kernel
theorem dX6_heightOf_10 : decode cX6_heightOf 10 = .ok (.iadd, 1) := by decide +kernel
theorem dX6_heightOf_11 : decode cX6_heightOf 11 = .ok (.iload_n 3, 1) := by decide +kernel
theorem dX6_heightOf_12 : decode cX6_heightOf 12 = .ok (.iadd, 1) := by decide +kernel
theorem dX6_heightOf_13 : decode cX6_heightOf 13 = .ok (.sipush 1440, 3) := by decide +kernel
theorem dX6_heightOf_16 : decode cX6_heightOf 16 = .ok (.irem, 1) := by decide +kernel
theorem dX6_heightOf_17 : decode cX6_heightOf 17 = .ok (.istore 4, 2) := by decide +kernel
theorem dX6_heightOf_19 : decode cX6_heightOf 19 = .ok (.aload_n 0, 1) := by decide +kernel
theorem dX6_heightOf_20 : decode cX6_heightOf 20 = .ok (.getfield 13, 3) := by decide +kernel
theorem dX6_heightOf_23 : decode cX6_heightOf 23 = .ok (.iload_n 2, 1) := by decide +kernel
theorem dX6_heightOf_24 : decode cX6_heightOf 24 = .ok (.iload 4, 2) := by decide +kernel
theorem dX6_heightOf_26 : decode cX6_heightOf 26 = .ok (.iload_n 1, 1) := by decide +kernel
theorem dX6_heightOf_27 : decode cX6_heightOf 27 = .ok (.isub, 1) := by decide +kernel
theorem dX6_heightOf_28 : decode cX6_heightOf 28 = .ok (.sipush 1440, 3) := by decide +kernel
theorem dX6_heightOf_31 : decode cX6_heightOf 31 = .ok (.iadd, 1) := by decide +kernel
theorem dX6_heightOf_32 : decode cX6_heightOf 32 = .ok (.sipush 1440, 3) := by decide +kernel
theorem dX6_heightOf_35 : decode cX6_heightOf 35 = .ok (.irem, 1) := by decide +kernel
theorem dX6_heightOf_36 : decode cX6_heightOf 36 = .ok (.iconst 4, 1) := by decide +kernel
theorem dX6_heightOf_37 : decode cX6_heightOf 37 = .ok (.idiv, 1) := by decide +kernel
theorem dX6_heightOf_38 : decode cX6_heightOf 38 = .ok (.invokestatic 90, 3) := by decide +kernel
theorem dX6_heightOf_41 : decode cX6_heightOf 41 = .ok (.ireturn, 1) := by decide +kernel
theorem dX6_near_0 : decode cX6_near 0 = .ok (.iload_n 1, 1) := by decide +kernel
theorem dX6_near_1 : decode cX6_near 1 = .ok (.iload_n 3, 1) := by decide +kernel
theorem dX6_near_2 : decode cX6_near 2 = .ok (.iload_n 0, 1) := by decide +kernel
theorem dX6_near_3 : decode cX6_near 3 = .ok (.iload_n 2, 1) := by decide +kernel
theorem dX6_near_4 : decode cX6_near 4 = .ok (.isub, 1) := by decide +kernel
theorem dX6_near_5 : decode cX6_near 5 = .ok (.invokestatic 94, 3) := by decide +kernel
theorem dX6_near_8 : decode cX6_near 8 = .ok (.iconst 4, 1) := by decide +kernel
theorem dX6_near_9 : decode cX6_near 9 = .ok (.idiv, 1) := by decide +kernel
theorem dX6_near_10 : decode cX6_near 10 = .ok (.invokestatic 90, 3) := by decide +kernel
theorem dX6_near_13 : decode cX6_near 13 = .ok (.ireturn, 1) := by decide +kernel
theorem dX6_lightOf_0 : decode cX6_lightOf 0 = .ok (.bipush 100, 2) := by decide +kernel
theorem dX6_lightOf_2 : decode cX6_lightOf 2 = .ok (.bipush 100, 2) := by decide +kernel
theorem dX6_lightOf_4 : decode cX6_lightOf 4 = .ok (.aload_n 0, 1) := by decide +kernel
theorem dX6_lightOf_5 : decode cX6_lightOf 5 = .ok (.getfield 97, 3) := by decide +kernel
theorem dX6_lightOf_8 : decode cX6_lightOf 8 = .ok (.bipush 15, 2) := by decide +kernel
theorem dX6_lightOf_10 : decode cX6_lightOf 10 = .ok (.isub, 1) := by decide +kernel
theorem dX6_lightOf_11 : decode cX6_lightOf 11 = .ok (.invokestatic 94, 3) := by decide +kernel
theorem dX6_lightOf_14 : decode cX6_lightOf 14 = .ok (.imul, 1) := by decide +kernel
theorem dX6_lightOf_15 : decode cX6_lightOf 15 = .ok (.bipush 15, 2) := by decide +kernel
theorem dX6_lightOf_17 : decode cX6_lightOf 17 = .ok (.idiv, 1) := by decide +kernel
theorem dX6_lightOf_18 : decode cX6_lightOf 18 = .ok (.isub, 1) := by decide +kernel
theorem dX6_lightOf_19 : decode cX6_lightOf 19 = .ok (.ireturn, 1) := by decide +kernel
theorem dX6_moonNear_0 : decode cX6_moonNear 0 = .ok (.aload_n 0, 1) := by decide +kernel
theorem dX6_moonNear_1 : decode cX6_moonNear 1 = .ok (.getfield 20, 3) := by decide +kernel
theorem dX6_moonNear_4 : decode cX6_moonNear 4 = .ok (.iload_n 1, 1) := by decide +kernel
theorem dX6_moonNear_5 : decode cX6_moonNear 5 = .ok (.iaload, 1) := by decide +kernel
theorem dX6_moonNear_6 : decode cX6_moonNear 6 = .ok (.aload_n 0, 1) := by decide +kernel
theorem dX6_moonNear_7 : decode cX6_moonNear 7 = .ok (.getfield 24, 3) := by decide +kernel
theorem dX6_moonNear_10 : decode cX6_moonNear 10 = .ok (.iload_n 1, 1) := by decide +kernel
theorem dX6_moonNear_11 : decode cX6_moonNear 11 = .ok (.iaload, 1) := by decide +kernel
theorem dX6_moonNear_12 : decode cX6_moonNear 12 = .ok (.aload_n 0, 1) := by decide +kernel
theorem dX6_moonNear_13 : decode cX6_moonNear 13 = .ok (.getfield 100, 3) := by decide +kernel
theorem dX6_moonNear_16 : decode cX6_moonNear 16 = .ok (.aload_n 0, 1) := by decide +kernel
theorem dX6_moonNear_17 : decode cX6_moonNear 17 = .ok (.getfield 103, 3) := by decide +kernel
theorem dX6_moonNear_20 : decode cX6_moonNear 20 = .ok (.invokestatic 106, 3) := by decide +kernel
theorem dX6_moonNear_23 : decode cX6_moonNear 23 = .ok (.ireturn, 1) := by decide +kernel
theorem dX6_moonHeightOf_0 : decode cX6_moonHeightOf 0 = .ok (.aload_n 0, 1) := by decide +kernel
theorem dX6_moonHeightOf_1 : decode cX6_moonHeightOf 1 = .ok (.aload_n 0, 1) := by decide +kernel
theorem dX6_moonHeightOf_2 : decode cX6_moonHeightOf 2 = .ok (.getfield 100, 3) := by decide +kernel
theorem dX6_moonHeightOf_5 : decode cX6_moonHeightOf 5 = .ok (.aload_n 0, 1) := by decide +kernel
theorem dX6_moonHeightOf_6 : decode cX6_moonHeightOf 6 = .ok (.getfield 103, 3) := by decide +kernel
theorem dX6_moonHeightOf_9 : decode cX6_moonHeightOf 9 = .ok (.iload_n 1, 1) := by decide +kernel
theorem dX6_moonHeightOf_10 : decode cX6_moonHeightOf 10 = .ok (.invokevirtual 110, 3) := by decide +kernel
theorem dX6_moonHeightOf_13 : decode cX6_moonHeightOf 13 = .ok (.ireturn, 1) := by decide +kernel
theorem dX6_reasonOf_0 : decode cX6_reasonOf 0 = .ok (.aload_n 0, 1) := by decide +kernel
theorem dX6_reasonOf_1 : decode cX6_reasonOf 1 = .ok (.getfield 16, 3) := by decide +kernel
theorem dX6_reasonOf_4 : decode cX6_reasonOf 4 = .ok (.iload_n 2, 1) := by decide +kernel
theorem dX6_reasonOf_5 : decode cX6_reasonOf 5 = .ok (.baload, 1) := by decide +kernel
theorem dX6_reasonOf_6 : decode cX6_reasonOf 6 = .ok (.ifCond .eq 5, 3) := by decide +kernel
theorem dX6_reasonOf_9 : decode cX6_reasonOf 9 = .ok (.iconst 1, 1) := by decide +kernel
theorem dX6_reasonOf_10 : decode cX6_reasonOf 10 = .ok (.ireturn, 1) := by decide +kernel
theorem dX6_reasonOf_11 : decode cX6_reasonOf 11 = .ok (.aload_n 0, 1) := by decide +kernel
theorem dX6_reasonOf_12 : decode cX6_reasonOf 12 = .ok (.aload_n 0, 1) := by decide +kernel
theorem dX6_reasonOf_13 : decode cX6_reasonOf 13 = .ok (.getfield 20, 3) := by decide +kernel
theorem dX6_reasonOf_16 : decode cX6_reasonOf 16 = .ok (.iload_n 1, 1) := by decide +kernel
theorem dX6_reasonOf_17 : decode cX6_reasonOf 17 = .ok (.iaload, 1) := by decide +kernel
theorem dX6_reasonOf_18 : decode cX6_reasonOf 18 = .ok (.aload_n 0, 1) := by decide +kernel
theorem dX6_reasonOf_19 : decode cX6_reasonOf 19 = .ok (.getfield 24, 3) := by decide +kernel
theorem dX6_reasonOf_22 : decode cX6_reasonOf 22 = .ok (.iload_n 1, 1) := by decide +kernel
theorem dX6_reasonOf_23 : decode cX6_reasonOf 23 = .ok (.iaload, 1) := by decide +kernel
theorem dX6_reasonOf_24 : decode cX6_reasonOf 24 = .ok (.iload_n 2, 1) := by decide +kernel
theorem dX6_reasonOf_25 : decode cX6_reasonOf 25 = .ok (.invokevirtual 110, 3) := by decide +kernel
theorem dX6_reasonOf_28 : decode cX6_reasonOf 28 = .ok (.aload_n 0, 1) := by decide +kernel
theorem dX6_reasonOf_29 : decode cX6_reasonOf 29 = .ok (.getfield 33, 3) := by decide +kernel
theorem dX6_reasonOf_32 : decode cX6_reasonOf 32 = .ok (.iload_n 1, 1) := by decide +kernel
theorem dX6_reasonOf_33 : decode cX6_reasonOf 33 = .ok (.iaload, 1) := by decide +kernel
theorem dX6_reasonOf_34 : decode cX6_reasonOf 34 = .ok (.if_icmp .ge 5, 3) := by decide +kernel
theorem dX6_reasonOf_37 : decode cX6_reasonOf 37 = .ok (.iconst 2, 1) := by decide +kernel
theorem dX6_reasonOf_38 : decode cX6_reasonOf 38 = .ok (.ireturn, 1) := by decide +kernel
theorem dX6_reasonOf_39 : decode cX6_reasonOf 39 = .ok (.aload_n 0, 1) := by decide +kernel
theorem dX6_reasonOf_40 : decode cX6_reasonOf 40 = .ok (.iload_n 2, 1) := by decide +kernel
theorem dX6_reasonOf_41 : decode cX6_reasonOf 41 = .ok (.invokevirtual 113, 3) := by decide +kernel
theorem dX6_reasonOf_44 : decode cX6_reasonOf 44 = .ok (.ifCond .le 21, 3) := by decide +kernel
theorem dX6_reasonOf_47 : decode cX6_reasonOf 47 = .ok (.aload_n 0, 1) := by decide +kernel
theorem dX6_reasonOf_48 : decode cX6_reasonOf 48 = .ok (.iload_n 1, 1) := by decide +kernel
theorem dX6_reasonOf_49 : decode cX6_reasonOf 49 = .ok (.invokevirtual 116, 3) := by decide +kernel
theorem dX6_reasonOf_52 : decode cX6_reasonOf 52 = .ok (.sipush 1000, 3) := by decide +kernel
theorem dX6_reasonOf_55 : decode cX6_reasonOf 55 = .ok (.iconst 5, 1) := by decide +kernel
theorem dX6_reasonOf_56 : decode cX6_reasonOf 56 = .ok (.aload_n 0, 1) := by decide +kernel
theorem dX6_reasonOf_57 : decode cX6_reasonOf 57 = .ok (.invokevirtual 119, 3) := by decide +kernel
theorem dX6_reasonOf_60 : decode cX6_reasonOf 60 = .ok (.imul, 1) := by decide +kernel
theorem dX6_reasonOf_61 : decode cX6_reasonOf 61 = .ok (.isub, 1) := by decide +kernel
theorem dX6_reasonOf_62 : decode cX6_reasonOf 62 = .ok (.if_icmp .gt 7, 3) := by decide +kernel
theorem dX6_reasonOf_65 : decode cX6_reasonOf 65 = .ok (.iconst 0, 1) := by decide +kernel
theorem dX6_reasonOf_66 : decode cX6_reasonOf 66 = .ok (.goto 4, 3) := by decide +kernel
theorem dX6_reasonOf_69 : decode cX6_reasonOf 69 = .ok (.iconst 3, 1) := by decide +kernel
theorem dX6_reasonOf_70 : decode cX6_reasonOf 70 = .ok (.ireturn, 1) := by decide +kernel
theorem dX6_isOpenNow_0 : decode cX6_isOpenNow 0 = .ok (.aload_n 0, 1) := by decide +kernel
theorem dX6_isOpenNow_1 : decode cX6_isOpenNow 1 = .ok (.getfield 45, 3) := by decide +kernel
theorem dX6_isOpenNow_4 : decode cX6_isOpenNow 4 = .ok (.iload_n 1, 1) := by decide +kernel
theorem dX6_isOpenNow_5 : decode cX6_isOpenNow 5 = .ok (.iaload, 1) := by decide +kernel
theorem dX6_isOpenNow_6 : decode cX6_isOpenNow 6 = .ok (.aload_n 0, 1) := by decide +kernel
theorem dX6_isOpenNow_7 : decode cX6_isOpenNow 7 = .ok (.getfield 39, 3) := by decide +kernel
theorem dX6_isOpenNow_10 : decode cX6_isOpenNow 10 = .ok (.iload_n 1, 1) := by decide +kernel
theorem dX6_isOpenNow_11 : decode cX6_isOpenNow 11 = .ok (.iaload, 1) := by decide +kernel
theorem dX6_isOpenNow_12 : decode cX6_isOpenNow 12 = .ok (.if_icmp .ge 37, 3) := by decide +kernel
theorem dX6_isOpenNow_15 : decode cX6_isOpenNow 15 = .ok (.aload_n 0, 1) := by decide +kernel
theorem dX6_isOpenNow_16 : decode cX6_isOpenNow 16 = .ok (.getfield 48, 3) := by decide +kernel
theorem dX6_isOpenNow_19 : decode cX6_isOpenNow 19 = .ok (.iload_n 1, 1) := by decide +kernel
theorem dX6_isOpenNow_20 : decode cX6_isOpenNow 20 = .ok (.iaload, 1) := by decide +kernel
theorem dX6_isOpenNow_21 : decode cX6_isOpenNow 21 = .ok (.iconst (-1), 1) := by decide +kernel
theorem dX6_isOpenNow_22 : decode cX6_isOpenNow 22 = .ok (.if_icmp .eq 23, 3) := by decide +kernel
theorem dX6_isOpenNow_25 : decode cX6_isOpenNow 25 = .ok (.aload_n 0, 1) := by decide +kernel
theorem dX6_isOpenNow_26 : decode cX6_isOpenNow 26 = .ok (.getfield 87, 3) := by decide +kernel
theorem dX6_isOpenNow_29 : decode cX6_isOpenNow 29 = .ok (.aload_n 0, 1) := by decide +kernel
theorem dX6_isOpenNow_30 : decode cX6_isOpenNow 30 = .ok (.getfield 48, 3) := by decide +kernel
theorem dX6_isOpenNow_33 : decode cX6_isOpenNow 33 = .ok (.iload_n 1, 1) := by decide +kernel
theorem dX6_isOpenNow_34 : decode cX6_isOpenNow 34 = .ok (.iaload, 1) := by decide +kernel
theorem dX6_isOpenNow_35 : decode cX6_isOpenNow 35 = .ok (.isub, 1) := by decide +kernel
theorem dX6_isOpenNow_36 : decode cX6_isOpenNow 36 = .ok (.aload_n 0, 1) := by decide +kernel
theorem dX6_isOpenNow_37 : decode cX6_isOpenNow 37 = .ok (.getfield 42, 3) := by decide +kernel
theorem dX6_isOpenNow_40 : decode cX6_isOpenNow 40 = .ok (.iload_n 1, 1) := by decide +kernel
theorem dX6_isOpenNow_41 : decode cX6_isOpenNow 41 = .ok (.iaload, 1) := by decide +kernel
theorem dX6_isOpenNow_42 : decode cX6_isOpenNow 42 = .ok (.if_icmp .lt 7, 3) := by decide +kernel
theorem dX6_isOpenNow_45 : decode cX6_isOpenNow 45 = .ok (.iconst 1, 1) := by decide +kernel
theorem dX6_isOpenNow_46 : decode cX6_isOpenNow 46 = .ok (.goto 4, 3) := by decide +kernel
theorem dX6_isOpenNow_49 : decode cX6_isOpenNow 49 = .ok (.iconst 0, 1) := by decide +kernel
theorem dX6_isOpenNow_50 : decode cX6_isOpenNow 50 = .ok (.ireturn, 1) := by decide +kernel
theorem dX6_workOut_0 : decode cX6_workOut 0 = .ok (.aload_n 0, 1) := by decide +kernel
theorem dX6_workOut_1 : decode cX6_workOut 1 = .ok (.getfield 123, 3) := by decide +kernel
theorem dX6_workOut_4 : decode cX6_workOut 4 = .ok (.ifCond .eq 4, 3) := by decide +kernel
theorem dX6_workOut_7 : decode cX6_workOut 7 = .ok (.return_, 1) := by decide +kernel
theorem dX6_workOut_8 : decode cX6_workOut 8 = .ok (.aload_n 0, 1) := by decide +kernel
theorem dX6_workOut_9 : decode cX6_workOut 9 = .ok (.iconst 1, 1) := by decide +kernel
theorem dX6_workOut_10 : decode cX6_workOut 10 = .ok (.putfield 123, 3) := by decide +kernel
theorem dX6_workOut_13 : decode cX6_workOut 13 = .ok (.iconst 0, 1) := by decide +kernel
theorem dX6_workOut_14 : decode cX6_workOut 14 = .ok (.istore_n 1, 1) := by decide +kernel
theorem dX6_workOut_15 : decode cX6_workOut 15 = .ok (.iload_n 1, 1) := by decide +kernel
theorem dX6_workOut_16 : decode cX6_workOut 16 = .ok (.aload_n 0, 1) := by decide +kernel
theorem dX6_workOut_17 : decode cX6_workOut 17 = .ok (.getfield 63, 3) := by decide +kernel
theorem dX6_workOut_20 : decode cX6_workOut 20 = .ok (.if_icmp .ge 87, 3) := by decide +kernel
theorem dX6_workOut_23 : decode cX6_workOut 23 = .ok (.iconst 0, 1) := by decide +kernel
theorem dX6_workOut_24 : decode cX6_workOut 24 = .ok (.istore_n 2, 1) := by decide +kernel
theorem dX6_workOut_25 : decode cX6_workOut 25 = .ok (.aload_n 0, 1) := by decide +kernel
theorem dX6_workOut_26 : decode cX6_workOut 26 = .ok (.getfield 7, 3) := by decide +kernel
theorem dX6_workOut_29 : decode cX6_workOut 29 = .ok (.iconst 1, 1) := by decide +kernel
theorem dX6_workOut_30 : decode cX6_workOut 30 = .ok (.isub, 1) := by decide +kernel
theorem dX6_workOut_31 : decode cX6_workOut 31 = .ok (.istore_n 3, 1) := by decide +kernel
theorem dX6_workOut_32 : decode cX6_workOut 32 = .ok (.iload_n 3, 1) := by decide +kernel
theorem dX6_workOut_33 : decode cX6_workOut 33 = .ok (.ifCond .lt 68, 3) := by decide +kernel
theorem dX6_workOut_36 : decode cX6_workOut 36 = .ok (.aload_n 0, 1) := by decide +kernel
theorem dX6_workOut_37 : decode cX6_workOut 37 = .ok (.getfield 51, 3) := by decide +kernel
theorem dX6_workOut_40 : decode cX6_workOut 40 = .ok (.sipush 900, 3) := by decide +kernel
theorem dX6_workOut_43 : decode cX6_workOut 43 = .ok (.iload_n 1, 1) := by decide +kernel
theorem dX6_workOut_44 : decode cX6_workOut 44 = .ok (.imul, 1) := by decide +kernel
theorem dX6_workOut_45 : decode cX6_workOut 45 = .ok (.iload_n 3, 1) := by decide +kernel
theorem dX6_workOut_46 : decode cX6_workOut 46 = .ok (.iadd, 1) := by decide +kernel
theorem dX6_workOut_47 : decode cX6_workOut 47 = .ok (.aload_n 0, 1) := by decide +kernel
theorem dX6_workOut_48 : decode cX6_workOut 48 = .ok (.aload_n 0, 1) := by decide +kernel
theorem dX6_workOut_49 : decode cX6_workOut 49 = .ok (.getfield 20, 3) := by decide +kernel
theorem dX6_workOut_52 : decode cX6_workOut 52 = .ok (.iload_n 1, 1) := by decide +kernel
theorem dX6_workOut_53 : decode cX6_workOut 53 = .ok (.iaload, 1) := by decide +kernel
theorem dX6_workOut_54 : decode cX6_workOut 54 = .ok (.aload_n 0, 1) := by decide +kernel
theorem dX6_workOut_55 : decode cX6_workOut 55 = .ok (.getfield 24, 3) := by decide +kernel
theorem dX6_workOut_58 : decode cX6_workOut 58 = .ok (.iload_n 1, 1) := by decide +kernel
theorem dX6_workOut_59 : decode cX6_workOut 59 = .ok (.iaload, 1) := by decide +kernel
theorem dX6_workOut_60 : decode cX6_workOut 60 = .ok (.iload_n 3, 1) := by decide +kernel
theorem dX6_workOut_61 : decode cX6_workOut 61 = .ok (.invokevirtual 110, 3) := by decide +kernel
theorem dX6_workOut_64 : decode cX6_workOut 64 = .ok (.iastore, 1) := by decide +kernel
theorem dX6_workOut_65 : decode cX6_workOut 65 = .ok (.aload_n 0, 1) := by decide +kernel
theorem dX6_workOut_66 : decode cX6_workOut 66 = .ok (.iload_n 1, 1) := by decide +kernel
theorem dX6_workOut_67 : decode cX6_workOut 67 = .ok (.iload_n 3, 1) := by decide +kernel
theorem dX6_workOut_68 : decode cX6_workOut 68 = .ok (.invokevirtual 127, 3) := by decide +kernel
theorem dX6_workOut_71 : decode cX6_workOut 71 = .ok (.ifCond .ne 9, 3) := by decide +kernel
theorem dX6_workOut_74 : decode cX6_workOut 74 = .ok (.iload_n 2, 1) := by decide +kernel
theorem dX6_workOut_75 : decode cX6_workOut 75 = .ok (.iconst 1, 1) := by decide +kernel
theorem dX6_workOut_76 : decode cX6_workOut 76 = .ok (.iadd, 1) := by decide +kernel
theorem dX6_workOut_77 : decode cX6_workOut 77 = .ok (.goto 4, 3) := by decide +kernel
theorem dX6_workOut_80 : decode cX6_workOut 80 = .ok (.iconst 0, 1) := by decide +kernel
theorem dX6_workOut_81 : decode cX6_workOut 81 = .ok (.istore_n 2, 1) := by decide +kernel
theorem dX6_workOut_82 : decode cX6_workOut 82 = .ok (.aload_n 0, 1) := by decide +kernel
theorem dX6_workOut_83 : decode cX6_workOut 83 = .ok (.getfield 54, 3) := by decide +kernel
theorem dX6_workOut_86 : decode cX6_workOut 86 = .ok (.sipush 900, 3) := by decide +kernel
theorem dX6_workOut_89 : decode cX6_workOut 89 = .ok (.iload_n 1, 1) := by decide +kernel
theorem dX6_workOut_90 : decode cX6_workOut 90 = .ok (.imul, 1) := by decide +kernel
theorem dX6_workOut_91 : decode cX6_workOut 91 = .ok (.iload_n 3, 1) := by decide +kernel
theorem dX6_workOut_92 : decode cX6_workOut 92 = .ok (.iadd, 1) := by decide +kernel
theorem dX6_workOut_93 : decode cX6_workOut 93 = .ok (.iload_n 2, 1) := by decide +kernel
theorem dX6_workOut_94 : decode cX6_workOut 94 = .ok (.iastore, 1) := by decide +kernel
theorem dX6_workOut_95 : decode cX6_workOut 95 = .ok (.iinc 3 (-1), 3) := by decide +kernel
theorem dX6_workOut_98 : decode cX6_workOut 98 = .ok (.goto (-66), 3) := by decide +kernel
theorem dX6_workOut_101 : decode cX6_workOut 101 = .ok (.iinc 1 1, 3) := by decide +kernel
theorem dX6_workOut_104 : decode cX6_workOut 104 = .ok (.goto (-89), 3) := by decide +kernel
theorem dX6_workOut_107 : decode cX6_workOut 107 = .ok (.aload_n 0, 1) := by decide +kernel
theorem dX6_workOut_108 : decode cX6_workOut 108 = .ok (.invokevirtual 130, 3) := by decide +kernel
theorem dX6_workOut_111 : decode cX6_workOut 111 = .ok (.return_, 1) := by decide +kernel
theorem dX6_ready_0 : decode cX6_ready 0 = .ok (.iload_n 2, 1) := by decide +kernel
theorem dX6_ready_1 : decode cX6_ready 1 = .ok (.iconst (-1), 1) := by decide +kernel
theorem dX6_ready_2 : decode cX6_ready 2 = .ok (.if_icmp .ne 7, 3) := by decide +kernel
theorem dX6_ready_5 : decode cX6_ready 5 = .ok (.iconst 2, 1) := by decide +kernel
theorem dX6_ready_6 : decode cX6_ready 6 = .ok (.goto 40, 3) := by decide +kernel
theorem dX6_ready_9 : decode cX6_ready 9 = .ok (.iconst 1, 1) := by decide +kernel
theorem dX6_ready_10 : decode cX6_ready 10 = .ok (.sipush 1000, 3) := by decide +kernel
theorem dX6_ready_13 : decode cX6_ready 13 = .ok (.aload_n 0, 1) := by decide +kernel
theorem dX6_ready_14 : decode cX6_ready 14 = .ok (.getfield 20, 3) := by decide +kernel
theorem dX6_ready_17 : decode cX6_ready 17 = .ok (.iload_n 2, 1) := by decide +kernel
theorem dX6_ready_18 : decode cX6_ready 18 = .ok (.iaload, 1) := by decide +kernel
theorem dX6_ready_19 : decode cX6_ready 19 = .ok (.aload_n 0, 1) := by decide +kernel
theorem dX6_ready_20 : decode cX6_ready 20 = .ok (.getfield 24, 3) := by decide +kernel
theorem dX6_ready_23 : decode cX6_ready 23 = .ok (.iload_n 2, 1) := by decide +kernel
theorem dX6_ready_24 : decode cX6_ready 24 = .ok (.iaload, 1) := by decide +kernel
theorem dX6_ready_25 : decode cX6_ready 25 = .ok (.aload_n 0, 1) := by decide +kernel
theorem dX6_ready_26 : decode cX6_ready 26 = .ok (.getfield 20, 3) := by decide +kernel
theorem dX6_ready_29 : decode cX6_ready 29 = .ok (.iload_n 3, 1) := by decide +kernel
theorem dX6_ready_30 : decode cX6_ready 30 = .ok (.iaload, 1) := by decide +kernel
theorem dX6_ready_31 : decode cX6_ready 31 = .ok (.aload_n 0, 1) := by decide +kernel
theorem dX6_ready_32 : decode cX6_ready 32 = .ok (.getfield 24, 3) := by decide +kernel
theorem dX6_ready_35 : decode cX6_ready 35 = .ok (.iload_n 3, 1) := by decide +kernel
theorem dX6_ready_36 : decode cX6_ready 36 = .ok (.iaload, 1) := by decide +kernel
theorem dX6_ready_37 : decode cX6_ready 37 = .ok (.invokestatic 106, 3) := by decide +kernel
theorem dX6_ready_40 : decode cX6_ready 40 = .ok (.isub, 1) := by decide +kernel
theorem dX6_ready_41 : decode cX6_ready 41 = .ok (.sipush 250, 3) := by decide +kernel
theorem dX6_ready_44 : decode cX6_ready 44 = .ok (.idiv, 1) := by decide +kernel
theorem dX6_ready_45 : decode cX6_ready 45 = .ok (.iadd, 1) := by decide +kernel
theorem dX6_ready_46 : decode cX6_ready 46 = .ok (.istore 4, 2) := by decide +kernel
theorem dX6_ready_48 : decode cX6_ready 48 = .ok (.iload_n 2, 1) := by decide +kernel
theorem dX6_ready_49 : decode cX6_ready 49 = .ok (.iconst (-1), 1) := by decide +kernel
theorem dX6_ready_50 : decode cX6_ready 50 = .ok (.if_icmp .ne 7, 3) := by decide +kernel
theorem dX6_ready_53 : decode cX6_ready 53 = .ok (.iconst 0, 1) := by decide +kernel
theorem dX6_ready_54 : decode cX6_ready 54 = .ok (.goto 9, 3) := by decide +kernel
theorem dX6_ready_57 : decode cX6_ready 57 = .ok (.aload_n 0, 1) := by decide +kernel
theorem dX6_ready_58 : decode cX6_ready 58 = .ok (.getfield 27, 3) := by decide +kernel
theorem dX6_ready_61 : decode cX6_ready 61 = .ok (.iload_n 2, 1) := by decide +kernel
theorem dX6_ready_62 : decode cX6_ready 62 = .ok (.iaload, 1) := by decide +kernel
theorem dX6_ready_63 : decode cX6_ready 63 = .ok (.istore 5, 2) := by decide +kernel
theorem dX6_ready_65 : decode cX6_ready 65 = .ok (.iload_n 1, 1) := by decide +kernel
theorem dX6_ready_66 : decode cX6_ready 66 = .ok (.iload 4, 2) := by decide +kernel
theorem dX6_ready_68 : decode cX6_ready 68 = .ok (.iadd, 1) := by decide +kernel
theorem dX6_ready_69 : decode cX6_ready 69 = .ok (.iload 5, 2) := by decide +kernel
theorem dX6_ready_71 : decode cX6_ready 71 = .ok (.aload_n 0, 1) := by decide +kernel
theorem dX6_ready_72 : decode cX6_ready 72 = .ok (.getfield 27, 3) := by decide +kernel
theorem dX6_ready_75 : decode cX6_ready 75 = .ok (.iload_n 3, 1) := by decide +kernel
theorem dX6_ready_76 : decode cX6_ready 76 = .ok (.iaload, 1) := by decide +kernel
theorem dX6_ready_77 : decode cX6_ready 77 = .ok (.if_icmp .ne 7, 3) := by decide +kernel
theorem dX6_ready_80 : decode cX6_ready 80 = .ok (.iconst 0, 1) := by decide +kernel
theorem dX6_ready_81 : decode cX6_ready 81 = .ok (.goto 4, 3) := by decide +kernel
theorem dX6_ready_84 : decode cX6_ready 84 = .ok (.iconst 3, 1) := by decide +kernel
theorem dX6_ready_85 : decode cX6_ready 85 = .ok (.iadd, 1) := by decide +kernel
theorem dX6_ready_86 : decode cX6_ready 86 = .ok (.ireturn, 1) := by decide +kernel
theorem dX6_makePlan_0 : decode cX6_makePlan 0 = .ok (.aload_n 0, 1) := by decide +kernel
theorem dX6_makePlan_1 : decode cX6_makePlan 1 = .ok (.iconst 0, 1) := by decide +kernel
theorem dX6_makePlan_2 : decode cX6_makePlan 2 = .ok (.putfield 133, 3) := by decide +kernel
theorem dX6_makePlan_5 : decode cX6_makePlan 5 = .ok (.bipush 20, 2) := by decide +kernel
theorem dX6_makePlan_7 : decode cX6_makePlan 7 = .ok (.newarray .boolean, 2) := by decide +kernel
theorem dX6_makePlan_9 : decode cX6_makePlan 9 = .ok (.astore_n 1, 1) := by decide +kernel
theorem dX6_makePlan_10 : decode cX6_makePlan 10 = .ok (.iconst (-1), 1) := by decide +kernel
theorem dX6_makePlan_11 : decode cX6_makePlan 11 = .ok (.istore_n 2, 1) := by decide +kernel
theorem dX6_makePlan_12 : decode cX6_makePlan 12 = .ok (.iconst 0, 1) := by decide +kernel
theorem dX6_makePlan_13 : decode cX6_makePlan 13 = .ok (.istore_n 3, 1) := by decide +kernel
theorem dX6_makePlan_14 : decode cX6_makePlan 14 = .ok (.iload_n 3, 1) := by decide +kernel
theorem dX6_makePlan_15 : decode cX6_makePlan 15 = .ok (.aload_n 0, 1) := by decide +kernel
theorem dX6_makePlan_16 : decode cX6_makePlan 16 = .ok (.getfield 7, 3) := by decide +kernel
theorem dX6_makePlan_19 : decode cX6_makePlan 19 = .ok (.if_icmp .ge 249, 3) := by decide +kernel
theorem dX6_makePlan_22 : decode cX6_makePlan 22 = .ok (.iconst (-1), 1) := by decide +kernel
theorem dX6_makePlan_23 : decode cX6_makePlan 23 = .ok (.istore 4, 2) := by decide +kernel
theorem dX6_makePlan_25 : decode cX6_makePlan 25 = .ok (.iconst 0, 1) := by decide +kernel
theorem dX6_makePlan_26 : decode cX6_makePlan 26 = .ok (.istore 5, 2) := by decide +kernel
theorem dX6_makePlan_28 : decode cX6_makePlan 28 = .ok (.iconst 0, 1) := by decide +kernel
theorem dX6_makePlan_29 : decode cX6_makePlan 29 = .ok (.istore 6, 2) := by decide +kernel
theorem dX6_makePlan_31 : decode cX6_makePlan 31 = .ok (.iload 6, 2) := by decide +kernel
theorem dX6_makePlan_33 : decode cX6_makePlan 33 = .ok (.aload_n 0, 1) := by decide +kernel
theorem dX6_makePlan_34 : decode cX6_makePlan 34 = .ok (.getfield 63, 3) := by decide +kernel
theorem dX6_makePlan_37 : decode cX6_makePlan 37 = .ok (.if_icmp .ge 133, 3) := by decide +kernel
theorem dX6_makePlan_40 : decode cX6_makePlan 40 = .ok (.aload_n 1, 1) := by decide +kernel
theorem dX6_makePlan_41 : decode cX6_makePlan 41 = .ok (.iload 6, 2) := by decide +kernel
theorem dX6_makePlan_43 : decode cX6_makePlan 43 = .ok (.baload, 1) := by decide +kernel
theorem dX6_makePlan_44 : decode cX6_makePlan 44 = .ok (.ifCond .ne 120, 3) := by decide +kernel
theorem dX6_makePlan_47 : decode cX6_makePlan 47 = .ok (.aload_n 0, 1) := by decide +kernel
theorem dX6_makePlan_48 : decode cX6_makePlan 48 = .ok (.iload 6, 2) := by decide +kernel
theorem dX6_makePlan_50 : decode cX6_makePlan 50 = .ok (.invokevirtual 136, 3) := by decide +kernel
theorem dX6_makePlan_53 : decode cX6_makePlan 53 = .ok (.ifCond .ne 6, 3) := by decide +kernel
theorem dX6_makePlan_56 : decode cX6_makePlan 56 = .ok (.goto 108, 3) := by decide +kernel
theorem dX6_makePlan_59 : decode cX6_makePlan 59 = .ok (.aload_n 0, 1) := by decide +kernel
theorem dX6_makePlan_60 : decode cX6_makePlan 60 = .ok (.iload_n 3, 1) := by decide +kernel
theorem dX6_makePlan_61 : decode cX6_makePlan 61 = .ok (.iload_n 2, 1) := by decide +kernel
theorem dX6_makePlan_62 : decode cX6_makePlan 62 = .ok (.iload 6, 2) := by decide +kernel
theorem dX6_makePlan_64 : decode cX6_makePlan 64 = .ok (.invokevirtual 140, 3) := by decide +kernel
theorem dX6_makePlan_67 : decode cX6_makePlan 67 = .ok (.istore 7, 2) := by decide +kernel
theorem dX6_makePlan_69 : decode cX6_makePlan 69 = .ok (.iload 7, 2) := by decide +kernel
theorem dX6_makePlan_71 : decode cX6_makePlan 71 = .ok (.aload_n 0, 1) := by decide +kernel
theorem dX6_makePlan_72 : decode cX6_makePlan 72 = .ok (.getfield 7, 3) := by decide +kernel
theorem dX6_makePlan_75 : decode cX6_makePlan 75 = .ok (.if_icmp .ge 89, 3) := by decide +kernel
theorem dX6_makePlan_78 : decode cX6_makePlan 78 = .ok (.aload_n 0, 1) := by decide +kernel
theorem dX6_makePlan_79 : decode cX6_makePlan 79 = .ok (.getfield 54, 3) := by decide +kernel
theorem dX6_makePlan_82 : decode cX6_makePlan 82 = .ok (.sipush 900, 3) := by decide +kernel
theorem dX6_makePlan_85 : decode cX6_makePlan 85 = .ok (.iload 6, 2) := by decide +kernel
theorem dX6_makePlan_87 : decode cX6_makePlan 87 = .ok (.imul, 1) := by decide +kernel
theorem dX6_makePlan_88 : decode cX6_makePlan 88 = .ok (.iload 7, 2) := by decide +kernel
theorem dX6_makePlan_90 : decode cX6_makePlan 90 = .ok (.iadd, 1) := by decide +kernel
theorem dX6_makePlan_91 : decode cX6_makePlan 91 = .ok (.iaload, 1) := by decide +kernel
theorem dX6_makePlan_92 : decode cX6_makePlan 92 = .ok (.aload_n 0, 1) := by decide +kernel
theorem dX6_makePlan_93 : decode cX6_makePlan 93 = .ok (.getfield 36, 3) := by decide +kernel
theorem dX6_makePlan_96 : decode cX6_makePlan 96 = .ok (.iload 6, 2) := by decide +kernel
theorem dX6_makePlan_98 : decode cX6_makePlan 98 = .ok (.iaload, 1) := by decide +kernel
theorem dX6_makePlan_99 : decode cX6_makePlan 99 = .ok (.if_icmp .ge 6, 3) := by decide +kernel
theorem dX6_makePlan_102 : decode cX6_makePlan 102 = .ok (.goto 62, 3) := by decide +kernel
theorem dX6_makePlan_105 : decode cX6_makePlan 105 = .ok (.bipush 100, 2) := by decide +kernel
theorem dX6_makePlan_107 : decode cX6_makePlan 107 = .ok (.aload_n 0, 1) := by decide +kernel
theorem dX6_makePlan_108 : decode cX6_makePlan 108 = .ok (.getfield 30, 3) := by decide +kernel
theorem dX6_makePlan_111 : decode cX6_makePlan 111 = .ok (.iload 6, 2) := by decide +kernel
theorem dX6_makePlan_113 : decode cX6_makePlan 113 = .ok (.iaload, 1) := by decide +kernel
theorem dX6_makePlan_114 : decode cX6_makePlan 114 = .ok (.imul, 1) := by decide +kernel
theorem dX6_makePlan_115 : decode cX6_makePlan 115 = .ok (.aload_n 0, 1) := by decide +kernel
theorem dX6_makePlan_116 : decode cX6_makePlan 116 = .ok (.getfield 51, 3) := by decide +kernel
theorem dX6_makePlan_119 : decode cX6_makePlan 119 = .ok (.sipush 900, 3) := by decide +kernel
theorem dX6_makePlan_122 : decode cX6_makePlan 122 = .ok (.iload 6, 2) := by decide +kernel
theorem dX6_makePlan_124 : decode cX6_makePlan 124 = .ok (.imul, 1) := by decide +kernel
theorem dX6_makePlan_125 : decode cX6_makePlan 125 = .ok (.iload 7, 2) := by decide +kernel
theorem dX6_makePlan_127 : decode cX6_makePlan 127 = .ok (.iadd, 1) := by decide +kernel
theorem dX6_makePlan_128 : decode cX6_makePlan 128 = .ok (.iaload, 1) := by decide +kernel
theorem dX6_makePlan_129 : decode cX6_makePlan 129 = .ok (.bipush 10, 2) := by decide +kernel
theorem dX6_makePlan_131 : decode cX6_makePlan 131 = .ok (.idiv, 1) := by decide +kernel
theorem dX6_makePlan_132 : decode cX6_makePlan 132 = .ok (.iadd, 1) := by decide +kernel
theorem dX6_makePlan_133 : decode cX6_makePlan 133 = .ok (.iload 7, 2) := by decide +kernel
theorem dX6_makePlan_135 : decode cX6_makePlan 135 = .ok (.iload_n 3, 1) := by decide +kernel
theorem dX6_makePlan_136 : decode cX6_makePlan 136 = .ok (.isub, 1) := by decide +kernel
theorem dX6_makePlan_137 : decode cX6_makePlan 137 = .ok (.isub, 1) := by decide +kernel
theorem dX6_makePlan_138 : decode cX6_makePlan 138 = .ok (.istore 8, 2) := by decide +kernel
theorem dX6_makePlan_140 : decode cX6_makePlan 140 = .ok (.iload 4, 2) := by decide +kernel
theorem dX6_makePlan_142 : decode cX6_makePlan 142 = .ok (.iconst (-1), 1) := by decide +kernel
theorem dX6_makePlan_143 : decode cX6_makePlan 143 = .ok (.if_icmp .eq 13, 3) := by decide +kernel
theorem dX6_makePlan_146 : decode cX6_makePlan 146 = .ok (.iload 8, 2) := by decide +kernel
theorem dX6_makePlan_148 : decode cX6_makePlan 148 = .ok (.iload 5, 2) := by decide +kernel
theorem dX6_makePlan_150 : decode cX6_makePlan 150 = .ok (.if_icmp .gt 6, 3) := by decide +kernel
theorem dX6_makePlan_153 : decode cX6_makePlan 153 = .ok (.goto 11, 3) := by decide +kernel
theorem dX6_makePlan_156 : decode cX6_makePlan 156 = .ok (.iload 6, 2) := by decide +kernel
theorem dX6_makePlan_158 : decode cX6_makePlan 158 = .ok (.istore 4, 2) := by decide +kernel
theorem dX6_makePlan_160 : decode cX6_makePlan 160 = .ok (.iload 8, 2) := by decide +kernel
theorem dX6_makePlan_162 : decode cX6_makePlan 162 = .ok (.istore 5, 2) := by decide +kernel
theorem dX6_makePlan_164 : decode cX6_makePlan 164 = .ok (.iinc 6 1, 3) := by decide +kernel
theorem dX6_makePlan_167 : decode cX6_makePlan 167 = .ok (.goto (-136), 3) := by decide +kernel
theorem dX6_makePlan_170 : decode cX6_makePlan 170 = .ok (.iload 4, 2) := by decide +kernel
theorem dX6_makePlan_172 : decode cX6_makePlan 172 = .ok (.iconst (-1), 1) := by decide +kernel
theorem dX6_makePlan_173 : decode cX6_makePlan 173 = .ok (.if_icmp .ne 9, 3) := by decide +kernel
theorem dX6_makePlan_176 : decode cX6_makePlan 176 = .ok (.iinc 3 1, 3) := by decide +kernel
theorem dX6_makePlan_179 : decode cX6_makePlan 179 = .ok (.goto (-165), 3) := by decide +kernel
theorem dX6_makePlan_182 : decode cX6_makePlan 182 = .ok (.aload_n 0, 1) := by decide +kernel
theorem dX6_makePlan_183 : decode cX6_makePlan 183 = .ok (.iload_n 3, 1) := by decide +kernel
theorem dX6_makePlan_184 : decode cX6_makePlan 184 = .ok (.iload_n 2, 1) := by decide +kernel
theorem dX6_makePlan_185 : decode cX6_makePlan 185 = .ok (.iload 4, 2) := by decide +kernel
theorem dX6_makePlan_187 : decode cX6_makePlan 187 = .ok (.invokevirtual 140, 3) := by decide +kernel
theorem dX6_makePlan_190 : decode cX6_makePlan 190 = .ok (.istore 6, 2) := by decide +kernel
theorem dX6_makePlan_192 : decode cX6_makePlan 192 = .ok (.iconst 4, 1) := by decide +kernel
theorem dX6_makePlan_193 : decode cX6_makePlan 193 = .ok (.newarray .int, 2) := by decide +kernel
theorem dX6_makePlan_195 : decode cX6_makePlan 195 = .ok (.dup, 1) := by decide +kernel
theorem dX6_makePlan_196 : decode cX6_makePlan 196 = .ok (.iconst 0, 1) := by decide +kernel
theorem dX6_makePlan_197 : decode cX6_makePlan 197 = .ok (.iload 4, 2) := by decide +kernel
theorem dX6_makePlan_199 : decode cX6_makePlan 199 = .ok (.iastore, 1) := by decide +kernel
theorem dX6_makePlan_200 : decode cX6_makePlan 200 = .ok (.dup, 1) := by decide +kernel
theorem dX6_makePlan_201 : decode cX6_makePlan 201 = .ok (.iconst 1, 1) := by decide +kernel
theorem dX6_makePlan_202 : decode cX6_makePlan 202 = .ok (.iload 6, 2) := by decide +kernel
theorem dX6_makePlan_204 : decode cX6_makePlan 204 = .ok (.iastore, 1) := by decide +kernel
theorem dX6_makePlan_205 : decode cX6_makePlan 205 = .ok (.dup, 1) := by decide +kernel
theorem dX6_makePlan_206 : decode cX6_makePlan 206 = .ok (.iconst 2, 1) := by decide +kernel
theorem dX6_makePlan_207 : decode cX6_makePlan 207 = .ok (.iload 6, 2) := by decide +kernel
theorem dX6_makePlan_209 : decode cX6_makePlan 209 = .ok (.iload_n 3, 1) := by decide +kernel
theorem dX6_makePlan_210 : decode cX6_makePlan 210 = .ok (.isub, 1) := by decide +kernel
theorem dX6_makePlan_211 : decode cX6_makePlan 211 = .ok (.iastore, 1) := by decide +kernel
theorem dX6_makePlan_212 : decode cX6_makePlan 212 = .ok (.dup, 1) := by decide +kernel
theorem dX6_makePlan_213 : decode cX6_makePlan 213 = .ok (.iconst 3, 1) := by decide +kernel
theorem dX6_makePlan_214 : decode cX6_makePlan 214 = .ok (.iload 5, 2) := by decide +kernel
theorem dX6_makePlan_216 : decode cX6_makePlan 216 = .ok (.iastore, 1) := by decide +kernel
theorem dX6_makePlan_217 : decode cX6_makePlan 217 = .ok (.astore 7, 2) := by decide +kernel
theorem dX6_makePlan_219 : decode cX6_makePlan 219 = .ok (.aload 7, 2) := by decide +kernel
theorem dX6_makePlan_221 : decode cX6_makePlan 221 = .ok (.iconst 0, 1) := by decide +kernel
theorem dX6_makePlan_222 : decode cX6_makePlan 222 = .ok (.aload_n 0, 1) := by decide +kernel
theorem dX6_makePlan_223 : decode cX6_makePlan 223 = .ok (.getfield 57, 3) := by decide +kernel
theorem dX6_makePlan_226 : decode cX6_makePlan 226 = .ok (.iconst 4, 1) := by decide +kernel
theorem dX6_makePlan_227 : decode cX6_makePlan 227 = .ok (.aload_n 0, 1) := by decide +kernel
theorem dX6_makePlan_228 : decode cX6_makePlan 228 = .ok (.getfield 133, 3) := by decide +kernel
theorem dX6_makePlan_231 : decode cX6_makePlan 231 = .ok (.imul, 1) := by decide +kernel
theorem dX6_makePlan_232 : decode cX6_makePlan 232 = .ok (.iconst 4, 1) := by decide +kernel
theorem dX6_makePlan_233 : decode cX6_makePlan 233 = .ok (.invokestatic 143, 3) := by decide +kernel
theorem dX6_makePlan_236 : decode cX6_makePlan 236 = .ok (.aload_n 0, 1) := by decide +kernel
theorem dX6_makePlan_237 : decode cX6_makePlan 237 = .ok (.dup, 1) := by decide +kernel
theorem dX6_makePlan_238 : decode cX6_makePlan 238 = .ok (.getfield 133, 3) := by decide +kernel
theorem dX6_makePlan_241 : decode cX6_makePlan 241 = .ok (.iconst 1, 1) := by decide +kernel
theorem dX6_makePlan_242 : decode cX6_makePlan 242 = .ok (.iadd, 1) := by decide +kernel
theorem dX6_makePlan_243 : decode cX6_makePlan 243 = .ok (.putfield 133, 3) := by decide +kernel
theorem dX6_makePlan_246 : decode cX6_makePlan 246 = .ok (.aload_n 1, 1) := by decide +kernel
theorem dX6_makePlan_247 : decode cX6_makePlan 247 = .ok (.iload 4, 2) := by decide +kernel
theorem dX6_makePlan_249 : decode cX6_makePlan 249 = .ok (.iconst 1, 1) := by decide +kernel
theorem dX6_makePlan_250 : decode cX6_makePlan 250 = .ok (.bastore, 1) := by decide +kernel
theorem dX6_makePlan_251 : decode cX6_makePlan 251 = .ok (.iload 4, 2) := by decide +kernel
theorem dX6_makePlan_253 : decode cX6_makePlan 253 = .ok (.istore_n 2, 1) := by decide +kernel
theorem dX6_makePlan_254 : decode cX6_makePlan 254 = .ok (.iload 6, 2) := by decide +kernel
theorem dX6_makePlan_256 : decode cX6_makePlan 256 = .ok (.aload_n 0, 1) := by decide +kernel
theorem dX6_makePlan_257 : decode cX6_makePlan 257 = .ok (.getfield 36, 3) := by decide +kernel
theorem dX6_makePlan_260 : decode cX6_makePlan 260 = .ok (.iload 4, 2) := by decide +kernel
theorem dX6_makePlan_262 : decode cX6_makePlan 262 = .ok (.iaload, 1) := by decide +kernel
theorem dX6_makePlan_263 : decode cX6_makePlan 263 = .ok (.iadd, 1) := by decide +kernel
theorem dX6_makePlan_264 : decode cX6_makePlan 264 = .ok (.istore_n 3, 1) := by decide +kernel
theorem dX6_makePlan_265 : decode cX6_makePlan 265 = .ok (.goto (-251), 3) := by decide +kernel
theorem dX6_makePlan_268 : decode cX6_makePlan 268 = .ok (.return_, 1) := by decide +kernel
theorem dX6_setSite_0 : decode cX6_setSite 0 = .ok (.aload_n 0, 1) := by decide +kernel
theorem dX6_setSite_1 : decode cX6_setSite 1 = .ok (.iconst 0, 1) := by decide +kernel
theorem dX6_setSite_2 : decode cX6_setSite 2 = .ok (.putfield 60, 3) := by decide +kernel
theorem dX6_setSite_5 : decode cX6_setSite 5 = .ok (.iload_n 1, 1) := by decide +kernel
theorem dX6_setSite_6 : decode cX6_setSite 6 = .ok (.bipush (-90), 2) := by decide +kernel
theorem dX6_setSite_8 : decode cX6_setSite 8 = .ok (.bipush 90, 2) := by decide +kernel
theorem dX6_setSite_10 : decode cX6_setSite 10 = .ok (.invokestatic 66, 3) := by decide +kernel
theorem dX6_setSite_13 : decode cX6_setSite 13 = .ok (.ifCond .eq 14, 3) := by decide +kernel
theorem dX6_setSite_16 : decode cX6_setSite 16 = .ok (.iload_n 2, 1) := by decide +kernel
theorem dX6_setSite_17 : decode cX6_setSite 17 = .ok (.iconst 0, 1) := by decide +kernel
theorem dX6_setSite_18 : decode cX6_setSite 18 = .ok (.sipush 1439, 3) := by decide +kernel
theorem dX6_setSite_21 : decode cX6_setSite 21 = .ok (.invokestatic 66, 3) := by decide +kernel
theorem dX6_setSite_24 : decode cX6_setSite 24 = .ok (.ifCond .ne 9, 3) := by decide +kernel
theorem dX6_setSite_27 : decode cX6_setSite 27 = .ok (.aload_n 0, 1) := by decide +kernel
theorem dX6_setSite_28 : decode cX6_setSite 28 = .ok (.iconst 1, 1) := by decide +kernel
theorem dX6_setSite_29 : decode cX6_setSite 29 = .ok (.invokevirtual 149, 3) := by decide +kernel
theorem dX6_setSite_32 : decode cX6_setSite 32 = .ok (.ireturn, 1) := by decide +kernel
theorem dX6_setSite_33 : decode cX6_setSite 33 = .ok (.aload_n 0, 1) := by decide +kernel
theorem dX6_setSite_34 : decode cX6_setSite 34 = .ok (.getfield 13, 3) := by decide +kernel
theorem dX6_setSite_37 : decode cX6_setSite 37 = .ok (.istore_n 3, 1) := by decide +kernel
theorem dX6_setSite_38 : decode cX6_setSite 38 = .ok (.aload_n 0, 1) := by decide +kernel
theorem dX6_setSite_39 : decode cX6_setSite 39 = .ok (.iload_n 1, 1) := by decide +kernel
theorem dX6_setSite_40 : decode cX6_setSite 40 = .ok (.putfield 13, 3) := by decide +kernel
theorem dX6_setSite_43 : decode cX6_setSite 43 = .ok (.aload_n 0, 1) := by decide +kernel
theorem dX6_setSite_44 : decode cX6_setSite 44 = .ok (.iload_n 2, 1) := by decide +kernel
theorem dX6_setSite_45 : decode cX6_setSite 45 = .ok (.putfield 84, 3) := by decide +kernel
theorem dX6_setSite_48 : decode cX6_setSite 48 = .ok (.aload_n 0, 1) := by decide +kernel
theorem dX6_setSite_49 : decode cX6_setSite 49 = .ok (.iconst 0, 1) := by decide +kernel
theorem dX6_setSite_50 : decode cX6_setSite 50 = .ok (.putfield 123, 3) := by decide +kernel
theorem dX6_setSite_53 : decode cX6_setSite 53 = .ok (.iload_n 3, 1) := by decide +kernel
theorem dX6_setSite_54 : decode cX6_setSite 54 = .ok (.ireturn, 1) := by decide +kernel
theorem dX6_setLength_0 : decode cX6_setLength 0 = .ok (.aload_n 0, 1) := by decide +kernel
theorem dX6_setLength_1 : decode cX6_setLength 1 = .ok (.iconst 0, 1) := by decide +kernel
theorem dX6_setLength_2 : decode cX6_setLength 2 = .ok (.putfield 60, 3) := by decide +kernel
theorem dX6_setLength_5 : decode cX6_setLength 5 = .ok (.iload_n 1, 1) := by decide +kernel
theorem dX6_setLength_6 : decode cX6_setLength 6 = .ok (.bipush 60, 2) := by decide +kernel
theorem dX6_setLength_8 : decode cX6_setLength 8 = .ok (.sipush 900, 3) := by decide +kernel
theorem dX6_setLength_11 : decode cX6_setLength 11 = .ok (.invokestatic 66, 3) := by decide +kernel
theorem dX6_setLength_14 : decode cX6_setLength 14 = .ok (.ifCond .ne 9, 3) := by decide +kernel
theorem dX6_setLength_17 : decode cX6_setLength 17 = .ok (.aload_n 0, 1) := by decide +kernel
theorem dX6_setLength_18 : decode cX6_setLength 18 = .ok (.iconst 1, 1) := by decide +kernel
theorem dX6_setLength_19 : decode cX6_setLength 19 = .ok (.invokevirtual 149, 3) := by decide +kernel
theorem dX6_setLength_22 : decode cX6_setLength 22 = .ok (.ireturn, 1) := by decide +kernel
theorem dX6_setLength_23 : decode cX6_setLength 23 = .ok (.aload_n 0, 1) := by decide +kernel
theorem dX6_setLength_24 : decode cX6_setLength 24 = .ok (.getfield 7, 3) := by decide +kernel
theorem dX6_setLength_27 : decode cX6_setLength 27 = .ok (.istore_n 2, 1) := by decide +kernel
theorem dX6_setLength_28 : decode cX6_setLength 28 = .ok (.aload_n 0, 1) := by decide +kernel
theorem dX6_setLength_29 : decode cX6_setLength 29 = .ok (.iload_n 1, 1) := by decide +kernel
theorem dX6_setLength_30 : decode cX6_setLength 30 = .ok (.putfield 7, 3) := by decide +kernel
theorem dX6_setLength_33 : decode cX6_setLength 33 = .ok (.aload_n 0, 1) := by decide +kernel
theorem dX6_setLength_34 : decode cX6_setLength 34 = .ok (.iconst 0, 1) := by decide +kernel
theorem dX6_setLength_35 : decode cX6_setLength 35 = .ok (.putfield 123, 3) := by decide +kernel
theorem dX6_setLength_38 : decode cX6_setLength 38 = .ok (.iload_n 2, 1) := by decide +kernel
theorem dX6_setLength_39 : decode cX6_setLength 39 = .ok (.ireturn, 1) := by decide +kernel
theorem dX6_setMoon_0 : decode cX6_setMoon 0 = .ok (.aload_n 0, 1) := by decide +kernel
theorem dX6_setMoon_1 : decode cX6_setMoon 1 = .ok (.iconst 0, 1) := by decide +kernel
theorem dX6_setMoon_2 : decode cX6_setMoon 2 = .ok (.putfield 60, 3) := by decide +kernel
theorem dX6_setMoon_5 : decode cX6_setMoon 5 = .ok (.iload_n 1, 1) := by decide +kernel
theorem dX6_setMoon_6 : decode cX6_setMoon 6 = .ok (.iload_n 2, 1) := by decide +kernel
theorem dX6_setMoon_7 : decode cX6_setMoon 7 = .ok (.invokestatic 152, 3) := by decide +kernel
theorem dX6_setMoon_10 : decode cX6_setMoon 10 = .ok (.ifCond .eq 13, 3) := by decide +kernel
theorem dX6_setMoon_13 : decode cX6_setMoon 13 = .ok (.iload_n 3, 1) := by decide +kernel
theorem dX6_setMoon_14 : decode cX6_setMoon 14 = .ok (.iconst 0, 1) := by decide +kernel
theorem dX6_setMoon_15 : decode cX6_setMoon 15 = .ok (.bipush 29, 2) := by decide +kernel
theorem dX6_setMoon_17 : decode cX6_setMoon 17 = .ok (.invokestatic 66, 3) := by decide +kernel
theorem dX6_setMoon_20 : decode cX6_setMoon 20 = .ok (.ifCond .ne 9, 3) := by decide +kernel
theorem dX6_setMoon_23 : decode cX6_setMoon 23 = .ok (.aload_n 0, 1) := by decide +kernel
theorem dX6_setMoon_24 : decode cX6_setMoon 24 = .ok (.iconst 1, 1) := by decide +kernel
theorem dX6_setMoon_25 : decode cX6_setMoon 25 = .ok (.invokevirtual 149, 3) := by decide +kernel
theorem dX6_setMoon_28 : decode cX6_setMoon 28 = .ok (.ireturn, 1) := by decide +kernel
theorem dX6_setMoon_29 : decode cX6_setMoon 29 = .ok (.aload_n 0, 1) := by decide +kernel
theorem dX6_setMoon_30 : decode cX6_setMoon 30 = .ok (.iload_n 1, 1) := by decide +kernel
theorem dX6_setMoon_31 : decode cX6_setMoon 31 = .ok (.putfield 100, 3) := by decide +kernel
theorem dX6_setMoon_34 : decode cX6_setMoon 34 = .ok (.aload_n 0, 1) := by decide +kernel
theorem dX6_setMoon_35 : decode cX6_setMoon 35 = .ok (.iload_n 2, 1) := by decide +kernel
theorem dX6_setMoon_36 : decode cX6_setMoon 36 = .ok (.putfield 103, 3) := by decide +kernel
theorem dX6_setMoon_39 : decode cX6_setMoon 39 = .ok (.aload_n 0, 1) := by decide +kernel
theorem dX6_setMoon_40 : decode cX6_setMoon 40 = .ok (.iload_n 3, 1) := by decide +kernel
theorem dX6_setMoon_41 : decode cX6_setMoon 41 = .ok (.putfield 97, 3) := by decide +kernel
theorem dX6_setMoon_44 : decode cX6_setMoon 44 = .ok (.aload_n 0, 1) := by decide +kernel
theorem dX6_setMoon_45 : decode cX6_setMoon 45 = .ok (.iconst 0, 1) := by decide +kernel
theorem dX6_setMoon_46 : decode cX6_setMoon 46 = .ok (.putfield 123, 3) := by decide +kernel
theorem dX6_setMoon_49 : decode cX6_setMoon 49 = .ok (.aload_n 0, 1) := by decide +kernel
theorem dX6_setMoon_50 : decode cX6_setMoon 50 = .ok (.invokevirtual 119, 3) := by decide +kernel
theorem dX6_setMoon_53 : decode cX6_setMoon 53 = .ok (.ireturn, 1) := by decide +kernel
theorem dX6_addClouds_0 : decode cX6_addClouds 0 = .ok (.aload_n 0, 1) := by decide +kernel
theorem dX6_addClouds_1 : decode cX6_addClouds 1 = .ok (.iconst 0, 1) := by decide +kernel
theorem dX6_addClouds_2 : decode cX6_addClouds 2 = .ok (.putfield 60, 3) := by decide +kernel
theorem dX6_addClouds_5 : decode cX6_addClouds 5 = .ok (.iload_n 1, 1) := by decide +kernel
theorem dX6_addClouds_6 : decode cX6_addClouds 6 = .ok (.ifCond .lt 16, 3) := by decide +kernel
theorem dX6_addClouds_9 : decode cX6_addClouds 9 = .ok (.iload_n 1, 1) := by decide +kernel
theorem dX6_addClouds_10 : decode cX6_addClouds 10 = .ok (.iload_n 2, 1) := by decide +kernel
theorem dX6_addClouds_11 : decode cX6_addClouds 11 = .ok (.if_icmp .gt 11, 3) := by decide +kernel
theorem dX6_addClouds_14 : decode cX6_addClouds 14 = .ok (.aload_n 0, 1) := by decide +kernel
theorem dX6_addClouds_15 : decode cX6_addClouds 15 = .ok (.iload_n 2, 1) := by decide +kernel
theorem dX6_addClouds_16 : decode cX6_addClouds 16 = .ok (.invokevirtual 156, 3) := by decide +kernel
theorem dX6_addClouds_19 : decode cX6_addClouds 19 = .ok (.ifCond .ne 9, 3) := by decide +kernel
theorem dX6_addClouds_22 : decode cX6_addClouds 22 = .ok (.aload_n 0, 1) := by decide +kernel
theorem dX6_addClouds_23 : decode cX6_addClouds 23 = .ok (.iconst 1, 1) := by decide +kernel
theorem dX6_addClouds_24 : decode cX6_addClouds 24 = .ok (.invokevirtual 149, 3) := by decide +kernel
theorem dX6_addClouds_27 : decode cX6_addClouds 27 = .ok (.ireturn, 1) := by decide +kernel
theorem dX6_addClouds_28 : decode cX6_addClouds 28 = .ok (.aload_n 0, 1) := by decide +kernel
theorem dX6_addClouds_29 : decode cX6_addClouds 29 = .ok (.getfield 159, 3) := by decide +kernel
theorem dX6_addClouds_32 : decode cX6_addClouds 32 = .ok (.bipush 8, 2) := by decide +kernel
theorem dX6_addClouds_34 : decode cX6_addClouds 34 = .ok (.if_icmp .ne 9, 3) := by decide +kernel
theorem dX6_addClouds_37 : decode cX6_addClouds 37 = .ok (.aload_n 0, 1) := by decide +kernel
theorem dX6_addClouds_38 : decode cX6_addClouds 38 = .ok (.iconst 2, 1) := by decide +kernel
theorem dX6_addClouds_39 : decode cX6_addClouds 39 = .ok (.invokevirtual 149, 3) := by decide +kernel
theorem dX6_addClouds_42 : decode cX6_addClouds 42 = .ok (.ireturn, 1) := by decide +kernel
theorem dX6_addClouds_43 : decode cX6_addClouds 43 = .ok (.aload_n 0, 1) := by decide +kernel
theorem dX6_addClouds_44 : decode cX6_addClouds 44 = .ok (.dup, 1) := by decide +kernel
theorem dX6_addClouds_45 : decode cX6_addClouds 45 = .ok (.getfield 159, 3) := by decide +kernel
theorem dX6_addClouds_48 : decode cX6_addClouds 48 = .ok (.iconst 1, 1) := by decide +kernel
theorem dX6_addClouds_49 : decode cX6_addClouds 49 = .ok (.iadd, 1) := by decide +kernel
theorem dX6_addClouds_50 : decode cX6_addClouds 50 = .ok (.putfield 159, 3) := by decide +kernel
theorem dX6_addClouds_53 : decode cX6_addClouds 53 = .ok (.iload_n 1, 1) := by decide +kernel
theorem dX6_addClouds_54 : decode cX6_addClouds 54 = .ok (.istore_n 3, 1) := by decide +kernel
theorem dX6_addClouds_55 : decode cX6_addClouds 55 = .ok (.iload_n 3, 1) := by decide +kernel
theorem dX6_addClouds_56 : decode cX6_addClouds 56 = .ok (.iload_n 2, 1) := by decide +kernel
theorem dX6_addClouds_57 : decode cX6_addClouds 57 = .ok (.if_icmp .gt 16, 3) := by decide +kernel
theorem dX6_addClouds_60 : decode cX6_addClouds 60 = .ok (.aload_n 0, 1) := by decide +kernel
theorem dX6_addClouds_61 : decode cX6_addClouds 61 = .ok (.getfield 16, 3) := by decide +kernel
theorem dX6_addClouds_64 : decode cX6_addClouds 64 = .ok (.iload_n 3, 1) := by decide +kernel
theorem dX6_addClouds_65 : decode cX6_addClouds 65 = .ok (.iconst 1, 1) := by decide +kernel
theorem dX6_addClouds_66 : decode cX6_addClouds 66 = .ok (.bastore, 1) := by decide +kernel
theorem dX6_addClouds_67 : decode cX6_addClouds 67 = .ok (.iinc 3 1, 3) := by decide +kernel
theorem dX6_addClouds_70 : decode cX6_addClouds 70 = .ok (.goto (-15), 3) := by decide +kernel
theorem dX6_addClouds_73 : decode cX6_addClouds 73 = .ok (.aload_n 0, 1) := by decide +kernel
theorem dX6_addClouds_74 : decode cX6_addClouds 74 = .ok (.iconst 0, 1) := by decide +kernel
theorem dX6_addClouds_75 : decode cX6_addClouds 75 = .ok (.putfield 123, 3) := by decide +kernel
theorem dX6_addClouds_78 : decode cX6_addClouds 78 = .ok (.iconst 0, 1) := by decide +kernel
theorem dX6_addClouds_79 : decode cX6_addClouds 79 = .ok (.istore_n 3, 1) := by decide +kernel
theorem dX6_addClouds_80 : decode cX6_addClouds 80 = .ok (.iconst 0, 1) := by decide +kernel
theorem dX6_addClouds_81 : decode cX6_addClouds 81 = .ok (.istore 4, 2) := by decide +kernel
theorem dX6_addClouds_83 : decode cX6_addClouds 83 = .ok (.iload 4, 2) := by decide +kernel
theorem dX6_addClouds_85 : decode cX6_addClouds 85 = .ok (.aload_n 0, 1) := by decide +kernel
theorem dX6_addClouds_86 : decode cX6_addClouds 86 = .ok (.getfield 7, 3) := by decide +kernel
theorem dX6_addClouds_89 : decode cX6_addClouds 89 = .ok (.if_icmp .ge 27, 3) := by decide +kernel
theorem dX6_addClouds_92 : decode cX6_addClouds 92 = .ok (.iload_n 3, 1) := by decide +kernel
theorem dX6_addClouds_93 : decode cX6_addClouds 93 = .ok (.aload_n 0, 1) := by decide +kernel
theorem dX6_addClouds_94 : decode cX6_addClouds 94 = .ok (.getfield 16, 3) := by decide +kernel
theorem dX6_addClouds_97 : decode cX6_addClouds 97 = .ok (.iload 4, 2) := by decide +kernel
theorem dX6_addClouds_99 : decode cX6_addClouds 99 = .ok (.baload, 1) := by decide +kernel
theorem dX6_addClouds_100 : decode cX6_addClouds 100 = .ok (.ifCond .eq 7, 3) := by decide +kernel
theorem dX6_addClouds_103 : decode cX6_addClouds 103 = .ok (.iconst 0, 1) := by decide +kernel
theorem dX6_addClouds_104 : decode cX6_addClouds 104 = .ok (.goto 4, 3) := by decide +kernel
theorem dX6_addClouds_107 : decode cX6_addClouds 107 = .ok (.iconst 1, 1) := by decide +kernel
theorem dX6_addClouds_108 : decode cX6_addClouds 108 = .ok (.iadd, 1) := by decide +kernel
theorem dX6_addClouds_109 : decode cX6_addClouds 109 = .ok (.istore_n 3, 1) := by decide +kernel
theorem dX6_addClouds_110 : decode cX6_addClouds 110 = .ok (.iinc 4 1, 3) := by decide +kernel
theorem dX6_addClouds_113 : decode cX6_addClouds 113 = .ok (.goto (-30), 3) := by decide +kernel
theorem dX6_addClouds_116 : decode cX6_addClouds 116 = .ok (.iload_n 3, 1) := by decide +kernel
theorem dX6_addClouds_117 : decode cX6_addClouds 117 = .ok (.ireturn, 1) := by decide +kernel
theorem dX6_sine_0 : decode cX6_sine 0 = .ok (.aload_n 0, 1) := by decide +kernel
theorem dX6_sine_1 : decode cX6_sine 1 = .ok (.iconst 0, 1) := by decide +kernel
theorem dX6_sine_2 : decode cX6_sine 2 = .ok (.putfield 60, 3) := by decide +kernel
theorem dX6_sine_5 : decode cX6_sine 5 = .ok (.iload_n 1, 1) := by decide +kernel
theorem dX6_sine_6 : decode cX6_sine 6 = .ok (.sipush (-10000), 3) := by decide +kernel
theorem dX6_sine_9 : decode cX6_sine 9 = .ok (.sipush 10000, 3) := by decide +kernel
theorem dX6_sine_12 : decode cX6_sine 12 = .ok (.invokestatic 66, 3) := by decide +kernel
theorem dX6_sine_15 : decode cX6_sine 15 = .ok (.ifCond .eq 10, 3) := by decide +kernel
theorem dX6_sine_18 : decode cX6_sine 18 = .ok (.iload_n 1, 1) := by decide +kernel
theorem dX6_sine_19 : decode cX6_sine 19 = .ok (.invokestatic 77, 3) := by decide +kernel
theorem dX6_sine_22 : decode cX6_sine 22 = .ok (.goto 8, 3) := by decide +kernel
theorem dX6_sine_25 : decode cX6_sine 25 = .ok (.aload_n 0, 1) := by decide +kernel
theorem dX6_sine_26 : decode cX6_sine 26 = .ok (.iconst 1, 1) := by decide +kernel
theorem dX6_sine_27 : decode cX6_sine 27 = .ok (.invokevirtual 149, 3) := by decide +kernel
theorem dX6_sine_30 : decode cX6_sine 30 = .ok (.ireturn, 1) := by decide +kernel
theorem dX6_addTarget_0 : decode cX6_addTarget 0 = .ok (.aload_n 0, 1) := by decide +kernel
theorem dX6_addTarget_1 : decode cX6_addTarget 1 = .ok (.iconst 0, 1) := by decide +kernel
theorem dX6_addTarget_2 : decode cX6_addTarget 2 = .ok (.putfield 60, 3) := by decide +kernel
theorem dX6_addTarget_5 : decode cX6_addTarget 5 = .ok (.iload_n 1, 1) := by decide +kernel
theorem dX6_addTarget_6 : decode cX6_addTarget 6 = .ok (.iload_n 2, 1) := by decide +kernel
theorem dX6_addTarget_7 : decode cX6_addTarget 7 = .ok (.invokestatic 152, 3) := by decide +kernel
theorem dX6_addTarget_10 : decode cX6_addTarget 10 = .ok (.ifCond .eq 34, 3) := by decide +kernel
theorem dX6_addTarget_13 : decode cX6_addTarget 13 = .ok (.iload_n 3, 1) := by decide +kernel
theorem dX6_addTarget_14 : decode cX6_addTarget 14 = .ok (.iconst 0, 1) := by decide +kernel
theorem dX6_addTarget_15 : decode cX6_addTarget 15 = .ok (.iconst 3, 1) := by decide +kernel
theorem dX6_addTarget_16 : decode cX6_addTarget 16 = .ok (.invokestatic 66, 3) := by decide +kernel
theorem dX6_addTarget_19 : decode cX6_addTarget 19 = .ok (.ifCond .eq 25, 3) := by decide +kernel
theorem dX6_addTarget_22 : decode cX6_addTarget 22 = .ok (.iload 4, 2) := by decide +kernel
theorem dX6_addTarget_24 : decode cX6_addTarget 24 = .ok (.iconst 1, 1) := by decide +kernel
theorem dX6_addTarget_25 : decode cX6_addTarget 25 = .ok (.bipush 9, 2) := by decide +kernel
theorem dX6_addTarget_27 : decode cX6_addTarget 27 = .ok (.invokestatic 66, 3) := by decide +kernel
theorem dX6_addTarget_30 : decode cX6_addTarget 30 = .ok (.ifCond .eq 14, 3) := by decide +kernel
theorem dX6_addTarget_33 : decode cX6_addTarget 33 = .ok (.iload 5, 2) := by decide +kernel
theorem dX6_addTarget_35 : decode cX6_addTarget 35 = .ok (.iconst 5, 1) := by decide +kernel
theorem dX6_addTarget_36 : decode cX6_addTarget 36 = .ok (.bipush 120, 2) := by decide +kernel
theorem dX6_addTarget_38 : decode cX6_addTarget 38 = .ok (.invokestatic 66, 3) := by decide +kernel
theorem dX6_addTarget_41 : decode cX6_addTarget 41 = .ok (.ifCond .ne 9, 3) := by decide +kernel
theorem dX6_addTarget_44 : decode cX6_addTarget 44 = .ok (.aload_n 0, 1) := by decide +kernel
theorem dX6_addTarget_45 : decode cX6_addTarget 45 = .ok (.iconst 1, 1) := by decide +kernel
theorem dX6_addTarget_46 : decode cX6_addTarget 46 = .ok (.invokevirtual 149, 3) := by decide +kernel
theorem dX6_addTarget_49 : decode cX6_addTarget 49 = .ok (.ireturn, 1) := by decide +kernel
theorem dX6_addTarget_50 : decode cX6_addTarget 50 = .ok (.aload_n 0, 1) := by decide +kernel
theorem dX6_addTarget_51 : decode cX6_addTarget 51 = .ok (.getfield 63, 3) := by decide +kernel
theorem dX6_addTarget_54 : decode cX6_addTarget 54 = .ok (.bipush 20, 2) := by decide +kernel
theorem dX6_addTarget_56 : decode cX6_addTarget 56 = .ok (.if_icmp .ne 9, 3) := by decide +kernel
theorem dX6_addTarget_59 : decode cX6_addTarget 59 = .ok (.aload_n 0, 1) := by decide +kernel
theorem dX6_addTarget_60 : decode cX6_addTarget 60 = .ok (.iconst 2, 1) := by decide +kernel
theorem dX6_addTarget_61 : decode cX6_addTarget 61 = .ok (.invokevirtual 149, 3) := by decide +kernel
theorem dX6_addTarget_64 : decode cX6_addTarget 64 = .ok (.ireturn, 1) := by decide +kernel
theorem dX6_addTarget_65 : decode cX6_addTarget 65 = .ok (.aload_n 0, 1) := by decide +kernel
theorem dX6_addTarget_66 : decode cX6_addTarget 66 = .ok (.getfield 20, 3) := by decide +kernel
theorem dX6_addTarget_69 : decode cX6_addTarget 69 = .ok (.aload_n 0, 1) := by decide +kernel
theorem dX6_addTarget_70 : decode cX6_addTarget 70 = .ok (.getfield 63, 3) := by decide +kernel
theorem dX6_addTarget_73 : decode cX6_addTarget 73 = .ok (.iload_n 1, 1) := by decide +kernel
theorem dX6_addTarget_74 : decode cX6_addTarget 74 = .ok (.iastore, 1) := by decide +kernel
theorem dX6_addTarget_75 : decode cX6_addTarget 75 = .ok (.aload_n 0, 1) := by decide +kernel
theorem dX6_addTarget_76 : decode cX6_addTarget 76 = .ok (.getfield 24, 3) := by decide +kernel
theorem dX6_addTarget_79 : decode cX6_addTarget 79 = .ok (.aload_n 0, 1) := by decide +kernel
theorem dX6_addTarget_80 : decode cX6_addTarget 80 = .ok (.getfield 63, 3) := by decide +kernel
theorem dX6_addTarget_83 : decode cX6_addTarget 83 = .ok (.iload_n 2, 1) := by decide +kernel
theorem dX6_addTarget_84 : decode cX6_addTarget 84 = .ok (.iastore, 1) := by decide +kernel
theorem dX6_addTarget_85 : decode cX6_addTarget 85 = .ok (.aload_n 0, 1) := by decide +kernel
theorem dX6_addTarget_86 : decode cX6_addTarget 86 = .ok (.getfield 27, 3) := by decide +kernel
theorem dX6_addTarget_89 : decode cX6_addTarget 89 = .ok (.aload_n 0, 1) := by decide +kernel
theorem dX6_addTarget_90 : decode cX6_addTarget 90 = .ok (.getfield 63, 3) := by decide +kernel
theorem dX6_addTarget_93 : decode cX6_addTarget 93 = .ok (.iload_n 3, 1) := by decide +kernel
theorem dX6_addTarget_94 : decode cX6_addTarget 94 = .ok (.iastore, 1) := by decide +kernel
theorem dX6_addTarget_95 : decode cX6_addTarget 95 = .ok (.aload_n 0, 1) := by decide +kernel
theorem dX6_addTarget_96 : decode cX6_addTarget 96 = .ok (.getfield 30, 3) := by decide +kernel
theorem dX6_addTarget_99 : decode cX6_addTarget 99 = .ok (.aload_n 0, 1) := by decide +kernel
theorem dX6_addTarget_100 : decode cX6_addTarget 100 = .ok (.getfield 63, 3) := by decide +kernel
theorem dX6_addTarget_103 : decode cX6_addTarget 103 = .ok (.iload 4, 2) := by decide +kernel
theorem dX6_addTarget_105 : decode cX6_addTarget 105 = .ok (.iastore, 1) := by decide +kernel
theorem dX6_addTarget_106 : decode cX6_addTarget 106 = .ok (.aload_n 0, 1) := by decide +kernel
theorem dX6_addTarget_107 : decode cX6_addTarget 107 = .ok (.getfield 33, 3) := by decide +kernel
theorem dX6_addTarget_110 : decode cX6_addTarget 110 = .ok (.aload_n 0, 1) := by decide +kernel
theorem dX6_addTarget_111 : decode cX6_addTarget 111 = .ok (.getfield 63, 3) := by decide +kernel
theorem dX6_addTarget_114 : decode cX6_addTarget 114 = .ok (.sipush 300, 3) := by decide +kernel
theorem dX6_addTarget_117 : decode cX6_addTarget 117 = .ok (.iastore, 1) := by decide +kernel
theorem dX6_addTarget_118 : decode cX6_addTarget 118 = .ok (.aload_n 0, 1) := by decide +kernel
theorem dX6_addTarget_119 : decode cX6_addTarget 119 = .ok (.getfield 36, 3) := by decide +kernel
theorem dX6_addTarget_122 : decode cX6_addTarget 122 = .ok (.aload_n 0, 1) := by decide +kernel
theorem dX6_addTarget_123 : decode cX6_addTarget 123 = .ok (.getfield 63, 3) := by decide +kernel
theorem dX6_addTarget_126 : decode cX6_addTarget 126 = .ok (.iload 5, 2) := by decide +kernel
theorem dX6_addTarget_128 : decode cX6_addTarget 128 = .ok (.iastore, 1) := by decide +kernel
theorem dX6_addTarget_129 : decode cX6_addTarget 129 = .ok (.aload_n 0, 1) := by decide +kernel
theorem dX6_addTarget_130 : decode cX6_addTarget 130 = .ok (.getfield 39, 3) := by decide +kernel
theorem dX6_addTarget_133 : decode cX6_addTarget 133 = .ok (.aload_n 0, 1) := by decide +kernel
theorem dX6_addTarget_134 : decode cX6_addTarget 134 = .ok (.getfield 63, 3) := by decide +kernel
theorem dX6_addTarget_137 : decode cX6_addTarget 137 = .ok (.iconst 1, 1) := by decide +kernel
theorem dX6_addTarget_138 : decode cX6_addTarget 138 = .ok (.iastore, 1) := by decide +kernel
theorem dX6_addTarget_139 : decode cX6_addTarget 139 = .ok (.aload_n 0, 1) := by decide +kernel
theorem dX6_addTarget_140 : decode cX6_addTarget 140 = .ok (.getfield 42, 3) := by decide +kernel
theorem dX6_addTarget_143 : decode cX6_addTarget 143 = .ok (.aload_n 0, 1) := by decide +kernel
theorem dX6_addTarget_144 : decode cX6_addTarget 144 = .ok (.getfield 63, 3) := by decide +kernel
theorem dX6_addTarget_147 : decode cX6_addTarget 147 = .ok (.iconst 1, 1) := by decide +kernel
theorem dX6_addTarget_148 : decode cX6_addTarget 148 = .ok (.iastore, 1) := by decide +kernel
theorem dX6_addTarget_149 : decode cX6_addTarget 149 = .ok (.aload_n 0, 1) := by decide +kernel
theorem dX6_addTarget_150 : decode cX6_addTarget 150 = .ok (.getfield 48, 3) := by decide +kernel
theorem dX6_addTarget_153 : decode cX6_addTarget 153 = .ok (.aload_n 0, 1) := by decide +kernel
theorem dX6_addTarget_154 : decode cX6_addTarget 154 = .ok (.getfield 63, 3) := by decide +kernel
theorem dX6_addTarget_157 : decode cX6_addTarget 157 = .ok (.iconst (-1), 1) := by decide +kernel
theorem dX6_addTarget_158 : decode cX6_addTarget 158 = .ok (.iastore, 1) := by decide +kernel
theorem dX6_addTarget_159 : decode cX6_addTarget 159 = .ok (.aload_n 0, 1) := by decide +kernel
theorem dX6_addTarget_160 : decode cX6_addTarget 160 = .ok (.dup, 1) := by decide +kernel
theorem dX6_addTarget_161 : decode cX6_addTarget 161 = .ok (.getfield 63, 3) := by decide +kernel
theorem dX6_addTarget_164 : decode cX6_addTarget 164 = .ok (.iconst 1, 1) := by decide +kernel
theorem dX6_addTarget_165 : decode cX6_addTarget 165 = .ok (.iadd, 1) := by decide +kernel
theorem dX6_addTarget_166 : decode cX6_addTarget 166 = .ok (.putfield 63, 3) := by decide +kernel
theorem dX6_addTarget_169 : decode cX6_addTarget 169 = .ok (.aload_n 0, 1) := by decide +kernel
theorem dX6_addTarget_170 : decode cX6_addTarget 170 = .ok (.iconst 0, 1) := by decide +kernel
theorem dX6_addTarget_171 : decode cX6_addTarget 171 = .ok (.putfield 123, 3) := by decide +kernel
theorem dX6_addTarget_174 : decode cX6_addTarget 174 = .ok (.aload_n 0, 1) := by decide +kernel
theorem dX6_addTarget_175 : decode cX6_addTarget 175 = .ok (.getfield 63, 3) := by decide +kernel
theorem dX6_addTarget_178 : decode cX6_addTarget 178 = .ok (.iconst 1, 1) := by decide +kernel
theorem dX6_addTarget_179 : decode cX6_addTarget 179 = .ok (.isub, 1) := by decide +kernel
theorem dX6_addTarget_180 : decode cX6_addTarget 180 = .ok (.ireturn, 1) := by decide +kernel
theorem dX6_want_0 : decode cX6_want 0 = .ok (.aload_n 0, 1) := by decide +kernel
theorem dX6_want_1 : decode cX6_want 1 = .ok (.iconst 0, 1) := by decide +kernel
theorem dX6_want_2 : decode cX6_want 2 = .ok (.putfield 60, 3) := by decide +kernel
theorem dX6_want_5 : decode cX6_want 5 = .ok (.aload_n 0, 1) := by decide +kernel
theorem dX6_want_6 : decode cX6_want 6 = .ok (.iload_n 1, 1) := by decide +kernel
theorem dX6_want_7 : decode cX6_want 7 = .ok (.invokevirtual 162, 3) := by decide +kernel
theorem dX6_want_10 : decode cX6_want 10 = .ok (.ifCond .ne 9, 3) := by decide +kernel
theorem dX6_want_13 : decode cX6_want 13 = .ok (.aload_n 0, 1) := by decide +kernel
theorem dX6_want_14 : decode cX6_want 14 = .ok (.iconst 1, 1) := by decide +kernel
theorem dX6_want_15 : decode cX6_want 15 = .ok (.invokevirtual 149, 3) := by decide +kernel
theorem dX6_want_18 : decode cX6_want 18 = .ok (.ireturn, 1) := by decide +kernel
theorem dX6_want_19 : decode cX6_want 19 = .ok (.iload_n 2, 1) := by decide +kernel
theorem dX6_want_20 : decode cX6_want 20 = .ok (.sipush (-1000), 3) := by decide +kernel
theorem dX6_want_23 : decode cX6_want 23 = .ok (.sipush 1000, 3) := by decide +kernel
theorem dX6_want_26 : decode cX6_want 26 = .ok (.invokestatic 66, 3) := by decide +kernel
theorem dX6_want_29 : decode cX6_want 29 = .ok (.ifCond .eq 24, 3) := by decide +kernel
theorem dX6_want_32 : decode cX6_want 32 = .ok (.iload_n 3, 1) := by decide +kernel
theorem dX6_want_33 : decode cX6_want 33 = .ok (.iconst 1, 1) := by decide +kernel
theorem dX6_want_34 : decode cX6_want 34 = .ok (.bipush 10, 2) := by decide +kernel
theorem dX6_want_36 : decode cX6_want 36 = .ok (.invokestatic 66, 3) := by decide +kernel
theorem dX6_want_39 : decode cX6_want 39 = .ok (.ifCond .eq 14, 3) := by decide +kernel
theorem dX6_want_42 : decode cX6_want 42 = .ok (.iload 4, 2) := by decide +kernel
theorem dX6_want_44 : decode cX6_want 44 = .ok (.iconst 1, 1) := by decide +kernel
theorem dX6_want_45 : decode cX6_want 45 = .ok (.bipush 20, 2) := by decide +kernel
theorem dX6_want_47 : decode cX6_want 47 = .ok (.invokestatic 66, 3) := by decide +kernel
theorem dX6_want_50 : decode cX6_want 50 = .ok (.ifCond .ne 9, 3) := by decide +kernel
theorem dX6_want_53 : decode cX6_want 53 = .ok (.aload_n 0, 1) := by decide +kernel
theorem dX6_want_54 : decode cX6_want 54 = .ok (.iconst 2, 1) := by decide +kernel
theorem dX6_want_55 : decode cX6_want 55 = .ok (.invokevirtual 149, 3) := by decide +kernel
theorem dX6_want_58 : decode cX6_want 58 = .ok (.ireturn, 1) := by decide +kernel
theorem dX6_want_59 : decode cX6_want 59 = .ok (.aload_n 0, 1) := by decide +kernel
theorem dX6_want_60 : decode cX6_want 60 = .ok (.getfield 39, 3) := by decide +kernel
theorem dX6_want_63 : decode cX6_want 63 = .ok (.iload_n 1, 1) := by decide +kernel
theorem dX6_want_64 : decode cX6_want 64 = .ok (.iaload, 1) := by decide +kernel
theorem dX6_want_65 : decode cX6_want 65 = .ok (.istore 5, 2) := by decide +kernel
theorem dX6_want_67 : decode cX6_want 67 = .ok (.aload_n 0, 1) := by decide +kernel
theorem dX6_want_68 : decode cX6_want 68 = .ok (.getfield 33, 3) := by decide +kernel
theorem dX6_want_71 : decode cX6_want 71 = .ok (.iload_n 1, 1) := by decide +kernel
theorem dX6_want_72 : decode cX6_want 72 = .ok (.iload_n 2, 1) := by decide +kernel
theorem dX6_want_73 : decode cX6_want 73 = .ok (.iastore, 1) := by decide +kernel
theorem dX6_want_74 : decode cX6_want 74 = .ok (.aload_n 0, 1) := by decide +kernel
theorem dX6_want_75 : decode cX6_want 75 = .ok (.getfield 39, 3) := by decide +kernel
theorem dX6_want_78 : decode cX6_want 78 = .ok (.iload_n 1, 1) := by decide +kernel
theorem dX6_want_79 : decode cX6_want 79 = .ok (.iload_n 3, 1) := by decide +kernel
theorem dX6_want_80 : decode cX6_want 80 = .ok (.iastore, 1) := by decide +kernel
theorem dX6_want_81 : decode cX6_want 81 = .ok (.aload_n 0, 1) := by decide +kernel
theorem dX6_want_82 : decode cX6_want 82 = .ok (.getfield 42, 3) := by decide +kernel
theorem dX6_want_85 : decode cX6_want 85 = .ok (.iload_n 1, 1) := by decide +kernel
theorem dX6_want_86 : decode cX6_want 86 = .ok (.iload 4, 2) := by decide +kernel
theorem dX6_want_88 : decode cX6_want 88 = .ok (.iastore, 1) := by decide +kernel
theorem dX6_want_89 : decode cX6_want 89 = .ok (.aload_n 0, 1) := by decide +kernel
theorem dX6_want_90 : decode cX6_want 90 = .ok (.iconst 0, 1) := by decide +kernel
theorem dX6_want_91 : decode cX6_want 91 = .ok (.putfield 123, 3) := by decide +kernel
theorem dX6_want_94 : decode cX6_want 94 = .ok (.iload 5, 2) := by decide +kernel
theorem dX6_want_96 : decode cX6_want 96 = .ok (.ireturn, 1) := by decide +kernel
theorem dX6_told_0 : decode cX6_told 0 = .ok (.bipush 10, 2) := by decide +kernel
theorem dX6_told_2 : decode cX6_told 2 = .ok (.newarray .int, 2) := by decide +kernel
theorem dX6_told_4 : decode cX6_told 4 = .ok (.dup, 1) := by decide +kernel
theorem dX6_told_5 : decode cX6_told 5 = .ok (.iconst 0, 1) := by decide +kernel
theorem dX6_told_6 : decode cX6_told 6 = .ok (.aload_n 0, 1) := by decide +kernel
theorem dX6_told_7 : decode cX6_told 7 = .ok (.getfield 20, 3) := by decide +kernel
theorem dX6_told_10 : decode cX6_told 10 = .ok (.iload_n 1, 1) := by decide +kernel
theorem dX6_told_11 : decode cX6_told 11 = .ok (.iaload, 1) := by decide +kernel
theorem dX6_told_12 : decode cX6_told 12 = .ok (.iastore, 1) := by decide +kernel
theorem dX6_told_13 : decode cX6_told 13 = .ok (.dup, 1) := by decide +kernel
theorem dX6_told_14 : decode cX6_told 14 = .ok (.iconst 1, 1) := by decide +kernel
theorem dX6_told_15 : decode cX6_told 15 = .ok (.aload_n 0, 1) := by decide +kernel
theorem dX6_told_16 : decode cX6_told 16 = .ok (.getfield 24, 3) := by decide +kernel
theorem dX6_told_19 : decode cX6_told 19 = .ok (.iload_n 1, 1) := by decide +kernel
theorem dX6_told_20 : decode cX6_told 20 = .ok (.iaload, 1) := by decide +kernel
theorem dX6_told_21 : decode cX6_told 21 = .ok (.iastore, 1) := by decide +kernel
theorem dX6_told_22 : decode cX6_told 22 = .ok (.dup, 1) := by decide +kernel
theorem dX6_told_23 : decode cX6_told 23 = .ok (.iconst 2, 1) := by decide +kernel
theorem dX6_told_24 : decode cX6_told 24 = .ok (.aload_n 0, 1) := by decide +kernel
theorem dX6_told_25 : decode cX6_told 25 = .ok (.getfield 27, 3) := by decide +kernel
theorem dX6_told_28 : decode cX6_told 28 = .ok (.iload_n 1, 1) := by decide +kernel
theorem dX6_told_29 : decode cX6_told 29 = .ok (.iaload, 1) := by decide +kernel
theorem dX6_told_30 : decode cX6_told 30 = .ok (.iastore, 1) := by decide +kernel
theorem dX6_told_31 : decode cX6_told 31 = .ok (.dup, 1) := by decide +kernel
theorem dX6_told_32 : decode cX6_told 32 = .ok (.iconst 3, 1) := by decide +kernel
theorem dX6_told_33 : decode cX6_told 33 = .ok (.aload_n 0, 1) := by decide +kernel
theorem dX6_told_34 : decode cX6_told 34 = .ok (.getfield 30, 3) := by decide +kernel
theorem dX6_told_37 : decode cX6_told 37 = .ok (.iload_n 1, 1) := by decide +kernel
theorem dX6_told_38 : decode cX6_told 38 = .ok (.iaload, 1) := by decide +kernel
theorem dX6_told_39 : decode cX6_told 39 = .ok (.iastore, 1) := by decide +kernel
theorem dX6_told_40 : decode cX6_told 40 = .ok (.dup, 1) := by decide +kernel
theorem dX6_told_41 : decode cX6_told 41 = .ok (.iconst 4, 1) := by decide +kernel
theorem dX6_told_42 : decode cX6_told 42 = .ok (.aload_n 0, 1) := by decide +kernel
theorem dX6_told_43 : decode cX6_told 43 = .ok (.getfield 33, 3) := by decide +kernel
theorem dX6_told_46 : decode cX6_told 46 = .ok (.iload_n 1, 1) := by decide +kernel
theorem dX6_told_47 : decode cX6_told 47 = .ok (.iaload, 1) := by decide +kernel
theorem dX6_told_48 : decode cX6_told 48 = .ok (.iastore, 1) := by decide +kernel
theorem dX6_told_49 : decode cX6_told 49 = .ok (.dup, 1) := by decide +kernel
theorem dX6_told_50 : decode cX6_told 50 = .ok (.iconst 5, 1) := by decide +kernel
theorem dX6_told_51 : decode cX6_told 51 = .ok (.aload_n 0, 1) := by decide +kernel
theorem dX6_told_52 : decode cX6_told 52 = .ok (.getfield 36, 3) := by decide +kernel
theorem dX6_told_55 : decode cX6_told 55 = .ok (.iload_n 1, 1) := by decide +kernel
theorem dX6_told_56 : decode cX6_told 56 = .ok (.iaload, 1) := by decide +kernel
theorem dX6_told_57 : decode cX6_told 57 = .ok (.iastore, 1) := by decide +kernel
theorem dX6_told_58 : decode cX6_told 58 = .ok (.dup, 1) := by decide +kernel
theorem dX6_told_59 : decode cX6_told 59 = .ok (.bipush 6, 2) := by decide +kernel
theorem dX6_told_61 : decode cX6_told 61 = .ok (.aload_n 0, 1) := by decide +kernel
theorem dX6_told_62 : decode cX6_told 62 = .ok (.getfield 39, 3) := by decide +kernel
theorem dX6_told_65 : decode cX6_told 65 = .ok (.iload_n 1, 1) := by decide +kernel
theorem dX6_told_66 : decode cX6_told 66 = .ok (.iaload, 1) := by decide +kernel
theorem dX6_told_67 : decode cX6_told 67 = .ok (.iastore, 1) := by decide +kernel
theorem dX6_told_68 : decode cX6_told 68 = .ok (.dup, 1) := by decide +kernel
theorem dX6_told_69 : decode cX6_told 69 = .ok (.bipush 7, 2) := by decide +kernel
theorem dX6_told_71 : decode cX6_told 71 = .ok (.aload_n 0, 1) := by decide +kernel
theorem dX6_told_72 : decode cX6_told 72 = .ok (.getfield 42, 3) := by decide +kernel
theorem dX6_told_75 : decode cX6_told 75 = .ok (.iload_n 1, 1) := by decide +kernel
theorem dX6_told_76 : decode cX6_told 76 = .ok (.iaload, 1) := by decide +kernel
theorem dX6_told_77 : decode cX6_told 77 = .ok (.iastore, 1) := by decide +kernel
theorem dX6_told_78 : decode cX6_told 78 = .ok (.dup, 1) := by decide +kernel
theorem dX6_told_79 : decode cX6_told 79 = .ok (.bipush 8, 2) := by decide +kernel
theorem dX6_told_81 : decode cX6_told 81 = .ok (.aload_n 0, 1) := by decide +kernel
theorem dX6_told_82 : decode cX6_told 82 = .ok (.getfield 45, 3) := by decide +kernel
theorem dX6_told_85 : decode cX6_told 85 = .ok (.iload_n 1, 1) := by decide +kernel
theorem dX6_told_86 : decode cX6_told 86 = .ok (.iaload, 1) := by decide +kernel
theorem dX6_told_87 : decode cX6_told 87 = .ok (.iastore, 1) := by decide +kernel
theorem dX6_told_88 : decode cX6_told 88 = .ok (.dup, 1) := by decide +kernel
theorem dX6_told_89 : decode cX6_told 89 = .ok (.bipush 9, 2) := by decide +kernel
theorem dX6_told_91 : decode cX6_told 91 = .ok (.aload_n 0, 1) := by decide +kernel
theorem dX6_told_92 : decode cX6_told 92 = .ok (.getfield 48, 3) := by decide +kernel
theorem dX6_told_95 : decode cX6_told 95 = .ok (.iload_n 1, 1) := by decide +kernel
theorem dX6_told_96 : decode cX6_told 96 = .ok (.iaload, 1) := by decide +kernel
theorem dX6_told_97 : decode cX6_told 97 = .ok (.iastore, 1) := by decide +kernel
theorem dX6_told_98 : decode cX6_told 98 = .ok (.astore_n 3, 1) := by decide +kernel
theorem dX6_told_99 : decode cX6_told 99 = .ok (.aload_n 3, 1) := by decide +kernel
theorem dX6_told_100 : decode cX6_told 100 = .ok (.iload_n 2, 1) := by decide +kernel
theorem dX6_told_101 : decode cX6_told 101 = .ok (.iaload, 1) := by decide +kernel
theorem dX6_told_102 : decode cX6_told 102 = .ok (.ireturn, 1) := by decide +kernel
theorem dX6_target_0 : decode cX6_target 0 = .ok (.aload_n 0, 1) := by decide +kernel
theorem dX6_target_1 : decode cX6_target 1 = .ok (.iconst 0, 1) := by decide +kernel
theorem dX6_target_2 : decode cX6_target 2 = .ok (.putfield 60, 3) := by decide +kernel
theorem dX6_target_5 : decode cX6_target 5 = .ok (.aload_n 0, 1) := by decide +kernel
theorem dX6_target_6 : decode cX6_target 6 = .ok (.iload_n 1, 1) := by decide +kernel
theorem dX6_target_7 : decode cX6_target 7 = .ok (.invokevirtual 162, 3) := by decide +kernel
theorem dX6_target_10 : decode cX6_target 10 = .ok (.ifCond .eq 22, 3) := by decide +kernel
theorem dX6_target_13 : decode cX6_target 13 = .ok (.iload_n 2, 1) := by decide +kernel
theorem dX6_target_14 : decode cX6_target 14 = .ok (.iconst 0, 1) := by decide +kernel
theorem dX6_target_15 : decode cX6_target 15 = .ok (.bipush 9, 2) := by decide +kernel
theorem dX6_target_17 : decode cX6_target 17 = .ok (.invokestatic 66, 3) := by decide +kernel
theorem dX6_target_20 : decode cX6_target 20 = .ok (.ifCond .eq 12, 3) := by decide +kernel
theorem dX6_target_23 : decode cX6_target 23 = .ok (.aload_n 0, 1) := by decide +kernel
theorem dX6_target_24 : decode cX6_target 24 = .ok (.iload_n 1, 1) := by decide +kernel
theorem dX6_target_25 : decode cX6_target 25 = .ok (.iload_n 2, 1) := by decide +kernel
theorem dX6_target_26 : decode cX6_target 26 = .ok (.invokevirtual 165, 3) := by decide +kernel
theorem dX6_target_29 : decode cX6_target 29 = .ok (.goto 8, 3) := by decide +kernel
theorem dX6_target_32 : decode cX6_target 32 = .ok (.aload_n 0, 1) := by decide +kernel
theorem dX6_target_33 : decode cX6_target 33 = .ok (.iconst 1, 1) := by decide +kernel
theorem dX6_target_34 : decode cX6_target 34 = .ok (.invokevirtual 149, 3) := by decide +kernel
theorem dX6_target_37 : decode cX6_target 37 = .ok (.ireturn, 1) := by decide +kernel
theorem dX6_height_0 : decode cX6_height 0 = .ok (.aload_n 0, 1) := by decide +kernel
theorem dX6_height_1 : decode cX6_height 1 = .ok (.iconst 0, 1) := by decide +kernel
theorem dX6_height_2 : decode cX6_height 2 = .ok (.putfield 60, 3) := by decide +kernel
theorem dX6_height_5 : decode cX6_height 5 = .ok (.aload_n 0, 1) := by decide +kernel
theorem dX6_height_6 : decode cX6_height 6 = .ok (.iload_n 1, 1) := by decide +kernel
theorem dX6_height_7 : decode cX6_height 7 = .ok (.invokevirtual 162, 3) := by decide +kernel
theorem dX6_height_10 : decode cX6_height 10 = .ok (.ifCond .ne 9, 3) := by decide +kernel
theorem dX6_height_13 : decode cX6_height 13 = .ok (.aload_n 0, 1) := by decide +kernel
theorem dX6_height_14 : decode cX6_height 14 = .ok (.iconst 1, 1) := by decide +kernel
theorem dX6_height_15 : decode cX6_height 15 = .ok (.invokevirtual 149, 3) := by decide +kernel
theorem dX6_height_18 : decode cX6_height 18 = .ok (.ireturn, 1) := by decide +kernel
theorem dX6_height_19 : decode cX6_height 19 = .ok (.aload_n 0, 1) := by decide +kernel
theorem dX6_height_20 : decode cX6_height 20 = .ok (.iload_n 2, 1) := by decide +kernel
theorem dX6_height_21 : decode cX6_height 21 = .ok (.invokevirtual 156, 3) := by decide +kernel
theorem dX6_height_24 : decode cX6_height 24 = .ok (.ifCond .eq 23, 3) := by decide +kernel
theorem dX6_height_27 : decode cX6_height 27 = .ok (.aload_n 0, 1) := by decide +kernel
theorem dX6_height_28 : decode cX6_height 28 = .ok (.aload_n 0, 1) := by decide +kernel
theorem dX6_height_29 : decode cX6_height 29 = .ok (.getfield 20, 3) := by decide +kernel
theorem dX6_height_32 : decode cX6_height 32 = .ok (.iload_n 1, 1) := by decide +kernel
theorem dX6_height_33 : decode cX6_height 33 = .ok (.iaload, 1) := by decide +kernel
theorem dX6_height_34 : decode cX6_height 34 = .ok (.aload_n 0, 1) := by decide +kernel
theorem dX6_height_35 : decode cX6_height 35 = .ok (.getfield 24, 3) := by decide +kernel
theorem dX6_height_38 : decode cX6_height 38 = .ok (.iload_n 1, 1) := by decide +kernel
theorem dX6_height_39 : decode cX6_height 39 = .ok (.iaload, 1) := by decide +kernel
theorem dX6_height_40 : decode cX6_height 40 = .ok (.iload_n 2, 1) := by decide +kernel
theorem dX6_height_41 : decode cX6_height 41 = .ok (.invokevirtual 110, 3) := by decide +kernel
theorem dX6_height_44 : decode cX6_height 44 = .ok (.goto 8, 3) := by decide +kernel
theorem dX6_height_47 : decode cX6_height 47 = .ok (.aload_n 0, 1) := by decide +kernel
theorem dX6_height_48 : decode cX6_height 48 = .ok (.iconst 2, 1) := by decide +kernel
theorem dX6_height_49 : decode cX6_height 49 = .ok (.invokevirtual 149, 3) := by decide +kernel
theorem dX6_height_52 : decode cX6_height 52 = .ok (.ireturn, 1) := by decide +kernel
theorem dX6_nearness_0 : decode cX6_nearness 0 = .ok (.aload_n 0, 1) := by decide +kernel
theorem dX6_nearness_1 : decode cX6_nearness 1 = .ok (.iconst 0, 1) := by decide +kernel
theorem dX6_nearness_2 : decode cX6_nearness 2 = .ok (.putfield 60, 3) := by decide +kernel
theorem dX6_nearness_5 : decode cX6_nearness 5 = .ok (.aload_n 0, 1) := by decide +kernel
theorem dX6_nearness_6 : decode cX6_nearness 6 = .ok (.iload_n 1, 1) := by decide +kernel
theorem dX6_nearness_7 : decode cX6_nearness 7 = .ok (.invokevirtual 162, 3) := by decide +kernel
theorem dX6_nearness_10 : decode cX6_nearness 10 = .ok (.ifCond .eq 41, 3) := by decide +kernel
theorem dX6_nearness_13 : decode cX6_nearness 13 = .ok (.aload_n 0, 1) := by decide +kernel
theorem dX6_nearness_14 : decode cX6_nearness 14 = .ok (.iload_n 2, 1) := by decide +kernel
theorem dX6_nearness_15 : decode cX6_nearness 15 = .ok (.invokevirtual 162, 3) := by decide +kernel
theorem dX6_nearness_18 : decode cX6_nearness 18 = .ok (.ifCond .eq 33, 3) := by decide +kernel
theorem dX6_nearness_21 : decode cX6_nearness 21 = .ok (.aload_n 0, 1) := by decide +kernel
theorem dX6_nearness_22 : decode cX6_nearness 22 = .ok (.getfield 20, 3) := by decide +kernel
theorem dX6_nearness_25 : decode cX6_nearness 25 = .ok (.iload_n 1, 1) := by decide +kernel
theorem dX6_nearness_26 : decode cX6_nearness 26 = .ok (.iaload, 1) := by decide +kernel
theorem dX6_nearness_27 : decode cX6_nearness 27 = .ok (.aload_n 0, 1) := by decide +kernel
theorem dX6_nearness_28 : decode cX6_nearness 28 = .ok (.getfield 24, 3) := by decide +kernel
theorem dX6_nearness_31 : decode cX6_nearness 31 = .ok (.iload_n 1, 1) := by decide +kernel
theorem dX6_nearness_32 : decode cX6_nearness 32 = .ok (.iaload, 1) := by decide +kernel
theorem dX6_nearness_33 : decode cX6_nearness 33 = .ok (.aload_n 0, 1) := by decide +kernel
theorem dX6_nearness_34 : decode cX6_nearness 34 = .ok (.getfield 20, 3) := by decide +kernel
theorem dX6_nearness_37 : decode cX6_nearness 37 = .ok (.iload_n 2, 1) := by decide +kernel
theorem dX6_nearness_38 : decode cX6_nearness 38 = .ok (.iaload, 1) := by decide +kernel
theorem dX6_nearness_39 : decode cX6_nearness 39 = .ok (.aload_n 0, 1) := by decide +kernel
theorem dX6_nearness_40 : decode cX6_nearness 40 = .ok (.getfield 24, 3) := by decide +kernel
theorem dX6_nearness_43 : decode cX6_nearness 43 = .ok (.iload_n 2, 1) := by decide +kernel
theorem dX6_nearness_44 : decode cX6_nearness 44 = .ok (.iaload, 1) := by decide +kernel
theorem dX6_nearness_45 : decode cX6_nearness 45 = .ok (.invokestatic 106, 3) := by decide +kernel
theorem dX6_nearness_48 : decode cX6_nearness 48 = .ok (.goto 8, 3) := by decide +kernel
theorem dX6_nearness_51 : decode cX6_nearness 51 = .ok (.aload_n 0, 1) := by decide +kernel
theorem dX6_nearness_52 : decode cX6_nearness 52 = .ok (.iconst 1, 1) := by decide +kernel
theorem dX6_nearness_53 : decode cX6_nearness 53 = .ok (.invokevirtual 149, 3) := by decide +kernel
theorem dX6_nearness_56 : decode cX6_nearness 56 = .ok (.ireturn, 1) := by decide +kernel
theorem dX6_moonNearness_0 : decode cX6_moonNearness 0 = .ok (.aload_n 0, 1) := by decide +kernel
theorem dX6_moonNearness_1 : decode cX6_moonNearness 1 = .ok (.iconst 0, 1) := by decide +kernel
theorem dX6_moonNearness_2 : decode cX6_moonNearness 2 = .ok (.putfield 60, 3) := by decide +kernel
theorem dX6_moonNearness_5 : decode cX6_moonNearness 5 = .ok (.aload_n 0, 1) := by decide +kernel
theorem dX6_moonNearness_6 : decode cX6_moonNearness 6 = .ok (.iload_n 1, 1) := by decide +kernel
theorem dX6_moonNearness_7 : decode cX6_moonNearness 7 = .ok (.invokevirtual 162, 3) := by decide +kernel
theorem dX6_moonNearness_10 : decode cX6_moonNearness 10 = .ok (.ifCond .eq 11, 3) := by decide +kernel
theorem dX6_moonNearness_13 : decode cX6_moonNearness 13 = .ok (.aload_n 0, 1) := by decide +kernel
theorem dX6_moonNearness_14 : decode cX6_moonNearness 14 = .ok (.iload_n 1, 1) := by decide +kernel
theorem dX6_moonNearness_15 : decode cX6_moonNearness 15 = .ok (.invokevirtual 116, 3) := by decide +kernel
theorem dX6_moonNearness_18 : decode cX6_moonNearness 18 = .ok (.goto 8, 3) := by decide +kernel
theorem dX6_moonNearness_21 : decode cX6_moonNearness 21 = .ok (.aload_n 0, 1) := by decide +kernel
theorem dX6_moonNearness_22 : decode cX6_moonNearness 22 = .ok (.iconst 1, 1) := by decide +kernel
theorem dX6_moonNearness_23 : decode cX6_moonNearness 23 = .ok (.invokevirtual 149, 3) := by decide +kernel
theorem dX6_moonNearness_26 : decode cX6_moonNearness 26 = .ok (.ireturn, 1) := by decide +kernel
theorem dX6_moonHeight_0 : decode cX6_moonHeight 0 = .ok (.aload_n 0, 1) := by decide +kernel
theorem dX6_moonHeight_1 : decode cX6_moonHeight 1 = .ok (.iconst 0, 1) := by decide +kernel
theorem dX6_moonHeight_2 : decode cX6_moonHeight 2 = .ok (.putfield 60, 3) := by decide +kernel
theorem dX6_moonHeight_5 : decode cX6_moonHeight 5 = .ok (.aload_n 0, 1) := by decide +kernel
theorem dX6_moonHeight_6 : decode cX6_moonHeight 6 = .ok (.iload_n 1, 1) := by decide +kernel
theorem dX6_moonHeight_7 : decode cX6_moonHeight 7 = .ok (.invokevirtual 156, 3) := by decide +kernel
theorem dX6_moonHeight_10 : decode cX6_moonHeight 10 = .ok (.ifCond .eq 11, 3) := by decide +kernel
theorem dX6_moonHeight_13 : decode cX6_moonHeight 13 = .ok (.aload_n 0, 1) := by decide +kernel
theorem dX6_moonHeight_14 : decode cX6_moonHeight 14 = .ok (.iload_n 1, 1) := by decide +kernel
theorem dX6_moonHeight_15 : decode cX6_moonHeight 15 = .ok (.invokevirtual 113, 3) := by decide +kernel
theorem dX6_moonHeight_18 : decode cX6_moonHeight 18 = .ok (.goto 8, 3) := by decide +kernel
theorem dX6_moonHeight_21 : decode cX6_moonHeight 21 = .ok (.aload_n 0, 1) := by decide +kernel
theorem dX6_moonHeight_22 : decode cX6_moonHeight 22 = .ok (.iconst 1, 1) := by decide +kernel
theorem dX6_moonHeight_23 : decode cX6_moonHeight 23 = .ok (.invokevirtual 149, 3) := by decide +kernel
theorem dX6_moonHeight_26 : decode cX6_moonHeight 26 = .ok (.ireturn, 1) := by decide +kernel
theorem dX6_reason_0 : decode cX6_reason 0 = .ok (.aload_n 0, 1) := by decide +kernel
theorem dX6_reason_1 : decode cX6_reason 1 = .ok (.iconst 0, 1) := by decide +kernel
theorem dX6_reason_2 : decode cX6_reason 2 = .ok (.putfield 60, 3) := by decide +kernel
theorem dX6_reason_5 : decode cX6_reason 5 = .ok (.aload_n 0, 1) := by decide +kernel
theorem dX6_reason_6 : decode cX6_reason 6 = .ok (.iload_n 1, 1) := by decide +kernel
theorem dX6_reason_7 : decode cX6_reason 7 = .ok (.invokevirtual 162, 3) := by decide +kernel
theorem dX6_reason_10 : decode cX6_reason 10 = .ok (.ifCond .ne 9, 3) := by decide +kernel
theorem dX6_reason_13 : decode cX6_reason 13 = .ok (.aload_n 0, 1) := by decide +kernel
theorem dX6_reason_14 : decode cX6_reason 14 = .ok (.iconst 1, 1) := by decide +kernel
theorem dX6_reason_15 : decode cX6_reason 15 = .ok (.invokevirtual 149, 3) := by decide +kernel
theorem dX6_reason_18 : decode cX6_reason 18 = .ok (.ireturn, 1) := by decide +kernel
theorem dX6_reason_19 : decode cX6_reason 19 = .ok (.aload_n 0, 1) := by decide +kernel
theorem dX6_reason_20 : decode cX6_reason 20 = .ok (.iload_n 2, 1) := by decide +kernel
theorem dX6_reason_21 : decode cX6_reason 21 = .ok (.invokevirtual 156, 3) := by decide +kernel
theorem dX6_reason_24 : decode cX6_reason 24 = .ok (.ifCond .eq 12, 3) := by decide +kernel
theorem dX6_reason_27 : decode cX6_reason 27 = .ok (.aload_n 0, 1) := by decide +kernel
theorem dX6_reason_28 : decode cX6_reason 28 = .ok (.iload_n 1, 1) := by decide +kernel
theorem dX6_reason_29 : decode cX6_reason 29 = .ok (.iload_n 2, 1) := by decide +kernel
theorem dX6_reason_30 : decode cX6_reason 30 = .ok (.invokevirtual 127, 3) := by decide +kernel
theorem dX6_reason_33 : decode cX6_reason 33 = .ok (.goto 8, 3) := by decide +kernel
theorem dX6_reason_36 : decode cX6_reason 36 = .ok (.aload_n 0, 1) := by decide +kernel
theorem dX6_reason_37 : decode cX6_reason 37 = .ok (.iconst 2, 1) := by decide +kernel
theorem dX6_reason_38 : decode cX6_reason 38 = .ok (.invokevirtual 149, 3) := by decide +kernel
theorem dX6_reason_41 : decode cX6_reason 41 = .ok (.ireturn, 1) := by decide +kernel
theorem dX6_windowOf_0 : decode cX6_windowOf 0 = .ok (.aload_n 0, 1) := by decide +kernel
theorem dX6_windowOf_1 : decode cX6_windowOf 1 = .ok (.invokevirtual 168, 3) := by decide +kernel
theorem dX6_windowOf_4 : decode cX6_windowOf 4 = .ok (.sipush 900, 3) := by decide +kernel
theorem dX6_windowOf_7 : decode cX6_windowOf 7 = .ok (.iload_n 1, 1) := by decide +kernel
theorem dX6_windowOf_8 : decode cX6_windowOf 8 = .ok (.imul, 1) := by decide +kernel
theorem dX6_windowOf_9 : decode cX6_windowOf 9 = .ok (.istore_n 3, 1) := by decide +kernel
theorem dX6_windowOf_10 : decode cX6_windowOf 10 = .ok (.iconst (-1), 1) := by decide +kernel
theorem dX6_windowOf_11 : decode cX6_windowOf 11 = .ok (.istore 4, 2) := by decide +kernel
theorem dX6_windowOf_13 : decode cX6_windowOf 13 = .ok (.iconst (-1), 1) := by decide +kernel
theorem dX6_windowOf_14 : decode cX6_windowOf 14 = .ok (.istore 5, 2) := by decide +kernel
theorem dX6_windowOf_16 : decode cX6_windowOf 16 = .ok (.iconst 0, 1) := by decide +kernel
theorem dX6_windowOf_17 : decode cX6_windowOf 17 = .ok (.istore 6, 2) := by decide +kernel
theorem dX6_windowOf_19 : decode cX6_windowOf 19 = .ok (.iconst 0, 1) := by decide +kernel
theorem dX6_windowOf_20 : decode cX6_windowOf 20 = .ok (.istore 7, 2) := by decide +kernel
theorem dX6_windowOf_22 : decode cX6_windowOf 22 = .ok (.iconst (-1), 1) := by decide +kernel
theorem dX6_windowOf_23 : decode cX6_windowOf 23 = .ok (.istore 8, 2) := by decide +kernel
theorem dX6_windowOf_25 : decode cX6_windowOf 25 = .ok (.iconst 0, 1) := by decide +kernel
theorem dX6_windowOf_26 : decode cX6_windowOf 26 = .ok (.istore 9, 2) := by decide +kernel
theorem dX6_windowOf_28 : decode cX6_windowOf 28 = .ok (.iload 9, 2) := by decide +kernel
theorem dX6_windowOf_30 : decode cX6_windowOf 30 = .ok (.aload_n 0, 1) := by decide +kernel
theorem dX6_windowOf_31 : decode cX6_windowOf 31 = .ok (.getfield 7, 3) := by decide +kernel
theorem dX6_windowOf_34 : decode cX6_windowOf 34 = .ok (.if_icmp .ge 99, 3) := by decide +kernel
theorem dX6_windowOf_37 : decode cX6_windowOf 37 = .ok (.aload_n 0, 1) := by decide +kernel
theorem dX6_windowOf_38 : decode cX6_windowOf 38 = .ok (.getfield 51, 3) := by decide +kernel
theorem dX6_windowOf_41 : decode cX6_windowOf 41 = .ok (.iload_n 3, 1) := by decide +kernel
theorem dX6_windowOf_42 : decode cX6_windowOf 42 = .ok (.iload 9, 2) := by decide +kernel
theorem dX6_windowOf_44 : decode cX6_windowOf 44 = .ok (.iadd, 1) := by decide +kernel
theorem dX6_windowOf_45 : decode cX6_windowOf 45 = .ok (.iaload, 1) := by decide +kernel
theorem dX6_windowOf_46 : decode cX6_windowOf 46 = .ok (.aload_n 0, 1) := by decide +kernel
theorem dX6_windowOf_47 : decode cX6_windowOf 47 = .ok (.getfield 51, 3) := by decide +kernel
theorem dX6_windowOf_50 : decode cX6_windowOf 50 = .ok (.iload_n 3, 1) := by decide +kernel
theorem dX6_windowOf_51 : decode cX6_windowOf 51 = .ok (.iload 7, 2) := by decide +kernel
theorem dX6_windowOf_53 : decode cX6_windowOf 53 = .ok (.iadd, 1) := by decide +kernel
theorem dX6_windowOf_54 : decode cX6_windowOf 54 = .ok (.iaload, 1) := by decide +kernel
theorem dX6_windowOf_55 : decode cX6_windowOf 55 = .ok (.if_icmp .le 7, 3) := by decide +kernel
theorem dX6_windowOf_58 : decode cX6_windowOf 58 = .ok (.iload 9, 2) := by decide +kernel
theorem dX6_windowOf_60 : decode cX6_windowOf 60 = .ok (.istore 7, 2) := by decide +kernel
theorem dX6_windowOf_62 : decode cX6_windowOf 62 = .ok (.aload_n 0, 1) := by decide +kernel
theorem dX6_windowOf_63 : decode cX6_windowOf 63 = .ok (.getfield 54, 3) := by decide +kernel
theorem dX6_windowOf_66 : decode cX6_windowOf 66 = .ok (.iload_n 3, 1) := by decide +kernel
theorem dX6_windowOf_67 : decode cX6_windowOf 67 = .ok (.iload 9, 2) := by decide +kernel
theorem dX6_windowOf_69 : decode cX6_windowOf 69 = .ok (.iadd, 1) := by decide +kernel
theorem dX6_windowOf_70 : decode cX6_windowOf 70 = .ok (.iaload, 1) := by decide +kernel
theorem dX6_windowOf_71 : decode cX6_windowOf 71 = .ok (.aload_n 0, 1) := by decide +kernel
theorem dX6_windowOf_72 : decode cX6_windowOf 72 = .ok (.getfield 36, 3) := by decide +kernel
theorem dX6_windowOf_75 : decode cX6_windowOf 75 = .ok (.iload_n 1, 1) := by decide +kernel
theorem dX6_windowOf_76 : decode cX6_windowOf 76 = .ok (.iaload, 1) := by decide +kernel
theorem dX6_windowOf_77 : decode cX6_windowOf 77 = .ok (.if_icmp .lt 13, 3) := by decide +kernel
theorem dX6_windowOf_80 : decode cX6_windowOf 80 = .ok (.iload 8, 2) := by decide +kernel
theorem dX6_windowOf_82 : decode cX6_windowOf 82 = .ok (.iconst (-1), 1) := by decide +kernel
theorem dX6_windowOf_83 : decode cX6_windowOf 83 = .ok (.if_icmp .ne 7, 3) := by decide +kernel
theorem dX6_windowOf_86 : decode cX6_windowOf 86 = .ok (.iload 9, 2) := by decide +kernel
theorem dX6_windowOf_88 : decode cX6_windowOf 88 = .ok (.istore 8, 2) := by decide +kernel
theorem dX6_windowOf_90 : decode cX6_windowOf 90 = .ok (.aload_n 0, 1) := by decide +kernel
theorem dX6_windowOf_91 : decode cX6_windowOf 91 = .ok (.getfield 54, 3) := by decide +kernel
theorem dX6_windowOf_94 : decode cX6_windowOf 94 = .ok (.iload_n 3, 1) := by decide +kernel
theorem dX6_windowOf_95 : decode cX6_windowOf 95 = .ok (.iload 9, 2) := by decide +kernel
theorem dX6_windowOf_97 : decode cX6_windowOf 97 = .ok (.iadd, 1) := by decide +kernel
theorem dX6_windowOf_98 : decode cX6_windowOf 98 = .ok (.iaload, 1) := by decide +kernel
theorem dX6_windowOf_99 : decode cX6_windowOf 99 = .ok (.ifCond .ne 6, 3) := by decide +kernel
theorem dX6_windowOf_102 : decode cX6_windowOf 102 = .ok (.goto 25, 3) := by decide +kernel
theorem dX6_windowOf_105 : decode cX6_windowOf 105 = .ok (.iload 4, 2) := by decide +kernel
theorem dX6_windowOf_107 : decode cX6_windowOf 107 = .ok (.iconst (-1), 1) := by decide +kernel
theorem dX6_windowOf_108 : decode cX6_windowOf 108 = .ok (.if_icmp .ne 8, 3) := by decide +kernel
theorem dX6_windowOf_111 : decode cX6_windowOf 111 = .ok (.iload 9, 2) := by decide +kernel
theorem dX6_windowOf_113 : decode cX6_windowOf 113 = .ok (.goto 5, 3) := by decide +kernel
theorem dX6_windowOf_116 : decode cX6_windowOf 116 = .ok (.iload 4, 2) := by decide +kernel
theorem dX6_windowOf_118 : decode cX6_windowOf 118 = .ok (.istore 4, 2) := by decide +kernel
theorem dX6_windowOf_120 : decode cX6_windowOf 120 = .ok (.iload 9, 2) := by decide +kernel
theorem dX6_windowOf_122 : decode cX6_windowOf 122 = .ok (.istore 5, 2) := by decide +kernel
theorem dX6_windowOf_124 : decode cX6_windowOf 124 = .ok (.iinc 6 1, 3) := by decide +kernel
theorem dX6_windowOf_127 : decode cX6_windowOf 127 = .ok (.iinc 9 1, 3) := by decide +kernel
theorem dX6_windowOf_130 : decode cX6_windowOf 130 = .ok (.goto (-102), 3) := by decide +kernel
theorem dX6_windowOf_133 : decode cX6_windowOf 133 = .ok (.iload_n 2, 1) := by decide +kernel
theorem dX6_windowOf_134 : decode cX6_windowOf 134 = .ok (.ifCond .ne 8, 3) := by decide +kernel
theorem dX6_windowOf_137 : decode cX6_windowOf 137 = .ok (.iload 4, 2) := by decide +kernel
theorem dX6_windowOf_139 : decode cX6_windowOf 139 = .ok (.goto 35, 3) := by decide +kernel
theorem dX6_windowOf_142 : decode cX6_windowOf 142 = .ok (.iload_n 2, 1) := by decide +kernel
theorem dX6_windowOf_143 : decode cX6_windowOf 143 = .ok (.iconst 1, 1) := by decide +kernel
theorem dX6_windowOf_144 : decode cX6_windowOf 144 = .ok (.if_icmp .ne 8, 3) := by decide +kernel
theorem dX6_windowOf_147 : decode cX6_windowOf 147 = .ok (.iload 5, 2) := by decide +kernel
theorem dX6_windowOf_149 : decode cX6_windowOf 149 = .ok (.goto 25, 3) := by decide +kernel
theorem dX6_windowOf_152 : decode cX6_windowOf 152 = .ok (.iload_n 2, 1) := by decide +kernel
theorem dX6_windowOf_153 : decode cX6_windowOf 153 = .ok (.iconst 2, 1) := by decide +kernel
theorem dX6_windowOf_154 : decode cX6_windowOf 154 = .ok (.if_icmp .ne 8, 3) := by decide +kernel
theorem dX6_windowOf_157 : decode cX6_windowOf 157 = .ok (.iload 6, 2) := by decide +kernel
theorem dX6_windowOf_159 : decode cX6_windowOf 159 = .ok (.goto 15, 3) := by decide +kernel
theorem dX6_windowOf_162 : decode cX6_windowOf 162 = .ok (.iload_n 2, 1) := by decide +kernel
theorem dX6_windowOf_163 : decode cX6_windowOf 163 = .ok (.iconst 3, 1) := by decide +kernel
theorem dX6_windowOf_164 : decode cX6_windowOf 164 = .ok (.if_icmp .ne 8, 3) := by decide +kernel
theorem dX6_windowOf_167 : decode cX6_windowOf 167 = .ok (.iload 7, 2) := by decide +kernel
theorem dX6_windowOf_169 : decode cX6_windowOf 169 = .ok (.goto 5, 3) := by decide +kernel
theorem dX6_windowOf_172 : decode cX6_windowOf 172 = .ok (.iload 8, 2) := by decide +kernel
theorem dX6_windowOf_174 : decode cX6_windowOf 174 = .ok (.ireturn, 1) := by decide +kernel
theorem dX6_window_0 : decode cX6_window 0 = .ok (.aload_n 0, 1) := by decide +kernel
theorem dX6_window_1 : decode cX6_window 1 = .ok (.iconst 0, 1) := by decide +kernel
theorem dX6_window_2 : decode cX6_window 2 = .ok (.putfield 60, 3) := by decide +kernel
theorem dX6_window_5 : decode cX6_window 5 = .ok (.aload_n 0, 1) := by decide +kernel
theorem dX6_window_6 : decode cX6_window 6 = .ok (.iload_n 1, 1) := by decide +kernel
theorem dX6_window_7 : decode cX6_window 7 = .ok (.invokevirtual 162, 3) := by decide +kernel
theorem dX6_window_10 : decode cX6_window 10 = .ok (.ifCond .eq 21, 3) := by decide +kernel
theorem dX6_window_13 : decode cX6_window 13 = .ok (.iload_n 2, 1) := by decide +kernel
theorem dX6_window_14 : decode cX6_window 14 = .ok (.iconst 0, 1) := by decide +kernel
theorem dX6_window_15 : decode cX6_window 15 = .ok (.iconst 4, 1) := by decide +kernel
theorem dX6_window_16 : decode cX6_window 16 = .ok (.invokestatic 66, 3) := by decide +kernel
theorem dX6_window_19 : decode cX6_window 19 = .ok (.ifCond .eq 12, 3) := by decide +kernel
theorem dX6_window_22 : decode cX6_window 22 = .ok (.aload_n 0, 1) := by decide +kernel
theorem dX6_window_23 : decode cX6_window 23 = .ok (.iload_n 1, 1) := by decide +kernel
theorem dX6_window_24 : decode cX6_window 24 = .ok (.iload_n 2, 1) := by decide +kernel
theorem dX6_window_25 : decode cX6_window 25 = .ok (.invokevirtual 171, 3) := by decide +kernel
theorem dX6_window_28 : decode cX6_window 28 = .ok (.goto 8, 3) := by decide +kernel
theorem dX6_window_31 : decode cX6_window 31 = .ok (.aload_n 0, 1) := by decide +kernel
theorem dX6_window_32 : decode cX6_window 32 = .ok (.iconst 1, 1) := by decide +kernel
theorem dX6_window_33 : decode cX6_window 33 = .ok (.invokevirtual 149, 3) := by decide +kernel
theorem dX6_window_36 : decode cX6_window 36 = .ok (.ireturn, 1) := by decide +kernel
theorem dX6_isOpen_0 : decode cX6_isOpen 0 = .ok (.aload_n 0, 1) := by decide +kernel
theorem dX6_isOpen_1 : decode cX6_isOpen 1 = .ok (.aload_n 0, 1) := by decide +kernel
theorem dX6_isOpen_2 : decode cX6_isOpen 2 = .ok (.iload_n 1, 1) := by decide +kernel
theorem dX6_isOpen_3 : decode cX6_isOpen 3 = .ok (.invokevirtual 162, 3) := by decide +kernel
theorem dX6_isOpen_6 : decode cX6_isOpen 6 = .ok (.ifCond .eq 7, 3) := by decide +kernel
theorem dX6_isOpen_9 : decode cX6_isOpen 9 = .ok (.iconst 0, 1) := by decide +kernel
theorem dX6_isOpen_10 : decode cX6_isOpen 10 = .ok (.goto 4, 3) := by decide +kernel
theorem dX6_isOpen_13 : decode cX6_isOpen 13 = .ok (.iconst 1, 1) := by decide +kernel
theorem dX6_isOpen_14 : decode cX6_isOpen 14 = .ok (.putfield 60, 3) := by decide +kernel
theorem dX6_isOpen_17 : decode cX6_isOpen 17 = .ok (.aload_n 0, 1) := by decide +kernel
theorem dX6_isOpen_18 : decode cX6_isOpen 18 = .ok (.getfield 60, 3) := by decide +kernel
theorem dX6_isOpen_21 : decode cX6_isOpen 21 = .ok (.ifCond .ne 15, 3) := by decide +kernel
theorem dX6_isOpen_24 : decode cX6_isOpen 24 = .ok (.aload_n 0, 1) := by decide +kernel
theorem dX6_isOpen_25 : decode cX6_isOpen 25 = .ok (.iload_n 1, 1) := by decide +kernel
theorem dX6_isOpen_26 : decode cX6_isOpen 26 = .ok (.invokevirtual 136, 3) := by decide +kernel
theorem dX6_isOpen_29 : decode cX6_isOpen 29 = .ok (.ifCond .eq 7, 3) := by decide +kernel
theorem dX6_isOpen_32 : decode cX6_isOpen 32 = .ok (.iconst 1, 1) := by decide +kernel
theorem dX6_isOpen_33 : decode cX6_isOpen 33 = .ok (.goto 4, 3) := by decide +kernel
theorem dX6_isOpen_36 : decode cX6_isOpen 36 = .ok (.iconst 0, 1) := by decide +kernel
theorem dX6_isOpen_37 : decode cX6_isOpen 37 = .ok (.ireturn, 1) := by decide +kernel
theorem dX6_count_0 : decode cX6_count 0 = .ok (.aload_n 0, 1) := by decide +kernel
theorem dX6_count_1 : decode cX6_count 1 = .ok (.iconst 0, 1) := by decide +kernel
theorem dX6_count_2 : decode cX6_count 2 = .ok (.putfield 60, 3) := by decide +kernel
theorem dX6_count_5 : decode cX6_count 5 = .ok (.iload_n 1, 1) := by decide +kernel
theorem dX6_count_6 : decode cX6_count 6 = .ok (.iconst 0, 1) := by decide +kernel
theorem dX6_count_7 : decode cX6_count 7 = .ok (.iconst 3, 1) := by decide +kernel
theorem dX6_count_8 : decode cX6_count 8 = .ok (.invokestatic 66, 3) := by decide +kernel
theorem dX6_count_11 : decode cX6_count 11 = .ok (.ifCond .ne 9, 3) := by decide +kernel
theorem dX6_count_14 : decode cX6_count 14 = .ok (.aload_n 0, 1) := by decide +kernel
theorem dX6_count_15 : decode cX6_count 15 = .ok (.iconst 1, 1) := by decide +kernel
theorem dX6_count_16 : decode cX6_count 16 = .ok (.invokevirtual 149, 3) := by decide +kernel
theorem dX6_count_19 : decode cX6_count 19 = .ok (.ireturn, 1) := by decide +kernel
theorem dX6_count_20 : decode cX6_count 20 = .ok (.iconst 0, 1) := by decide +kernel
theorem dX6_count_21 : decode cX6_count 21 = .ok (.istore_n 2, 1) := by decide +kernel
theorem dX6_count_22 : decode cX6_count 22 = .ok (.iconst 0, 1) := by decide +kernel
theorem dX6_count_23 : decode cX6_count 23 = .ok (.istore_n 3, 1) := by decide +kernel
theorem dX6_count_24 : decode cX6_count 24 = .ok (.iload_n 3, 1) := by decide +kernel
theorem dX6_count_25 : decode cX6_count 25 = .ok (.aload_n 0, 1) := by decide +kernel
theorem dX6_count_26 : decode cX6_count 26 = .ok (.getfield 63, 3) := by decide +kernel
theorem dX6_count_29 : decode cX6_count 29 = .ok (.if_icmp .ge 75, 3) := by decide +kernel
theorem dX6_count_32 : decode cX6_count 32 = .ok (.iload_n 2, 1) := by decide +kernel
theorem dX6_count_33 : decode cX6_count 33 = .ok (.iload_n 1, 1) := by decide +kernel
theorem dX6_count_34 : decode cX6_count 34 = .ok (.ifCond .ne 7, 3) := by decide +kernel
theorem dX6_count_37 : decode cX6_count 37 = .ok (.iconst 1, 1) := by decide +kernel
theorem dX6_count_38 : decode cX6_count 38 = .ok (.goto 58, 3) := by decide +kernel
theorem dX6_count_41 : decode cX6_count 41 = .ok (.iload_n 1, 1) := by decide +kernel
theorem dX6_count_42 : decode cX6_count 42 = .ok (.iconst 1, 1) := by decide +kernel
theorem dX6_count_43 : decode cX6_count 43 = .ok (.if_icmp .ne 19, 3) := by decide +kernel
theorem dX6_count_46 : decode cX6_count 46 = .ok (.aload_n 0, 1) := by decide +kernel
theorem dX6_count_47 : decode cX6_count 47 = .ok (.iload_n 3, 1) := by decide +kernel
theorem dX6_count_48 : decode cX6_count 48 = .ok (.invokevirtual 136, 3) := by decide +kernel
theorem dX6_count_51 : decode cX6_count 51 = .ok (.ifCond .eq 7, 3) := by decide +kernel
theorem dX6_count_54 : decode cX6_count 54 = .ok (.iconst 1, 1) := by decide +kernel
theorem dX6_count_55 : decode cX6_count 55 = .ok (.goto 41, 3) := by decide +kernel
theorem dX6_count_58 : decode cX6_count 58 = .ok (.iconst 0, 1) := by decide +kernel
theorem dX6_count_59 : decode cX6_count 59 = .ok (.goto 37, 3) := by decide +kernel
theorem dX6_count_62 : decode cX6_count 62 = .ok (.iload_n 1, 1) := by decide +kernel
theorem dX6_count_63 : decode cX6_count 63 = .ok (.iconst 2, 1) := by decide +kernel
theorem dX6_count_64 : decode cX6_count 64 = .ok (.if_icmp .ne 26, 3) := by decide +kernel
theorem dX6_count_67 : decode cX6_count 67 = .ok (.aload_n 0, 1) := by decide +kernel
theorem dX6_count_68 : decode cX6_count 68 = .ok (.getfield 45, 3) := by decide +kernel
theorem dX6_count_71 : decode cX6_count 71 = .ok (.iload_n 3, 1) := by decide +kernel
theorem dX6_count_72 : decode cX6_count 72 = .ok (.iaload, 1) := by decide +kernel
theorem dX6_count_73 : decode cX6_count 73 = .ok (.aload_n 0, 1) := by decide +kernel
theorem dX6_count_74 : decode cX6_count 74 = .ok (.getfield 39, 3) := by decide +kernel
theorem dX6_count_77 : decode cX6_count 77 = .ok (.iload_n 3, 1) := by decide +kernel
theorem dX6_count_78 : decode cX6_count 78 = .ok (.iaload, 1) := by decide +kernel
theorem dX6_count_79 : decode cX6_count 79 = .ok (.if_icmp .lt 7, 3) := by decide +kernel
theorem dX6_count_82 : decode cX6_count 82 = .ok (.iconst 1, 1) := by decide +kernel
theorem dX6_count_83 : decode cX6_count 83 = .ok (.goto 13, 3) := by decide +kernel
theorem dX6_count_86 : decode cX6_count 86 = .ok (.iconst 0, 1) := by decide +kernel
theorem dX6_count_87 : decode cX6_count 87 = .ok (.goto 9, 3) := by decide +kernel
theorem dX6_count_90 : decode cX6_count 90 = .ok (.aload_n 0, 1) := by decide +kernel
theorem dX6_count_91 : decode cX6_count 91 = .ok (.getfield 45, 3) := by decide +kernel
theorem dX6_count_94 : decode cX6_count 94 = .ok (.iload_n 3, 1) := by decide +kernel
theorem dX6_count_95 : decode cX6_count 95 = .ok (.iaload, 1) := by decide +kernel
theorem dX6_count_96 : decode cX6_count 96 = .ok (.iadd, 1) := by decide +kernel
theorem dX6_count_97 : decode cX6_count 97 = .ok (.istore_n 2, 1) := by decide +kernel
theorem dX6_count_98 : decode cX6_count 98 = .ok (.iinc 3 1, 3) := by decide +kernel
theorem dX6_count_101 : decode cX6_count 101 = .ok (.goto (-77), 3) := by decide +kernel
theorem dX6_count_104 : decode cX6_count 104 = .ok (.iload_n 2, 1) := by decide +kernel
theorem dX6_count_105 : decode cX6_count 105 = .ok (.ireturn, 1) := by decide +kernel
theorem dX6_visits_0 : decode cX6_visits 0 = .ok (.aload_n 0, 1) := by decide +kernel
theorem dX6_visits_1 : decode cX6_visits 1 = .ok (.iconst 0, 1) := by decide +kernel
theorem dX6_visits_2 : decode cX6_visits 2 = .ok (.putfield 60, 3) := by decide +kernel
theorem dX6_visits_5 : decode cX6_visits 5 = .ok (.aload_n 0, 1) := by decide +kernel
theorem dX6_visits_6 : decode cX6_visits 6 = .ok (.invokevirtual 168, 3) := by decide +kernel
theorem dX6_visits_9 : decode cX6_visits 9 = .ok (.aload_n 0, 1) := by decide +kernel
theorem dX6_visits_10 : decode cX6_visits 10 = .ok (.getfield 133, 3) := by decide +kernel
theorem dX6_visits_13 : decode cX6_visits 13 = .ok (.ireturn, 1) := by decide +kernel
theorem dX6_visit_0 : decode cX6_visit 0 = .ok (.aload_n 0, 1) := by decide +kernel
theorem dX6_visit_1 : decode cX6_visit 1 = .ok (.iconst 0, 1) := by decide +kernel
theorem dX6_visit_2 : decode cX6_visit 2 = .ok (.putfield 60, 3) := by decide +kernel
theorem dX6_visit_5 : decode cX6_visit 5 = .ok (.aload_n 0, 1) := by decide +kernel
theorem dX6_visit_6 : decode cX6_visit 6 = .ok (.invokevirtual 168, 3) := by decide +kernel
theorem dX6_visit_9 : decode cX6_visit 9 = .ok (.iload_n 1, 1) := by decide +kernel
theorem dX6_visit_10 : decode cX6_visit 10 = .ok (.iconst 0, 1) := by decide +kernel
theorem dX6_visit_11 : decode cX6_visit 11 = .ok (.aload_n 0, 1) := by decide +kernel
theorem dX6_visit_12 : decode cX6_visit 12 = .ok (.getfield 133, 3) := by decide +kernel
theorem dX6_visit_15 : decode cX6_visit 15 = .ok (.iconst 1, 1) := by decide +kernel
theorem dX6_visit_16 : decode cX6_visit 16 = .ok (.isub, 1) := by decide +kernel
theorem dX6_visit_17 : decode cX6_visit 17 = .ok (.invokestatic 66, 3) := by decide +kernel
theorem dX6_visit_20 : decode cX6_visit 20 = .ok (.ifCond .eq 25, 3) := by decide +kernel
theorem dX6_visit_23 : decode cX6_visit 23 = .ok (.iload_n 2, 1) := by decide +kernel
theorem dX6_visit_24 : decode cX6_visit 24 = .ok (.iconst 0, 1) := by decide +kernel
theorem dX6_visit_25 : decode cX6_visit 25 = .ok (.iconst 3, 1) := by decide +kernel
theorem dX6_visit_26 : decode cX6_visit 26 = .ok (.invokestatic 66, 3) := by decide +kernel
theorem dX6_visit_29 : decode cX6_visit 29 = .ok (.ifCond .eq 16, 3) := by decide +kernel
theorem dX6_visit_32 : decode cX6_visit 32 = .ok (.aload_n 0, 1) := by decide +kernel
theorem dX6_visit_33 : decode cX6_visit 33 = .ok (.getfield 57, 3) := by decide +kernel
theorem dX6_visit_36 : decode cX6_visit 36 = .ok (.iconst 4, 1) := by decide +kernel
theorem dX6_visit_37 : decode cX6_visit 37 = .ok (.iload_n 1, 1) := by decide +kernel
theorem dX6_visit_38 : decode cX6_visit 38 = .ok (.imul, 1) := by decide +kernel
theorem dX6_visit_39 : decode cX6_visit 39 = .ok (.iload_n 2, 1) := by decide +kernel
theorem dX6_visit_40 : decode cX6_visit 40 = .ok (.iadd, 1) := by decide +kernel
theorem dX6_visit_41 : decode cX6_visit 41 = .ok (.iaload, 1) := by decide +kernel
theorem dX6_visit_42 : decode cX6_visit 42 = .ok (.goto 8, 3) := by decide +kernel
theorem dX6_visit_45 : decode cX6_visit 45 = .ok (.aload_n 0, 1) := by decide +kernel
theorem dX6_visit_46 : decode cX6_visit 46 = .ok (.iconst 1, 1) := by decide +kernel
theorem dX6_visit_47 : decode cX6_visit 47 = .ok (.invokevirtual 149, 3) := by decide +kernel
theorem dX6_visit_50 : decode cX6_visit 50 = .ok (.ireturn, 1) := by decide +kernel
theorem dX6_use_0 : decode cX6_use 0 = .ok (.aload_n 0, 1) := by decide +kernel
theorem dX6_use_1 : decode cX6_use 1 = .ok (.iconst 0, 1) := by decide +kernel
theorem dX6_use_2 : decode cX6_use 2 = .ok (.putfield 60, 3) := by decide +kernel
theorem dX6_use_5 : decode cX6_use 5 = .ok (.aload_n 0, 1) := by decide +kernel
theorem dX6_use_6 : decode cX6_use 6 = .ok (.invokevirtual 168, 3) := by decide +kernel
theorem dX6_use_9 : decode cX6_use 9 = .ok (.iconst 0, 1) := by decide +kernel
theorem dX6_use_10 : decode cX6_use 10 = .ok (.istore_n 1, 1) := by decide +kernel
theorem dX6_use_11 : decode cX6_use 11 = .ok (.iconst 0, 1) := by decide +kernel
theorem dX6_use_12 : decode cX6_use 12 = .ok (.istore_n 2, 1) := by decide +kernel
theorem dX6_use_13 : decode cX6_use 13 = .ok (.iload_n 2, 1) := by decide +kernel
theorem dX6_use_14 : decode cX6_use 14 = .ok (.aload_n 0, 1) := by decide +kernel
theorem dX6_use_15 : decode cX6_use 15 = .ok (.getfield 133, 3) := by decide +kernel
theorem dX6_use_18 : decode cX6_use 18 = .ok (.if_icmp .ge 25, 3) := by decide +kernel
theorem dX6_use_21 : decode cX6_use 21 = .ok (.iload_n 1, 1) := by decide +kernel
theorem dX6_use_22 : decode cX6_use 22 = .ok (.aload_n 0, 1) := by decide +kernel
theorem dX6_use_23 : decode cX6_use 23 = .ok (.getfield 36, 3) := by decide +kernel
theorem dX6_use_26 : decode cX6_use 26 = .ok (.aload_n 0, 1) := by decide +kernel
theorem dX6_use_27 : decode cX6_use 27 = .ok (.getfield 57, 3) := by decide +kernel
theorem dX6_use_30 : decode cX6_use 30 = .ok (.iconst 4, 1) := by decide +kernel
theorem dX6_use_31 : decode cX6_use 31 = .ok (.iload_n 2, 1) := by decide +kernel
theorem dX6_use_32 : decode cX6_use 32 = .ok (.imul, 1) := by decide +kernel
theorem dX6_use_33 : decode cX6_use 33 = .ok (.iaload, 1) := by decide +kernel
theorem dX6_use_34 : decode cX6_use 34 = .ok (.iaload, 1) := by decide +kernel
theorem dX6_use_35 : decode cX6_use 35 = .ok (.iadd, 1) := by decide +kernel
theorem dX6_use_36 : decode cX6_use 36 = .ok (.istore_n 1, 1) := by decide +kernel
theorem dX6_use_37 : decode cX6_use 37 = .ok (.iinc 2 1, 3) := by decide +kernel
theorem dX6_use_40 : decode cX6_use 40 = .ok (.goto (-27), 3) := by decide +kernel
theorem dX6_use_43 : decode cX6_use 43 = .ok (.iload_n 1, 1) := by decide +kernel
theorem dX6_use_44 : decode cX6_use 44 = .ok (.i2d, 1) := by decide +kernel
theorem dX6_use_45 : decode cX6_use 45 = .ok (.aload_n 0, 1) := by decide +kernel
theorem dX6_use_46 : decode cX6_use 46 = .ok (.getfield 7, 3) := by decide +kernel
theorem dX6_use_49 : decode cX6_use 49 = .ok (.i2d, 1) := by decide +kernel
theorem dX6_use_50 : decode cX6_use 50 = .ok (.ddiv, 1) := by decide +kernel
theorem dX6_use_51 : decode cX6_use 51 = .ok (.dreturn, 1) := by decide +kernel
theorem dX6_nextNight_0 : decode cX6_nextNight 0 = .ok (.aload_n 0, 1) := by decide +kernel
theorem dX6_nextNight_1 : decode cX6_nextNight 1 = .ok (.dup, 1) := by decide +kernel
theorem dX6_nextNight_2 : decode cX6_nextNight 2 = .ok (.getfield 87, 3) := by decide +kernel
theorem dX6_nextNight_5 : decode cX6_nextNight 5 = .ok (.iconst 1, 1) := by decide +kernel
theorem dX6_nextNight_6 : decode cX6_nextNight 6 = .ok (.iadd, 1) := by decide +kernel
theorem dX6_nextNight_7 : decode cX6_nextNight 7 = .ok (.putfield 87, 3) := by decide +kernel
theorem dX6_nextNight_10 : decode cX6_nextNight 10 = .ok (.aload_n 0, 1) := by decide +kernel
theorem dX6_nextNight_11 : decode cX6_nextNight 11 = .ok (.aload_n 0, 1) := by decide +kernel
theorem dX6_nextNight_12 : decode cX6_nextNight 12 = .ok (.getfield 100, 3) := by decide +kernel
theorem dX6_nextNight_15 : decode cX6_nextNight 15 = .ok (.bipush 49, 2) := by decide +kernel
theorem dX6_nextNight_17 : decode cX6_nextNight 17 = .ok (.iadd, 1) := by decide +kernel
theorem dX6_nextNight_18 : decode cX6_nextNight 18 = .ok (.sipush 1440, 3) := by decide +kernel
theorem dX6_nextNight_21 : decode cX6_nextNight 21 = .ok (.irem, 1) := by decide +kernel
theorem dX6_nextNight_22 : decode cX6_nextNight 22 = .ok (.putfield 100, 3) := by decide +kernel
theorem dX6_nextNight_25 : decode cX6_nextNight 25 = .ok (.aload_n 0, 1) := by decide +kernel
theorem dX6_nextNight_26 : decode cX6_nextNight 26 = .ok (.aload_n 0, 1) := by decide +kernel
theorem dX6_nextNight_27 : decode cX6_nextNight 27 = .ok (.getfield 97, 3) := by decide +kernel
theorem dX6_nextNight_30 : decode cX6_nextNight 30 = .ok (.iconst 1, 1) := by decide +kernel
theorem dX6_nextNight_31 : decode cX6_nextNight 31 = .ok (.iadd, 1) := by decide +kernel
theorem dX6_nextNight_32 : decode cX6_nextNight 32 = .ok (.bipush 30, 2) := by decide +kernel
theorem dX6_nextNight_34 : decode cX6_nextNight 34 = .ok (.irem, 1) := by decide +kernel
theorem dX6_nextNight_35 : decode cX6_nextNight 35 = .ok (.putfield 97, 3) := by decide +kernel
theorem dX6_nextNight_38 : decode cX6_nextNight 38 = .ok (.aload_n 0, 1) := by decide +kernel
theorem dX6_nextNight_39 : decode cX6_nextNight 39 = .ok (.iconst 0, 1) := by decide +kernel
theorem dX6_nextNight_40 : decode cX6_nextNight 40 = .ok (.putfield 159, 3) := by decide +kernel
theorem dX6_nextNight_43 : decode cX6_nextNight 43 = .ok (.iconst 0, 1) := by decide +kernel
theorem dX6_nextNight_44 : decode cX6_nextNight 44 = .ok (.istore_n 1, 1) := by decide +kernel
theorem dX6_nextNight_45 : decode cX6_nextNight 45 = .ok (.iload_n 1, 1) := by decide +kernel
theorem dX6_nextNight_46 : decode cX6_nextNight 46 = .ok (.sipush 900, 3) := by decide +kernel
theorem dX6_nextNight_49 : decode cX6_nextNight 49 = .ok (.if_icmp .ge 16, 3) := by decide +kernel
theorem dX6_nextNight_52 : decode cX6_nextNight 52 = .ok (.aload_n 0, 1) := by decide +kernel
theorem dX6_nextNight_53 : decode cX6_nextNight 53 = .ok (.getfield 16, 3) := by decide +kernel
theorem dX6_nextNight_56 : decode cX6_nextNight 56 = .ok (.iload_n 1, 1) := by decide +kernel
theorem dX6_nextNight_57 : decode cX6_nextNight 57 = .ok (.iconst 0, 1) := by decide +kernel
theorem dX6_nextNight_58 : decode cX6_nextNight 58 = .ok (.bastore, 1) := by decide +kernel
theorem dX6_nextNight_59 : decode cX6_nextNight 59 = .ok (.iinc 1 1, 3) := by decide +kernel
theorem dX6_nextNight_62 : decode cX6_nextNight 62 = .ok (.goto (-17), 3) := by decide +kernel
theorem dX6_nextNight_65 : decode cX6_nextNight 65 = .ok (.aload_n 0, 1) := by decide +kernel
theorem dX6_nextNight_66 : decode cX6_nextNight 66 = .ok (.iconst 0, 1) := by decide +kernel
theorem dX6_nextNight_67 : decode cX6_nextNight 67 = .ok (.putfield 123, 3) := by decide +kernel
theorem dX6_nextNight_70 : decode cX6_nextNight 70 = .ok (.return_, 1) := by decide +kernel
theorem dX6_observe_0 : decode cX6_observe 0 = .ok (.aload_n 0, 1) := by decide +kernel
theorem dX6_observe_1 : decode cX6_observe 1 = .ok (.iconst 0, 1) := by decide +kernel
theorem dX6_observe_2 : decode cX6_observe 2 = .ok (.putfield 60, 3) := by decide +kernel
theorem dX6_observe_5 : decode cX6_observe 5 = .ok (.aload_n 0, 1) := by decide +kernel
theorem dX6_observe_6 : decode cX6_observe 6 = .ok (.getfield 87, 3) := by decide +kernel
theorem dX6_observe_9 : decode cX6_observe 9 = .ok (.bipush 60, 2) := by decide +kernel
theorem dX6_observe_11 : decode cX6_observe 11 = .ok (.if_icmp .ne 9, 3) := by decide +kernel
theorem dX6_observe_14 : decode cX6_observe 14 = .ok (.aload_n 0, 1) := by decide +kernel
theorem dX6_observe_15 : decode cX6_observe 15 = .ok (.iconst 1, 1) := by decide +kernel
theorem dX6_observe_16 : decode cX6_observe 16 = .ok (.invokevirtual 149, 3) := by decide +kernel
theorem dX6_observe_19 : decode cX6_observe 19 = .ok (.ireturn, 1) := by decide +kernel
theorem dX6_observe_20 : decode cX6_observe 20 = .ok (.aload_n 0, 1) := by decide +kernel
theorem dX6_observe_21 : decode cX6_observe 21 = .ok (.invokevirtual 168, 3) := by decide +kernel
theorem dX6_observe_24 : decode cX6_observe 24 = .ok (.aload_n 0, 1) := by decide +kernel
theorem dX6_observe_25 : decode cX6_observe 25 = .ok (.getfield 133, 3) := by decide +kernel
theorem dX6_observe_28 : decode cX6_observe 28 = .ok (.istore_n 1, 1) := by decide +kernel
theorem dX6_observe_29 : decode cX6_observe 29 = .ok (.iconst 0, 1) := by decide +kernel
theorem dX6_observe_30 : decode cX6_observe 30 = .ok (.istore_n 2, 1) := by decide +kernel
theorem dX6_observe_31 : decode cX6_observe 31 = .ok (.iload_n 2, 1) := by decide +kernel
theorem dX6_observe_32 : decode cX6_observe 32 = .ok (.iload_n 1, 1) := by decide +kernel
theorem dX6_observe_33 : decode cX6_observe 33 = .ok (.if_icmp .ge 43, 3) := by decide +kernel
theorem dX6_observe_36 : decode cX6_observe 36 = .ok (.aload_n 0, 1) := by decide +kernel
theorem dX6_observe_37 : decode cX6_observe 37 = .ok (.getfield 45, 3) := by decide +kernel
theorem dX6_observe_40 : decode cX6_observe 40 = .ok (.aload_n 0, 1) := by decide +kernel
theorem dX6_observe_41 : decode cX6_observe 41 = .ok (.getfield 57, 3) := by decide +kernel
theorem dX6_observe_44 : decode cX6_observe 44 = .ok (.iconst 4, 1) := by decide +kernel
theorem dX6_observe_45 : decode cX6_observe 45 = .ok (.iload_n 2, 1) := by decide +kernel
theorem dX6_observe_46 : decode cX6_observe 46 = .ok (.imul, 1) := by decide +kernel
theorem dX6_observe_47 : decode cX6_observe 47 = .ok (.iaload, 1) := by decide +kernel
theorem dX6_observe_48 : decode cX6_observe 48 = .ok (.dup2, 1) := by decide +kernel
theorem dX6_observe_49 : decode cX6_observe 49 = .ok (.iaload, 1) := by decide +kernel
theorem dX6_observe_50 : decode cX6_observe 50 = .ok (.iconst 1, 1) := by decide +kernel
theorem dX6_observe_51 : decode cX6_observe 51 = .ok (.iadd, 1) := by decide +kernel
theorem dX6_observe_52 : decode cX6_observe 52 = .ok (.iastore, 1) := by decide +kernel
theorem dX6_observe_53 : decode cX6_observe 53 = .ok (.aload_n 0, 1) := by decide +kernel
theorem dX6_observe_54 : decode cX6_observe 54 = .ok (.getfield 48, 3) := by decide +kernel
theorem dX6_observe_57 : decode cX6_observe 57 = .ok (.aload_n 0, 1) := by decide +kernel
theorem dX6_observe_58 : decode cX6_observe 58 = .ok (.getfield 57, 3) := by decide +kernel
theorem dX6_observe_61 : decode cX6_observe 61 = .ok (.iconst 4, 1) := by decide +kernel
theorem dX6_observe_62 : decode cX6_observe 62 = .ok (.iload_n 2, 1) := by decide +kernel
theorem dX6_observe_63 : decode cX6_observe 63 = .ok (.imul, 1) := by decide +kernel
theorem dX6_observe_64 : decode cX6_observe 64 = .ok (.iaload, 1) := by decide +kernel
theorem dX6_observe_65 : decode cX6_observe 65 = .ok (.aload_n 0, 1) := by decide +kernel
theorem dX6_observe_66 : decode cX6_observe 66 = .ok (.getfield 87, 3) := by decide +kernel
theorem dX6_observe_69 : decode cX6_observe 69 = .ok (.iastore, 1) := by decide +kernel
theorem dX6_observe_70 : decode cX6_observe 70 = .ok (.iinc 2 1, 3) := by decide +kernel
theorem dX6_observe_73 : decode cX6_observe 73 = .ok (.goto (-42), 3) := by decide +kernel
theorem dX6_observe_76 : decode cX6_observe 76 = .ok (.aload_n 0, 1) := by decide +kernel
theorem dX6_observe_77 : decode cX6_observe 77 = .ok (.invokevirtual 174, 3) := by decide +kernel
theorem dX6_observe_80 : decode cX6_observe 80 = .ok (.iload_n 1, 1) := by decide +kernel
theorem dX6_observe_81 : decode cX6_observe 81 = .ok (.ireturn, 1) := by decide +kernel
theorem dX6_pass_0 : decode cX6_pass 0 = .ok (.aload_n 0, 1) := by decide +kernel
theorem dX6_pass_1 : decode cX6_pass 1 = .ok (.iconst 0, 1) := by decide +kernel
theorem dX6_pass_2 : decode cX6_pass 2 = .ok (.putfield 60, 3) := by decide +kernel
theorem dX6_pass_5 : decode cX6_pass 5 = .ok (.iload_n 1, 1) := by decide +kernel
theorem dX6_pass_6 : decode cX6_pass 6 = .ok (.iconst 1, 1) := by decide +kernel
theorem dX6_pass_7 : decode cX6_pass 7 = .ok (.bipush 60, 2) := by decide +kernel
theorem dX6_pass_9 : decode cX6_pass 9 = .ok (.invokestatic 66, 3) := by decide +kernel
theorem dX6_pass_12 : decode cX6_pass 12 = .ok (.ifCond .eq 14, 3) := by decide +kernel
theorem dX6_pass_15 : decode cX6_pass 15 = .ok (.aload_n 0, 1) := by decide +kernel
theorem dX6_pass_16 : decode cX6_pass 16 = .ok (.getfield 87, 3) := by decide +kernel
theorem dX6_pass_19 : decode cX6_pass 19 = .ok (.iload_n 1, 1) := by decide +kernel
theorem dX6_pass_20 : decode cX6_pass 20 = .ok (.iadd, 1) := by decide +kernel
theorem dX6_pass_21 : decode cX6_pass 21 = .ok (.bipush 60, 2) := by decide +kernel
theorem dX6_pass_23 : decode cX6_pass 23 = .ok (.if_icmp .le 9, 3) := by decide +kernel
theorem dX6_pass_26 : decode cX6_pass 26 = .ok (.aload_n 0, 1) := by decide +kernel
theorem dX6_pass_27 : decode cX6_pass 27 = .ok (.iconst 1, 1) := by decide +kernel
theorem dX6_pass_28 : decode cX6_pass 28 = .ok (.invokevirtual 149, 3) := by decide +kernel
theorem dX6_pass_31 : decode cX6_pass 31 = .ok (.ireturn, 1) := by decide +kernel
theorem dX6_pass_32 : decode cX6_pass 32 = .ok (.iconst 0, 1) := by decide +kernel
theorem dX6_pass_33 : decode cX6_pass 33 = .ok (.istore_n 2, 1) := by decide +kernel
theorem dX6_pass_34 : decode cX6_pass 34 = .ok (.iload_n 2, 1) := by decide +kernel
theorem dX6_pass_35 : decode cX6_pass 35 = .ok (.iload_n 1, 1) := by decide +kernel
theorem dX6_pass_36 : decode cX6_pass 36 = .ok (.if_icmp .ge 13, 3) := by decide +kernel
theorem dX6_pass_39 : decode cX6_pass 39 = .ok (.aload_n 0, 1) := by decide +kernel
theorem dX6_pass_40 : decode cX6_pass 40 = .ok (.invokevirtual 174, 3) := by decide +kernel
theorem dX6_pass_43 : decode cX6_pass 43 = .ok (.iinc 2 1, 3) := by decide +kernel
theorem dX6_pass_46 : decode cX6_pass 46 = .ok (.goto (-12), 3) := by decide +kernel
theorem dX6_pass_49 : decode cX6_pass 49 = .ok (.aload_n 0, 1) := by decide +kernel
theorem dX6_pass_50 : decode cX6_pass 50 = .ok (.getfield 87, 3) := by decide +kernel
theorem dX6_pass_53 : decode cX6_pass 53 = .ok (.ireturn, 1) := by decide +kernel
theorem dX6_night_0 : decode cX6_night 0 = .ok (.aload_n 0, 1) := by decide +kernel
theorem dX6_night_1 : decode cX6_night 1 = .ok (.iconst 0, 1) := by decide +kernel
theorem dX6_night_2 : decode cX6_night 2 = .ok (.putfield 60, 3) := by decide +kernel
theorem dX6_night_5 : decode cX6_night 5 = .ok (.aload_n 0, 1) := by decide +kernel
theorem dX6_night_6 : decode cX6_night 6 = .ok (.getfield 87, 3) := by decide +kernel
theorem dX6_night_9 : decode cX6_night 9 = .ok (.ireturn, 1) := by decide +kernel
theorem dX6_light_0 : decode cX6_light 0 = .ok (.aload_n 0, 1) := by decide +kernel
theorem dX6_light_1 : decode cX6_light 1 = .ok (.iconst 0, 1) := by decide +kernel
theorem dX6_light_2 : decode cX6_light 2 = .ok (.putfield 60, 3) := by decide +kernel
theorem dX6_light_5 : decode cX6_light 5 = .ok (.aload_n 0, 1) := by decide +kernel
theorem dX6_light_6 : decode cX6_light 6 = .ok (.invokevirtual 119, 3) := by decide +kernel
theorem dX6_light_9 : decode cX6_light 9 = .ok (.ireturn, 1) := by decide +kernel
theorem dX6_digest_0 : decode cX6_digest 0 = .ok (.aload_n 0, 1) := by decide +kernel
theorem dX6_digest_1 : decode cX6_digest 1 = .ok (.iconst 0, 1) := by decide +kernel
theorem dX6_digest_2 : decode cX6_digest 2 = .ok (.putfield 60, 3) := by decide +kernel
theorem dX6_digest_5 : decode cX6_digest 5 = .ok (.aload_n 0, 1) := by decide +kernel
theorem dX6_digest_6 : decode cX6_digest 6 = .ok (.invokevirtual 168, 3) := by decide +kernel
theorem dX6_digest_9 : decode cX6_digest 9 = .ok (.bipush 8, 2) := by decide +kernel
theorem dX6_digest_11 : decode cX6_digest 11 = .ok (.newarray .int, 2) := by decide +kernel
theorem dX6_digest_13 : decode cX6_digest 13 = .ok (.dup, 1) := by decide +kernel
theorem dX6_digest_14 : decode cX6_digest 14 = .ok (.iconst 0, 1) := by decide +kernel
theorem dX6_digest_15 : decode cX6_digest 15 = .ok (.aload_n 0, 1) := by decide +kernel
theorem dX6_digest_16 : decode cX6_digest 16 = .ok (.getfield 87, 3) := by decide +kernel
theorem dX6_digest_19 : decode cX6_digest 19 = .ok (.iastore, 1) := by decide +kernel
theorem dX6_digest_20 : decode cX6_digest 20 = .ok (.dup, 1) := by decide +kernel
theorem dX6_digest_21 : decode cX6_digest 21 = .ok (.iconst 1, 1) := by decide +kernel
theorem dX6_digest_22 : decode cX6_digest 22 = .ok (.aload_n 0, 1) := by decide +kernel
theorem dX6_digest_23 : decode cX6_digest 23 = .ok (.getfield 7, 3) := by decide +kernel
theorem dX6_digest_26 : decode cX6_digest 26 = .ok (.iastore, 1) := by decide +kernel
theorem dX6_digest_27 : decode cX6_digest 27 = .ok (.dup, 1) := by decide +kernel
theorem dX6_digest_28 : decode cX6_digest 28 = .ok (.iconst 2, 1) := by decide +kernel
theorem dX6_digest_29 : decode cX6_digest 29 = .ok (.aload_n 0, 1) := by decide +kernel
theorem dX6_digest_30 : decode cX6_digest 30 = .ok (.getfield 13, 3) := by decide +kernel
theorem dX6_digest_33 : decode cX6_digest 33 = .ok (.iastore, 1) := by decide +kernel
theorem dX6_digest_34 : decode cX6_digest 34 = .ok (.dup, 1) := by decide +kernel
theorem dX6_digest_35 : decode cX6_digest 35 = .ok (.iconst 3, 1) := by decide +kernel
theorem dX6_digest_36 : decode cX6_digest 36 = .ok (.aload_n 0, 1) := by decide +kernel
theorem dX6_digest_37 : decode cX6_digest 37 = .ok (.getfield 84, 3) := by decide +kernel
theorem dX6_digest_40 : decode cX6_digest 40 = .ok (.iastore, 1) := by decide +kernel
theorem dX6_digest_41 : decode cX6_digest 41 = .ok (.dup, 1) := by decide +kernel
theorem dX6_digest_42 : decode cX6_digest 42 = .ok (.iconst 4, 1) := by decide +kernel
theorem dX6_digest_43 : decode cX6_digest 43 = .ok (.aload_n 0, 1) := by decide +kernel
theorem dX6_digest_44 : decode cX6_digest 44 = .ok (.getfield 100, 3) := by decide +kernel
theorem dX6_digest_47 : decode cX6_digest 47 = .ok (.iastore, 1) := by decide +kernel
theorem dX6_digest_48 : decode cX6_digest 48 = .ok (.dup, 1) := by decide +kernel
theorem dX6_digest_49 : decode cX6_digest 49 = .ok (.iconst 5, 1) := by decide +kernel
theorem dX6_digest_50 : decode cX6_digest 50 = .ok (.aload_n 0, 1) := by decide +kernel
theorem dX6_digest_51 : decode cX6_digest 51 = .ok (.getfield 103, 3) := by decide +kernel
theorem dX6_digest_54 : decode cX6_digest 54 = .ok (.iastore, 1) := by decide +kernel
theorem dX6_digest_55 : decode cX6_digest 55 = .ok (.dup, 1) := by decide +kernel
theorem dX6_digest_56 : decode cX6_digest 56 = .ok (.bipush 6, 2) := by decide +kernel
theorem dX6_digest_58 : decode cX6_digest 58 = .ok (.aload_n 0, 1) := by decide +kernel
theorem dX6_digest_59 : decode cX6_digest 59 = .ok (.getfield 97, 3) := by decide +kernel
theorem dX6_digest_62 : decode cX6_digest 62 = .ok (.iastore, 1) := by decide +kernel
theorem dX6_digest_63 : decode cX6_digest 63 = .ok (.dup, 1) := by decide +kernel
theorem dX6_digest_64 : decode cX6_digest 64 = .ok (.bipush 7, 2) := by decide +kernel
theorem dX6_digest_66 : decode cX6_digest 66 = .ok (.aload_n 0, 1) := by decide +kernel
theorem dX6_digest_67 : decode cX6_digest 67 = .ok (.getfield 63, 3) := by decide +kernel
theorem dX6_digest_70 : decode cX6_digest 70 = .ok (.iastore, 1) := by decide +kernel
theorem dX6_digest_71 : decode cX6_digest 71 = .ok (.astore_n 1, 1) := by decide +kernel
theorem dX6_digest_72 : decode cX6_digest 72 = .ok (.ldc2_w 177, 3) := by decide +kernel
theorem dX6_digest_75 : decode cX6_digest 75 = .ok (.lstore_n 2, 1) := by decide +kernel
theorem dX6_digest_76 : decode cX6_digest 76 = .ok (.aload_n 1, 1) := by decide +kernel
theorem dX6_digest_77 : decode cX6_digest 77 = .ok (.astore 4, 2) := by decide +kernel
theorem dX6_digest_79 : decode cX6_digest 79 = .ok (.aload 4, 2) := by decide +kernel
theorem dX6_digest_81 : decode cX6_digest 81 = .ok (.arraylength, 1) := by decide +kernel
theorem dX6_digest_82 : decode cX6_digest 82 = .ok (.istore 5, 2) := by decide +kernel
theorem dX6_digest_84 : decode cX6_digest 84 = .ok (.iconst 0, 1) := by decide +kernel
theorem dX6_digest_85 : decode cX6_digest 85 = .ok (.istore 6, 2) := by decide +kernel
theorem dX6_digest_87 : decode cX6_digest 87 = .ok (.iload 6, 2) := by decide +kernel
theorem dX6_digest_89 : decode cX6_digest 89 = .ok (.iload 5, 2) := by decide +kernel
theorem dX6_digest_91 : decode cX6_digest 91 = .ok (.if_icmp .ge 26, 3) := by decide +kernel
theorem dX6_digest_94 : decode cX6_digest 94 = .ok (.aload 4, 2) := by decide +kernel
theorem dX6_digest_96 : decode cX6_digest 96 = .ok (.iload 6, 2) := by decide +kernel
theorem dX6_digest_98 : decode cX6_digest 98 = .ok (.iaload, 1) := by decide +kernel
theorem dX6_digest_99 : decode cX6_digest 99 = .ok (.istore 7, 2) := by decide +kernel
theorem dX6_digest_101 : decode cX6_digest 101 = .ok (.lload_n 2, 1) := by decide +kernel
theorem dX6_digest_102 : decode cX6_digest 102 = .ok (.ldc2_w 179, 3) := by decide +kernel
theorem dX6_digest_105 : decode cX6_digest 105 = .ok (.lmul, 1) := by decide +kernel
theorem dX6_digest_106 : decode cX6_digest 106 = .ok (.iload 7, 2) := by decide +kernel
theorem dX6_digest_108 : decode cX6_digest 108 = .ok (.i2l, 1) := by decide +kernel
theorem dX6_digest_109 : decode cX6_digest 109 = .ok (.ladd, 1) := by decide +kernel
theorem dX6_digest_110 : decode cX6_digest 110 = .ok (.lstore_n 2, 1) := by decide +kernel
theorem dX6_digest_111 : decode cX6_digest 111 = .ok (.iinc 6 1, 3) := by decide +kernel
theorem dX6_digest_114 : decode cX6_digest 114 = .ok (.goto (-27), 3) := by decide +kernel
theorem dX6_digest_117 : decode cX6_digest 117 = .ok (.iconst 0, 1) := by decide +kernel
theorem dX6_digest_118 : decode cX6_digest 118 = .ok (.istore 4, 2) := by decide +kernel
theorem dX6_digest_120 : decode cX6_digest 120 = .ok (.iload 4, 2) := by decide +kernel
theorem dX6_digest_122 : decode cX6_digest 122 = .ok (.aload_n 0, 1) := by decide +kernel
theorem dX6_digest_123 : decode cX6_digest 123 = .ok (.getfield 63, 3) := by decide +kernel
theorem dX6_digest_126 : decode cX6_digest 126 = .ok (.if_icmp .ge 72, 3) := by decide +kernel
theorem dX6_digest_129 : decode cX6_digest 129 = .ok (.iconst 0, 1) := by decide +kernel
theorem dX6_digest_130 : decode cX6_digest 130 = .ok (.istore 5, 2) := by decide +kernel
theorem dX6_digest_132 : decode cX6_digest 132 = .ok (.iload 5, 2) := by decide +kernel
theorem dX6_digest_134 : decode cX6_digest 134 = .ok (.bipush 10, 2) := by decide +kernel
theorem dX6_digest_136 : decode cX6_digest 136 = .ok (.if_icmp .ge 25, 3) := by decide +kernel
theorem dX6_digest_139 : decode cX6_digest 139 = .ok (.lload_n 2, 1) := by decide +kernel
theorem dX6_digest_140 : decode cX6_digest 140 = .ok (.ldc2_w 179, 3) := by decide +kernel
theorem dX6_digest_143 : decode cX6_digest 143 = .ok (.lmul, 1) := by decide +kernel
theorem dX6_digest_144 : decode cX6_digest 144 = .ok (.aload_n 0, 1) := by decide +kernel
theorem dX6_digest_145 : decode cX6_digest 145 = .ok (.iload 4, 2) := by decide +kernel
theorem dX6_digest_147 : decode cX6_digest 147 = .ok (.iload 5, 2) := by decide +kernel
theorem dX6_digest_149 : decode cX6_digest 149 = .ok (.invokevirtual 165, 3) := by decide +kernel
theorem dX6_digest_152 : decode cX6_digest 152 = .ok (.i2l, 1) := by decide +kernel
theorem dX6_digest_153 : decode cX6_digest 153 = .ok (.ladd, 1) := by decide +kernel
theorem dX6_digest_154 : decode cX6_digest 154 = .ok (.lstore_n 2, 1) := by decide +kernel
theorem dX6_digest_155 : decode cX6_digest 155 = .ok (.iinc 5 1, 3) := by decide +kernel
theorem dX6_digest_158 : decode cX6_digest 158 = .ok (.goto (-26), 3) := by decide +kernel
theorem dX6_digest_161 : decode cX6_digest 161 = .ok (.iconst 0, 1) := by decide +kernel
theorem dX6_digest_162 : decode cX6_digest 162 = .ok (.istore 5, 2) := by decide +kernel
theorem dX6_digest_164 : decode cX6_digest 164 = .ok (.iload 5, 2) := by decide +kernel
theorem dX6_digest_166 : decode cX6_digest 166 = .ok (.iconst 5, 1) := by decide +kernel
theorem dX6_digest_167 : decode cX6_digest 167 = .ok (.if_icmp .ge 25, 3) := by decide +kernel
theorem dX6_digest_170 : decode cX6_digest 170 = .ok (.lload_n 2, 1) := by decide +kernel
theorem dX6_digest_171 : decode cX6_digest 171 = .ok (.ldc2_w 179, 3) := by decide +kernel
theorem dX6_digest_174 : decode cX6_digest 174 = .ok (.lmul, 1) := by decide +kernel
theorem dX6_digest_175 : decode cX6_digest 175 = .ok (.aload_n 0, 1) := by decide +kernel
theorem dX6_digest_176 : decode cX6_digest 176 = .ok (.iload 4, 2) := by decide +kernel
theorem dX6_digest_178 : decode cX6_digest 178 = .ok (.iload 5, 2) := by decide +kernel
theorem dX6_digest_180 : decode cX6_digest 180 = .ok (.invokevirtual 171, 3) := by decide +kernel
theorem dX6_digest_183 : decode cX6_digest 183 = .ok (.i2l, 1) := by decide +kernel
theorem dX6_digest_184 : decode cX6_digest 184 = .ok (.ladd, 1) := by decide +kernel
theorem dX6_digest_185 : decode cX6_digest 185 = .ok (.lstore_n 2, 1) := by decide +kernel
theorem dX6_digest_186 : decode cX6_digest 186 = .ok (.iinc 5 1, 3) := by decide +kernel
theorem dX6_digest_189 : decode cX6_digest 189 = .ok (.goto (-25), 3) := by decide +kernel
theorem dX6_digest_192 : decode cX6_digest 192 = .ok (.iinc 4 1, 3) := by decide +kernel
theorem dX6_digest_195 : decode cX6_digest 195 = .ok (.goto (-75), 3) := by decide +kernel
theorem dX6_digest_198 : decode cX6_digest 198 = .ok (.lload_n 2, 1) := by decide +kernel
theorem dX6_digest_199 : decode cX6_digest 199 = .ok (.ldc2_w 179, 3) := by decide +kernel
theorem dX6_digest_202 : decode cX6_digest 202 = .ok (.lmul, 1) := by decide +kernel
theorem dX6_digest_203 : decode cX6_digest 203 = .ok (.aload_n 0, 1) := by decide +kernel
theorem dX6_digest_204 : decode cX6_digest 204 = .ok (.getfield 133, 3) := by decide +kernel
theorem dX6_digest_207 : decode cX6_digest 207 = .ok (.i2l, 1) := by decide +kernel
theorem dX6_digest_208 : decode cX6_digest 208 = .ok (.ladd, 1) := by decide +kernel
theorem dX6_digest_209 : decode cX6_digest 209 = .ok (.lstore_n 2, 1) := by decide +kernel
theorem dX6_digest_210 : decode cX6_digest 210 = .ok (.iconst 0, 1) := by decide +kernel
theorem dX6_digest_211 : decode cX6_digest 211 = .ok (.istore 4, 2) := by decide +kernel
theorem dX6_digest_213 : decode cX6_digest 213 = .ok (.iload 4, 2) := by decide +kernel
theorem dX6_digest_215 : decode cX6_digest 215 = .ok (.iconst 4, 1) := by decide +kernel
theorem dX6_digest_216 : decode cX6_digest 216 = .ok (.aload_n 0, 1) := by decide +kernel
theorem dX6_digest_217 : decode cX6_digest 217 = .ok (.getfield 133, 3) := by decide +kernel
theorem dX6_digest_220 : decode cX6_digest 220 = .ok (.imul, 1) := by decide +kernel
theorem dX6_digest_221 : decode cX6_digest 221 = .ok (.if_icmp .ge 24, 3) := by decide +kernel
theorem dX6_digest_224 : decode cX6_digest 224 = .ok (.lload_n 2, 1) := by decide +kernel
theorem dX6_digest_225 : decode cX6_digest 225 = .ok (.ldc2_w 179, 3) := by decide +kernel
theorem dX6_digest_228 : decode cX6_digest 228 = .ok (.lmul, 1) := by decide +kernel
theorem dX6_digest_229 : decode cX6_digest 229 = .ok (.aload_n 0, 1) := by decide +kernel
theorem dX6_digest_230 : decode cX6_digest 230 = .ok (.getfield 57, 3) := by decide +kernel
theorem dX6_digest_233 : decode cX6_digest 233 = .ok (.iload 4, 2) := by decide +kernel
theorem dX6_digest_235 : decode cX6_digest 235 = .ok (.iaload, 1) := by decide +kernel
theorem dX6_digest_236 : decode cX6_digest 236 = .ok (.i2l, 1) := by decide +kernel
theorem dX6_digest_237 : decode cX6_digest 237 = .ok (.ladd, 1) := by decide +kernel
theorem dX6_digest_238 : decode cX6_digest 238 = .ok (.lstore_n 2, 1) := by decide +kernel
theorem dX6_digest_239 : decode cX6_digest 239 = .ok (.iinc 4 1, 3) := by decide +kernel
theorem dX6_digest_242 : decode cX6_digest 242 = .ok (.goto (-29), 3) := by decide +kernel
theorem dX6_digest_245 : decode cX6_digest 245 = .ok (.lload_n 2, 1) := by decide +kernel
theorem dX6_digest_246 : decode cX6_digest 246 = .ok (.lreturn, 1) := by decide +kernel
theorem dJ9_floorMod_7cf53_0 : decode cJ9_floorMod_7cf53 0 = .ok (.iload_n 0, 1) := by decide +kernel
theorem dJ9_floorMod_7cf53_1 : decode cJ9_floorMod_7cf53 1 = .ok (.iload_n 1, 1) := by decide +kernel
theorem dJ9_floorMod_7cf53_2 : decode cJ9_floorMod_7cf53 2 = .ok (.irem, 1) := by decide +kernel
theorem dJ9_floorMod_7cf53_3 : decode cJ9_floorMod_7cf53 3 = .ok (.istore_n 2, 1) := by decide +kernel
theorem dJ9_floorMod_7cf53_4 : decode cJ9_floorMod_7cf53 4 = .ok (.iload_n 0, 1) := by decide +kernel
theorem dJ9_floorMod_7cf53_5 : decode cJ9_floorMod_7cf53 5 = .ok (.iload_n 1, 1) := by decide +kernel
theorem dJ9_floorMod_7cf53_6 : decode cJ9_floorMod_7cf53 6 = .ok (.ixor, 1) := by decide +kernel
theorem dJ9_floorMod_7cf53_7 : decode cJ9_floorMod_7cf53 7 = .ok (.ifCond .ge 11, 3) := by decide +kernel
theorem dJ9_floorMod_7cf53_10 : decode cJ9_floorMod_7cf53 10 = .ok (.iload_n 2, 1) := by decide +kernel
theorem dJ9_floorMod_7cf53_11 : decode cJ9_floorMod_7cf53 11 = .ok (.ifCond .eq 7, 3) := by decide +kernel
theorem dJ9_floorMod_7cf53_14 : decode cJ9_floorMod_7cf53 14 = .ok (.iload_n 2, 1) := by decide +kernel
theorem dJ9_floorMod_7cf53_15 : decode cJ9_floorMod_7cf53 15 = .ok (.iload_n 1, 1) := by decide +kernel
theorem dJ9_floorMod_7cf53_16 : decode cJ9_floorMod_7cf53 16 = .ok (.iadd, 1) := by decide +kernel
theorem dJ9_floorMod_7cf53_17 : decode cJ9_floorMod_7cf53 17 = .ok (.ireturn, 1) := by decide +kernel
theorem dJ9_floorMod_7cf53_18 : decode cJ9_floorMod_7cf53 18 = .ok (.iload_n 2, 1) := by decide +kernel
theorem dJ9_floorMod_7cf53_19 : decode cJ9_floorMod_7cf53 19 = .ok (.ireturn, 1) := by decide +kernel
theorem dJ9_abs_0f7a4_0 : decode cJ9_abs_0f7a4 0 = .ok (.iload_n 0, 1) := by decide +kernel
theorem dJ9_abs_0f7a4_1 : decode cJ9_abs_0f7a4 1 = .ok (.ifCond .ge 8, 3) := by decide +kernel
theorem dJ9_abs_0f7a4_4 : decode cJ9_abs_0f7a4 4 = .ok (.iload_n 0, 1) := by decide +kernel
theorem dJ9_abs_0f7a4_5 : decode cJ9_abs_0f7a4 5 = .ok (.ineg, 1) := by decide +kernel
theorem dJ9_abs_0f7a4_6 : decode cJ9_abs_0f7a4 6 = .ok (.goto 4, 3) := by decide +kernel
theorem dJ9_abs_0f7a4_9 : decode cJ9_abs_0f7a4 9 = .ok (.iload_n 0, 1) := by decide +kernel
theorem dJ9_abs_0f7a4_10 : decode cJ9_abs_0f7a4 10 = .ok (.ireturn, 1) := by decide +kernel
theorem dJ9_max_7cf53_0 : decode cJ9_max_7cf53 0 = .ok (.iload_n 0, 1) := by decide +kernel
theorem dJ9_max_7cf53_1 : decode cJ9_max_7cf53 1 = .ok (.iload_n 1, 1) := by decide +kernel
theorem dJ9_max_7cf53_2 : decode cJ9_max_7cf53 2 = .ok (.if_icmp .lt 7, 3) := by decide +kernel
theorem dJ9_max_7cf53_5 : decode cJ9_max_7cf53 5 = .ok (.iload_n 0, 1) := by decide +kernel
theorem dJ9_max_7cf53_6 : decode cJ9_max_7cf53 6 = .ok (.goto 4, 3) := by decide +kernel
theorem dJ9_max_7cf53_9 : decode cJ9_max_7cf53 9 = .ok (.iload_n 1, 1) := by decide +kernel
theorem dJ9_max_7cf53_10 : decode cJ9_max_7cf53 10 = .ok (.ireturn, 1) := by decide +kernel
theorem dJ9_min_7cf53_0 : decode cJ9_min_7cf53 0 = .ok (.iload_n 0, 1) := by decide +kernel
theorem dJ9_min_7cf53_1 : decode cJ9_min_7cf53 1 = .ok (.iload_n 1, 1) := by decide +kernel
theorem dJ9_min_7cf53_2 : decode cJ9_min_7cf53 2 = .ok (.if_icmp .gt 7, 3) := by decide +kernel
theorem dJ9_min_7cf53_5 : decode cJ9_min_7cf53 5 = .ok (.iload_n 0, 1) := by decide +kernel
theorem dJ9_min_7cf53_6 : decode cJ9_min_7cf53 6 = .ok (.goto 4, 3) := by decide +kernel
theorem dJ9_min_7cf53_9 : decode cJ9_min_7cf53 9 = .ok (.iload_n 1, 1) := by decide +kernel
theorem dJ9_min_7cf53_10 : decode cJ9_min_7cf53 10 = .ok (.ireturn, 1) := by decide +kernel
theorem dJxa1e45_init_da8c8_0 : decode cJxa1e45_init_da8c8 0 = .ok (.aload_n 0, 1) := by decide +kernel
theorem dJxa1e45_init_da8c8_1 : decode cJxa1e45_init_da8c8 1 = .ok (.invokespecial 1, 3) := by decide +kernel
theorem dJxa1e45_init_da8c8_4 : decode cJxa1e45_init_da8c8 4 = .ok (.return_, 1) := by decide +kernel
theorem dJxc12de_init_da8c8_0 : decode cJxc12de_init_da8c8 0 = .ok (.aload_n 0, 1) := by decide +kernel
theorem dJxc12de_init_da8c8_1 : decode cJxc12de_init_da8c8 1 = .ok (.invokespecial 1, 3) := by decide +kernel
theorem dJxc12de_init_da8c8_4 : decode cJxc12de_init_da8c8 4 = .ok (.aload_n 0, 1) := by decide +kernel
theorem dJxc12de_init_da8c8_5 : decode cJxc12de_init_da8c8 5 = .ok (.iconst 0, 1) := by decide +kernel
theorem dJxc12de_init_da8c8_6 : decode cJxc12de_init_da8c8 6 = .ok (.putfield 7, 3) := by decide +kernel
theorem dJxc12de_init_da8c8_9 : decode cJxc12de_init_da8c8 9 = .ok (.return_, 1) := by decide +kernel
theorem dJx4a65c_init_da8c8_0 : decode cJx4a65c_init_da8c8 0 = .ok (.aload_n 0, 1) := by decide +kernel
theorem dJx4a65c_init_da8c8_1 : decode cJx4a65c_init_da8c8 1 = .ok (.invokespecial 1, 3) := by decide +kernel
theorem dJx4a65c_init_da8c8_4 : decode cJx4a65c_init_da8c8 4 = .ok (.aload_n 0, 1) := by decide +kernel
theorem dJx4a65c_init_da8c8_5 : decode cJx4a65c_init_da8c8 5 = .ok (.getstatic 39, 3) := by decide +kernel
theorem dJx4a65c_init_da8c8_8 : decode cJx4a65c_init_da8c8 8 = .ok (.putfield 9, 3) := by decide +kernel
theorem dJx4a65c_init_da8c8_11 : decode cJx4a65c_init_da8c8 11 = .ok (.return_, 1) := by decide +kernel
theorem dJx4a65c_grow_92f84_0 : decode cJx4a65c_grow_92f84 0 = .ok (.aload_n 0, 1) := by decide +kernel
theorem dJx4a65c_grow_92f84_1 : decode cJx4a65c_grow_92f84 1 = .ok (.getfield 9, 3) := by decide +kernel
theorem dJx4a65c_grow_92f84_4 : decode cJx4a65c_grow_92f84 4 = .ok (.arraylength, 1) := by decide +kernel
theorem dJx4a65c_grow_92f84_5 : decode cJx4a65c_grow_92f84 5 = .ok (.istore_n 2, 1) := by decide +kernel
theorem dJx4a65c_grow_92f84_6 : decode cJx4a65c_grow_92f84 6 = .ok (.iload_n 2, 1) := by decide +kernel
theorem dJx4a65c_grow_92f84_7 : decode cJx4a65c_grow_92f84 7 = .ok (.ifCond .gt 13, 3) := by decide +kernel
theorem dJx4a65c_grow_92f84_10 : decode cJx4a65c_grow_92f84 10 = .ok (.aload_n 0, 1) := by decide +kernel
theorem dJx4a65c_grow_92f84_11 : decode cJx4a65c_grow_92f84 11 = .ok (.getfield 9, 3) := by decide +kernel
theorem dJx4a65c_grow_92f84_14 : decode cJx4a65c_grow_92f84 14 = .ok (.getstatic 39, 3) := by decide +kernel
theorem dJx4a65c_grow_92f84_17 : decode cJx4a65c_grow_92f84 17 = .ok (.if_acmp .eq 28, 3) := by decide +kernel
theorem dJx4a65c_grow_92f84_20 : decode cJx4a65c_grow_92f84 20 = .ok (.iload_n 2, 1) := by decide +kernel
theorem dJx4a65c_grow_92f84_21 : decode cJx4a65c_grow_92f84 21 = .ok (.iload_n 1, 1) := by decide +kernel
theorem dJx4a65c_grow_92f84_22 : decode cJx4a65c_grow_92f84 22 = .ok (.iload_n 2, 1) := by decide +kernel
theorem dJx4a65c_grow_92f84_23 : decode cJx4a65c_grow_92f84 23 = .ok (.isub, 1) := by decide +kernel
theorem dJx4a65c_grow_92f84_24 : decode cJx4a65c_grow_92f84 24 = .ok (.iload_n 2, 1) := by decide +kernel
theorem dJx4a65c_grow_92f84_25 : decode cJx4a65c_grow_92f84 25 = .ok (.iconst 1, 1) := by decide +kernel
theorem dJx4a65c_grow_92f84_26 : decode cJx4a65c_grow_92f84 26 = .ok (.ishr, 1) := by decide +kernel
theorem dJx4a65c_grow_92f84_27 : decode cJx4a65c_grow_92f84 27 = .ok (.invokestatic 73, 3) := by decide +kernel
theorem dJx4a65c_grow_92f84_30 : decode cJx4a65c_grow_92f84 30 = .ok (.istore_n 3, 1) := by decide +kernel
theorem dJx4a65c_grow_92f84_31 : decode cJx4a65c_grow_92f84 31 = .ok (.aload_n 0, 1) := by decide +kernel
theorem dJx4a65c_grow_92f84_32 : decode cJx4a65c_grow_92f84 32 = .ok (.aload_n 0, 1) := by decide +kernel
theorem dJx4a65c_grow_92f84_33 : decode cJx4a65c_grow_92f84 33 = .ok (.getfield 9, 3) := by decide +kernel
theorem dJx4a65c_grow_92f84_36 : decode cJx4a65c_grow_92f84 36 = .ok (.iload_n 3, 1) := by decide +kernel
theorem dJx4a65c_grow_92f84_37 : decode cJx4a65c_grow_92f84 37 = .ok (.invokestatic 66, 3) := by decide +kernel
theorem dJx4a65c_grow_92f84_40 : decode cJx4a65c_grow_92f84 40 = .ok (.dup_x1, 1) := by decide +kernel
theorem dJx4a65c_grow_92f84_41 : decode cJx4a65c_grow_92f84 41 = .ok (.putfield 9, 3) := by decide +kernel
theorem dJx4a65c_grow_92f84_44 : decode cJx4a65c_grow_92f84 44 = .ok (.areturn, 1) := by decide +kernel
theorem dJx4a65c_grow_92f84_45 : decode cJx4a65c_grow_92f84 45 = .ok (.aload_n 0, 1) := by decide +kernel
theorem dJx4a65c_grow_92f84_46 : decode cJx4a65c_grow_92f84 46 = .ok (.bipush 10, 2) := by decide +kernel
theorem dJx4a65c_grow_92f84_48 : decode cJx4a65c_grow_92f84 48 = .ok (.iload_n 1, 1) := by decide +kernel
theorem dJx4a65c_grow_92f84_49 : decode cJx4a65c_grow_92f84 49 = .ok (.invokestatic 79, 3) := by decide +kernel
theorem dJx4a65c_grow_92f84_52 : decode cJx4a65c_grow_92f84 52 = .ok (.anewarray 7, 3) := by decide +kernel
theorem dJx4a65c_grow_92f84_55 : decode cJx4a65c_grow_92f84 55 = .ok (.dup_x1, 1) := by decide +kernel
theorem dJx4a65c_grow_92f84_56 : decode cJx4a65c_grow_92f84 56 = .ok (.putfield 9, 3) := by decide +kernel
theorem dJx4a65c_grow_92f84_59 : decode cJx4a65c_grow_92f84 59 = .ok (.areturn, 1) := by decide +kernel
theorem dJx4a65c_grow_d5877_0 : decode cJx4a65c_grow_d5877 0 = .ok (.aload_n 0, 1) := by decide +kernel
theorem dJx4a65c_grow_d5877_1 : decode cJx4a65c_grow_d5877 1 = .ok (.aload_n 0, 1) := by decide +kernel
theorem dJx4a65c_grow_d5877_2 : decode cJx4a65c_grow_d5877 2 = .ok (.getfield 48, 3) := by decide +kernel
theorem dJx4a65c_grow_d5877_5 : decode cJx4a65c_grow_d5877 5 = .ok (.iconst 1, 1) := by decide +kernel
theorem dJx4a65c_grow_d5877_6 : decode cJx4a65c_grow_d5877 6 = .ok (.iadd, 1) := by decide +kernel
theorem dJx4a65c_grow_d5877_7 : decode cJx4a65c_grow_d5877 7 = .ok (.invokevirtual 69, 3) := by decide +kernel
theorem dJx4a65c_grow_d5877_10 : decode cJx4a65c_grow_d5877 10 = .ok (.areturn, 1) := by decide +kernel
theorem dJx4a65c_size_8abf5_0 : decode cJx4a65c_size_8abf5 0 = .ok (.aload_n 0, 1) := by decide +kernel
theorem dJx4a65c_size_8abf5_1 : decode cJx4a65c_size_8abf5 1 = .ok (.getfield 48, 3) := by decide +kernel
theorem dJx4a65c_size_8abf5_4 : decode cJx4a65c_size_8abf5 4 = .ok (.ireturn, 1) := by decide +kernel
theorem dJx4a65c_elementData_915e3_0 : decode cJx4a65c_elementData_915e3 0 = .ok (.aload_n 0, 1) := by decide +kernel
theorem dJx4a65c_elementData_915e3_1 : decode cJx4a65c_elementData_915e3 1 = .ok (.getfield 9, 3) := by decide +kernel
theorem dJx4a65c_elementData_915e3_4 : decode cJx4a65c_elementData_915e3 4 = .ok (.iload_n 1, 1) := by decide +kernel
theorem dJx4a65c_elementData_915e3_5 : decode cJx4a65c_elementData_915e3 5 = .ok (.aaload, 1) := by decide +kernel
theorem dJx4a65c_elementData_915e3_6 : decode cJx4a65c_elementData_915e3 6 = .ok (.areturn, 1) := by decide +kernel
theorem dJx4a65c_get_915e3_0 : decode cJx4a65c_get_915e3 0 = .ok (.iload_n 1, 1) := by decide +kernel
theorem dJx4a65c_get_915e3_1 : decode cJx4a65c_get_915e3 1 = .ok (.aload_n 0, 1) := by decide +kernel
theorem dJx4a65c_get_915e3_2 : decode cJx4a65c_get_915e3 2 = .ok (.getfield 48, 3) := by decide +kernel
theorem dJx4a65c_get_915e3_5 : decode cJx4a65c_get_915e3 5 = .ok (.invokestatic 118, 3) := by decide +kernel
theorem dJx4a65c_get_915e3_8 : decode cJx4a65c_get_915e3 8 = .ok (.pop, 1) := by decide +kernel
theorem dJx4a65c_get_915e3_9 : decode cJx4a65c_get_915e3 9 = .ok (.aload_n 0, 1) := by decide +kernel
theorem dJx4a65c_get_915e3_10 : decode cJx4a65c_get_915e3 10 = .ok (.iload_n 1, 1) := by decide +kernel
theorem dJx4a65c_get_915e3_11 : decode cJx4a65c_get_915e3 11 = .ok (.invokevirtual 123, 3) := by decide +kernel
theorem dJx4a65c_get_915e3_14 : decode cJx4a65c_get_915e3 14 = .ok (.areturn, 1) := by decide +kernel
theorem dJx4a65c_add_72be8_0 : decode cJx4a65c_add_72be8 0 = .ok (.iload_n 3, 1) := by decide +kernel
theorem dJx4a65c_add_72be8_1 : decode cJx4a65c_add_72be8 1 = .ok (.aload_n 2, 1) := by decide +kernel
theorem dJx4a65c_add_72be8_2 : decode cJx4a65c_add_72be8 2 = .ok (.arraylength, 1) := by decide +kernel
theorem dJx4a65c_add_72be8_3 : decode cJx4a65c_add_72be8 3 = .ok (.if_icmp .ne 8, 3) := by decide +kernel
theorem dJx4a65c_add_72be8_6 : decode cJx4a65c_add_72be8 6 = .ok (.aload_n 0, 1) := by decide +kernel
theorem dJx4a65c_add_72be8_7 : decode cJx4a65c_add_72be8 7 = .ok (.invokevirtual 129, 3) := by decide +kernel
theorem dJx4a65c_add_72be8_10 : decode cJx4a65c_add_72be8 10 = .ok (.astore_n 2, 1) := by decide +kernel
theorem dJx4a65c_add_72be8_11 : decode cJx4a65c_add_72be8 11 = .ok (.aload_n 2, 1) := by decide +kernel
theorem dJx4a65c_add_72be8_12 : decode cJx4a65c_add_72be8 12 = .ok (.iload_n 3, 1) := by decide +kernel
theorem dJx4a65c_add_72be8_13 : decode cJx4a65c_add_72be8 13 = .ok (.aload_n 1, 1) := by decide +kernel
theorem dJx4a65c_add_72be8_14 : decode cJx4a65c_add_72be8 14 = .ok (.aastore, 1) := by decide +kernel
theorem dJx4a65c_add_72be8_15 : decode cJx4a65c_add_72be8 15 = .ok (.aload_n 0, 1) := by decide +kernel
theorem dJx4a65c_add_72be8_16 : decode cJx4a65c_add_72be8 16 = .ok (.iload_n 3, 1) := by decide +kernel
theorem dJx4a65c_add_72be8_17 : decode cJx4a65c_add_72be8 17 = .ok (.iconst 1, 1) := by decide +kernel
theorem dJx4a65c_add_72be8_18 : decode cJx4a65c_add_72be8 18 = .ok (.iadd, 1) := by decide +kernel
theorem dJx4a65c_add_72be8_19 : decode cJx4a65c_add_72be8 19 = .ok (.putfield 48, 3) := by decide +kernel
theorem dJx4a65c_add_72be8_22 : decode cJx4a65c_add_72be8 22 = .ok (.return_, 1) := by decide +kernel
theorem dJx4a65c_add_9ea2d_0 : decode cJx4a65c_add_9ea2d 0 = .ok (.aload_n 0, 1) := by decide +kernel
theorem dJx4a65c_add_9ea2d_1 : decode cJx4a65c_add_9ea2d 1 = .ok (.dup, 1) := by decide +kernel
theorem dJx4a65c_add_9ea2d_2 : decode cJx4a65c_add_9ea2d 2 = .ok (.getfield 63, 3) := by decide +kernel
theorem dJx4a65c_add_9ea2d_5 : decode cJx4a65c_add_9ea2d 5 = .ok (.iconst 1, 1) := by decide +kernel
theorem dJx4a65c_add_9ea2d_6 : decode cJx4a65c_add_9ea2d 6 = .ok (.iadd, 1) := by decide +kernel
theorem dJx4a65c_add_9ea2d_7 : decode cJx4a65c_add_9ea2d 7 = .ok (.putfield 63, 3) := by decide +kernel
theorem dJx4a65c_add_9ea2d_10 : decode cJx4a65c_add_9ea2d 10 = .ok (.aload_n 0, 1) := by decide +kernel
theorem dJx4a65c_add_9ea2d_11 : decode cJx4a65c_add_9ea2d 11 = .ok (.aload_n 1, 1) := by decide +kernel
theorem dJx4a65c_add_9ea2d_12 : decode cJx4a65c_add_9ea2d 12 = .ok (.aload_n 0, 1) := by decide +kernel
theorem dJx4a65c_add_9ea2d_13 : decode cJx4a65c_add_9ea2d 13 = .ok (.getfield 9, 3) := by decide +kernel
theorem dJx4a65c_add_9ea2d_16 : decode cJx4a65c_add_9ea2d 16 = .ok (.aload_n 0, 1) := by decide +kernel
theorem dJx4a65c_add_9ea2d_17 : decode cJx4a65c_add_9ea2d 17 = .ok (.getfield 48, 3) := by decide +kernel
theorem dJx4a65c_add_9ea2d_20 : decode cJx4a65c_add_9ea2d 20 = .ok (.invokevirtual 131, 3) := by decide +kernel
theorem dJx4a65c_add_9ea2d_23 : decode cJx4a65c_add_9ea2d 23 = .ok (.iconst 1, 1) := by decide +kernel
theorem dJx4a65c_add_9ea2d_24 : decode cJx4a65c_add_9ea2d 24 = .ok (.ireturn, 1) := by decide +kernel
theorem dJ7_fill_53178_0 : decode cJ7_fill_53178 0 = .ok (.iconst 0, 1) := by decide +kernel
theorem dJ7_fill_53178_1 : decode cJ7_fill_53178 1 = .ok (.istore_n 2, 1) := by decide +kernel
theorem dJ7_fill_53178_2 : decode cJ7_fill_53178 2 = .ok (.aload_n 0, 1) := by decide +kernel
theorem dJ7_fill_53178_3 : decode cJ7_fill_53178 3 = .ok (.arraylength, 1) := by decide +kernel
theorem dJ7_fill_53178_4 : decode cJ7_fill_53178 4 = .ok (.istore_n 3, 1) := by decide +kernel
theorem dJ7_fill_53178_5 : decode cJ7_fill_53178 5 = .ok (.iload_n 2, 1) := by decide +kernel
theorem dJ7_fill_53178_6 : decode cJ7_fill_53178 6 = .ok (.iload_n 3, 1) := by decide +kernel
theorem dJ7_fill_53178_7 : decode cJ7_fill_53178 7 = .ok (.if_icmp .ge 13, 3) := by decide +kernel
theorem dJ7_fill_53178_10 : decode cJ7_fill_53178 10 = .ok (.aload_n 0, 1) := by decide +kernel
theorem dJ7_fill_53178_11 : decode cJ7_fill_53178 11 = .ok (.iload_n 2, 1) := by decide +kernel
theorem dJ7_fill_53178_12 : decode cJ7_fill_53178 12 = .ok (.iload_n 1, 1) := by decide +kernel
theorem dJ7_fill_53178_13 : decode cJ7_fill_53178 13 = .ok (.iastore, 1) := by decide +kernel
theorem dJ7_fill_53178_14 : decode cJ7_fill_53178 14 = .ok (.iinc 2 1, 3) := by decide +kernel
theorem dJ7_fill_53178_17 : decode cJ7_fill_53178 17 = .ok (.goto (-12), 3) := by decide +kernel
theorem dJ7_fill_53178_20 : decode cJ7_fill_53178 20 = .ok (.return_, 1) := by decide +kernel
theorem dJ7_copyOf_1904c_0 : decode cJ7_copyOf_1904c 0 = .ok (.aload_n 0, 1) := by decide +kernel
theorem dJ7_copyOf_1904c_1 : decode cJ7_copyOf_1904c 1 = .ok (.iload_n 1, 1) := by decide +kernel
theorem dJ7_copyOf_1904c_2 : decode cJ7_copyOf_1904c 2 = .ok (.aload_n 0, 1) := by decide +kernel
theorem dJ7_copyOf_1904c_3 : decode cJ7_copyOf_1904c 3 = .ok (.invokevirtual 86, 3) := by decide +kernel
theorem dJ7_copyOf_1904c_6 : decode cJ7_copyOf_1904c 6 = .ok (.invokestatic 300, 3) := by decide +kernel
theorem dJ7_copyOf_1904c_9 : decode cJ7_copyOf_1904c 9 = .ok (.areturn, 1) := by decide +kernel
theorem dJ7_copyOf_6403c_0 : decode cJ7_copyOf_6403c 0 = .ok (.aload_n 2, 1) := by decide +kernel
theorem dJ7_copyOf_6403c_1 : decode cJ7_copyOf_6403c 1 = .ok (.ldc 110, 2) := by decide +kernel
theorem dJ7_copyOf_6403c_3 : decode cJ7_copyOf_6403c 3 = .ok (.if_acmp .ne 10, 3) := by decide +kernel
theorem dJ7_copyOf_6403c_6 : decode cJ7_copyOf_6403c 6 = .ok (.iload_n 1, 1) := by decide +kernel
theorem dJ7_copyOf_6403c_7 : decode cJ7_copyOf_6403c 7 = .ok (.anewarray 2, 3) := by decide +kernel
theorem dJ7_copyOf_6403c_10 : decode cJ7_copyOf_6403c 10 = .ok (.goto 14, 3) := by decide +kernel
theorem dJ7_copyOf_6403c_13 : decode cJ7_copyOf_6403c 13 = .ok (.aload_n 2, 1) := by decide +kernel
theorem dJ7_copyOf_6403c_14 : decode cJ7_copyOf_6403c 14 = .ok (.invokevirtual 90, 3) := by decide +kernel
theorem dJ7_copyOf_6403c_17 : decode cJ7_copyOf_6403c 17 = .ok (.iload_n 1, 1) := by decide +kernel
theorem dJ7_copyOf_6403c_18 : decode cJ7_copyOf_6403c 18 = .ok (.invokestatic 95, 3) := by decide +kernel
theorem dJ7_copyOf_6403c_21 : decode cJ7_copyOf_6403c 21 = .ok (.checkcast 110, 3) := by decide +kernel
theorem dJ7_copyOf_6403c_24 : decode cJ7_copyOf_6403c 24 = .ok (.astore_n 3, 1) := by decide +kernel
theorem dJ7_copyOf_6403c_25 : decode cJ7_copyOf_6403c 25 = .ok (.aload_n 0, 1) := by decide +kernel
theorem dJ7_copyOf_6403c_26 : decode cJ7_copyOf_6403c 26 = .ok (.iconst 0, 1) := by decide +kernel
theorem dJ7_copyOf_6403c_27 : decode cJ7_copyOf_6403c 27 = .ok (.aload_n 3, 1) := by decide +kernel
theorem dJ7_copyOf_6403c_28 : decode cJ7_copyOf_6403c 28 = .ok (.iconst 0, 1) := by decide +kernel
theorem dJ7_copyOf_6403c_29 : decode cJ7_copyOf_6403c 29 = .ok (.aload_n 0, 1) := by decide +kernel
theorem dJ7_copyOf_6403c_30 : decode cJ7_copyOf_6403c 30 = .ok (.arraylength, 1) := by decide +kernel
theorem dJ7_copyOf_6403c_31 : decode cJ7_copyOf_6403c 31 = .ok (.iload_n 1, 1) := by decide +kernel
theorem dJ7_copyOf_6403c_32 : decode cJ7_copyOf_6403c 32 = .ok (.invokestatic 304, 3) := by decide +kernel
theorem dJ7_copyOf_6403c_35 : decode cJ7_copyOf_6403c 35 = .ok (.invokestatic 150, 3) := by decide +kernel
theorem dJ7_copyOf_6403c_38 : decode cJ7_copyOf_6403c 38 = .ok (.aload_n 3, 1) := by decide +kernel
theorem dJ7_copyOf_6403c_39 : decode cJ7_copyOf_6403c 39 = .ok (.areturn, 1) := by decide +kernel
theorem dJ15_checkIndex_7cf53_0 : decode cJ15_checkIndex_7cf53 0 = .ok (.iload_n 0, 1) := by decide +kernel
theorem dJ15_checkIndex_7cf53_1 : decode cJ15_checkIndex_7cf53 1 = .ok (.iload_n 1, 1) := by decide +kernel
theorem dJ15_checkIndex_7cf53_2 : decode cJ15_checkIndex_7cf53 2 = .ok (.aconst_null, 1) := by decide +kernel
theorem dJ15_checkIndex_7cf53_3 : decode cJ15_checkIndex_7cf53 3 = .ok (.invokestatic 105, 3) := by decide +kernel
theorem dJ15_checkIndex_7cf53_6 : decode cJ15_checkIndex_7cf53 6 = .ok (.ireturn, 1) := by decide +kernel
theorem dJ8_newLength_cabcc_0 : decode cJ8_newLength_cabcc 0 = .ok (.iload_n 0, 1) := by decide +kernel
theorem dJ8_newLength_cabcc_1 : decode cJ8_newLength_cabcc 1 = .ok (.iload_n 1, 1) := by decide +kernel
theorem dJ8_newLength_cabcc_2 : decode cJ8_newLength_cabcc 2 = .ok (.iload_n 2, 1) := by decide +kernel
theorem dJ8_newLength_cabcc_3 : decode cJ8_newLength_cabcc 3 = .ok (.invokestatic 194, 3) := by decide +kernel
theorem dJ8_newLength_cabcc_6 : decode cJ8_newLength_cabcc 6 = .ok (.iadd, 1) := by decide +kernel
theorem dJ8_newLength_cabcc_7 : decode cJ8_newLength_cabcc 7 = .ok (.istore_n 3, 1) := by decide +kernel
theorem dJ8_newLength_cabcc_8 : decode cJ8_newLength_cabcc 8 = .ok (.iconst 0, 1) := by decide +kernel
theorem dJ8_newLength_cabcc_9 : decode cJ8_newLength_cabcc 9 = .ok (.iload_n 3, 1) := by decide +kernel
theorem dJ8_newLength_cabcc_10 : decode cJ8_newLength_cabcc 10 = .ok (.if_icmp .ge 11, 3) := by decide +kernel
theorem dJ8_newLength_cabcc_13 : decode cJ8_newLength_cabcc 13 = .ok (.iload_n 3, 1) := by decide +kernel
theorem dJ8_newLength_cabcc_14 : decode cJ8_newLength_cabcc 14 = .ok (.ldc 200, 2) := by decide +kernel
theorem dJ8_newLength_cabcc_16 : decode cJ8_newLength_cabcc 16 = .ok (.if_icmp .gt 5, 3) := by decide +kernel
theorem dJ8_newLength_cabcc_19 : decode cJ8_newLength_cabcc 19 = .ok (.iload_n 3, 1) := by decide +kernel
theorem dJ8_newLength_cabcc_20 : decode cJ8_newLength_cabcc 20 = .ok (.ireturn, 1) := by decide +kernel
theorem dJ8_newLength_cabcc_21 : decode cJ8_newLength_cabcc 21 = .ok (.iload_n 0, 1) := by decide +kernel
theorem dJ8_newLength_cabcc_22 : decode cJ8_newLength_cabcc 22 = .ok (.iload_n 1, 1) := by decide +kernel
theorem dJ8_newLength_cabcc_23 : decode cJ8_newLength_cabcc 23 = .ok (.invokestatic 201, 3) := by decide +kernel
theorem dJ8_newLength_cabcc_26 : decode cJ8_newLength_cabcc 26 = .ok (.ireturn, 1) := by decide +kernel
theorem dJ8_hugeLength_7cf53_0 : decode cJ8_hugeLength_7cf53 0 = .ok (.iload_n 0, 1) := by decide +kernel
theorem dJ8_hugeLength_7cf53_1 : decode cJ8_hugeLength_7cf53 1 = .ok (.iload_n 1, 1) := by decide +kernel
theorem dJ8_hugeLength_7cf53_2 : decode cJ8_hugeLength_7cf53 2 = .ok (.iadd, 1) := by decide +kernel
theorem dJ8_hugeLength_7cf53_3 : decode cJ8_hugeLength_7cf53 3 = .ok (.istore_n 2, 1) := by decide +kernel
theorem dJ8_hugeLength_7cf53_4 : decode cJ8_hugeLength_7cf53 4 = .ok (.iload_n 2, 1) := by decide +kernel
theorem dJ8_hugeLength_7cf53_5 : decode cJ8_hugeLength_7cf53 5 = .ok (.ifCond .ge 44, 3) := by decide +kernel
theorem dJ8_hugeLength_7cf53_8 : decode cJ8_hugeLength_7cf53 8 = .ok (.new 204, 3) := by decide +kernel
theorem dJ8_hugeLength_7cf53_11 : decode cJ8_hugeLength_7cf53 11 = .ok (.dup, 1) := by decide +kernel
theorem dJ8_hugeLength_7cf53_12 : decode cJ8_hugeLength_7cf53 12 = .ok (.new 89, 3) := by decide +kernel
theorem dJ8_hugeLength_7cf53_15 : decode cJ8_hugeLength_7cf53 15 = .ok (.dup, 1) := by decide +kernel
theorem dJ8_hugeLength_7cf53_16 : decode cJ8_hugeLength_7cf53 16 = .ok (.invokespecial 91, 3) := by decide +kernel
theorem dJ8_hugeLength_7cf53_19 : decode cJ8_hugeLength_7cf53 19 = .ok (.ldc 206, 2) := by decide +kernel
theorem dJ8_hugeLength_7cf53_21 : decode cJ8_hugeLength_7cf53 21 = .ok (.invokevirtual 94, 3) := by decide +kernel
theorem dJ8_hugeLength_7cf53_24 : decode cJ8_hugeLength_7cf53 24 = .ok (.iload_n 0, 1) := by decide +kernel
theorem dJ8_hugeLength_7cf53_25 : decode cJ8_hugeLength_7cf53 25 = .ok (.invokevirtual 98, 3) := by decide +kernel
theorem dJ8_hugeLength_7cf53_28 : decode cJ8_hugeLength_7cf53 28 = .ok (.ldc 208, 2) := by decide +kernel
theorem dJ8_hugeLength_7cf53_30 : decode cJ8_hugeLength_7cf53 30 = .ok (.invokevirtual 94, 3) := by decide +kernel
theorem dJ8_hugeLength_7cf53_33 : decode cJ8_hugeLength_7cf53 33 = .ok (.iload_n 1, 1) := by decide +kernel
theorem dJ8_hugeLength_7cf53_34 : decode cJ8_hugeLength_7cf53 34 = .ok (.invokevirtual 98, 3) := by decide +kernel
theorem dJ8_hugeLength_7cf53_37 : decode cJ8_hugeLength_7cf53 37 = .ok (.ldc 210, 2) := by decide +kernel
theorem dJ8_hugeLength_7cf53_39 : decode cJ8_hugeLength_7cf53 39 = .ok (.invokevirtual 94, 3) := by decide +kernel
theorem dJ8_hugeLength_7cf53_42 : decode cJ8_hugeLength_7cf53 42 = .ok (.invokevirtual 101, 3) := by decide +kernel
theorem dJ8_hugeLength_7cf53_45 : decode cJ8_hugeLength_7cf53 45 = .ok (.invokespecial 212, 3) := by decide +kernel
theorem dJ8_hugeLength_7cf53_48 : decode cJ8_hugeLength_7cf53 48 = .ok (.athrow, 1) := by decide +kernel
theorem dJ8_hugeLength_7cf53_49 : decode cJ8_hugeLength_7cf53 49 = .ok (.iload_n 2, 1) := by decide +kernel
theorem dJ8_hugeLength_7cf53_50 : decode cJ8_hugeLength_7cf53 50 = .ok (.ldc 200, 2) := by decide +kernel
theorem dJ8_hugeLength_7cf53_52 : decode cJ8_hugeLength_7cf53 52 = .ok (.if_icmp .gt 6, 3) := by decide +kernel
theorem dJ8_hugeLength_7cf53_55 : decode cJ8_hugeLength_7cf53 55 = .ok (.ldc 200, 2) := by decide +kernel
theorem dJ8_hugeLength_7cf53_57 : decode cJ8_hugeLength_7cf53 57 = .ok (.ireturn, 1) := by decide +kernel
theorem dJ8_hugeLength_7cf53_58 : decode cJ8_hugeLength_7cf53 58 = .ok (.iload_n 2, 1) := by decide +kernel
theorem dJ8_hugeLength_7cf53_59 : decode cJ8_hugeLength_7cf53 59 = .ok (.ireturn, 1) := by decide +kernel
theorem dJ3_checkIndex_8e157_0 : decode cJ3_checkIndex_8e157 0 = .ok (.iload_n 0, 1) := by decide +kernel
theorem dJ3_checkIndex_8e157_1 : decode cJ3_checkIndex_8e157 1 = .ok (.ifCond .lt 8, 3) := by decide +kernel
theorem dJ3_checkIndex_8e157_4 : decode cJ3_checkIndex_8e157 4 = .ok (.iload_n 0, 1) := by decide +kernel
theorem dJ3_checkIndex_8e157_5 : decode cJ3_checkIndex_8e157 5 = .ok (.iload_n 1, 1) := by decide +kernel
theorem dJ3_checkIndex_8e157_6 : decode cJ3_checkIndex_8e157 6 = .ok (.if_icmp .lt 10, 3) := by decide +kernel
theorem dJ3_checkIndex_8e157_9 : decode cJ3_checkIndex_8e157 9 = .ok (.aload_n 2, 1) := by decide +kernel
theorem dJ3_checkIndex_8e157_10 : decode cJ3_checkIndex_8e157 10 = .ok (.iload_n 0, 1) := by decide +kernel
theorem dJ3_checkIndex_8e157_11 : decode cJ3_checkIndex_8e157 11 = .ok (.iload_n 1, 1) := by decide +kernel
theorem dJ3_checkIndex_8e157_12 : decode cJ3_checkIndex_8e157 12 = .ok (.invokestatic 95, 3) := by decide +kernel
theorem dJ3_checkIndex_8e157_15 : decode cJ3_checkIndex_8e157 15 = .ok (.athrow, 1) := by decide +kernel
theorem dJ3_checkIndex_8e157_16 : decode cJ3_checkIndex_8e157 16 = .ok (.iload_n 0, 1) := by decide +kernel
theorem dJ3_checkIndex_8e157_17 : decode cJ3_checkIndex_8e157 17 = .ok (.ireturn, 1) := by decide +kernel
theorem dL_setSite_0 : decode cL_setSite 0 = .ok (.aload_n 3, 1) := by decide +kernel
theorem dL_setSite_1 : decode cL_setSite 1 = .ok (.iconst 0, 1) := by decide +kernel
theorem dL_setSite_2 : decode cL_setSite 2 = .ok (.aload_n 0, 1) := by decide +kernel
theorem dL_setSite_3 : decode cL_setSite 3 = .ok (.iload_n 1, 1) := by decide +kernel
theorem dL_setSite_4 : decode cL_setSite 4 = .ok (.iload_n 2, 1) := by decide +kernel
theorem dL_setSite_5 : decode cL_setSite 5 = .ok (.invokevirtual 7, 3) := by decide +kernel
theorem dL_setSite_8 : decode cL_setSite 8 = .ok (.i2l, 1) := by decide +kernel
theorem dL_setSite_9 : decode cL_setSite 9 = .ok (.lastore, 1) := by decide +kernel
theorem dL_setSite_10 : decode cL_setSite 10 = .ok (.goto 7, 3) := by decide +kernel
theorem dL_setSite_13 : decode cL_setSite 13 = .ok (.astore 4, 2) := by decide +kernel
theorem dL_setSite_15 : decode cL_setSite 15 = .ok (.iconst 1, 1) := by decide +kernel
theorem dL_setSite_16 : decode cL_setSite 16 = .ok (.ireturn, 1) := by decide +kernel
theorem dL_setSite_17 : decode cL_setSite 17 = .ok (.iconst 0, 1) := by decide +kernel
theorem dL_setSite_18 : decode cL_setSite 18 = .ok (.ireturn, 1) := by decide +kernel
theorem dL_setLength_0 : decode cL_setLength 0 = .ok (.aload_n 2, 1) := by decide +kernel
theorem dL_setLength_1 : decode cL_setLength 1 = .ok (.iconst 0, 1) := by decide +kernel
theorem dL_setLength_2 : decode cL_setLength 2 = .ok (.aload_n 0, 1) := by decide +kernel
theorem dL_setLength_3 : decode cL_setLength 3 = .ok (.iload_n 1, 1) := by decide +kernel
theorem dL_setLength_4 : decode cL_setLength 4 = .ok (.invokevirtual 15, 3) := by decide +kernel
theorem dL_setLength_7 : decode cL_setLength 7 = .ok (.i2l, 1) := by decide +kernel
theorem dL_setLength_8 : decode cL_setLength 8 = .ok (.lastore, 1) := by decide +kernel
theorem dL_setLength_9 : decode cL_setLength 9 = .ok (.goto 6, 3) := by decide +kernel
theorem dL_setLength_12 : decode cL_setLength 12 = .ok (.astore_n 3, 1) := by decide +kernel
theorem dL_setLength_13 : decode cL_setLength 13 = .ok (.iconst 1, 1) := by decide +kernel
theorem dL_setLength_14 : decode cL_setLength 14 = .ok (.ireturn, 1) := by decide +kernel
theorem dL_setLength_15 : decode cL_setLength 15 = .ok (.iconst 0, 1) := by decide +kernel
theorem dL_setLength_16 : decode cL_setLength 16 = .ok (.ireturn, 1) := by decide +kernel
theorem dL_setMoon_0 : decode cL_setMoon 0 = .ok (.aload 4, 2) := by decide +kernel
theorem dL_setMoon_2 : decode cL_setMoon 2 = .ok (.iconst 0, 1) := by decide +kernel
theorem dL_setMoon_3 : decode cL_setMoon 3 = .ok (.aload_n 0, 1) := by decide +kernel
theorem dL_setMoon_4 : decode cL_setMoon 4 = .ok (.iload_n 1, 1) := by decide +kernel
theorem dL_setMoon_5 : decode cL_setMoon 5 = .ok (.iload_n 2, 1) := by decide +kernel
theorem dL_setMoon_6 : decode cL_setMoon 6 = .ok (.iload_n 3, 1) := by decide +kernel
theorem dL_setMoon_7 : decode cL_setMoon 7 = .ok (.invokevirtual 19, 3) := by decide +kernel
theorem dL_setMoon_10 : decode cL_setMoon 10 = .ok (.i2l, 1) := by decide +kernel
theorem dL_setMoon_11 : decode cL_setMoon 11 = .ok (.lastore, 1) := by decide +kernel
theorem dL_setMoon_12 : decode cL_setMoon 12 = .ok (.goto 7, 3) := by decide +kernel
theorem dL_setMoon_15 : decode cL_setMoon 15 = .ok (.astore 5, 2) := by decide +kernel
theorem dL_setMoon_17 : decode cL_setMoon 17 = .ok (.iconst 1, 1) := by decide +kernel
theorem dL_setMoon_18 : decode cL_setMoon 18 = .ok (.ireturn, 1) := by decide +kernel
theorem dL_setMoon_19 : decode cL_setMoon 19 = .ok (.iconst 0, 1) := by decide +kernel
theorem dL_setMoon_20 : decode cL_setMoon 20 = .ok (.ireturn, 1) := by decide +kernel
theorem dL_addClouds_0 : decode cL_addClouds 0 = .ok (.aload_n 3, 1) := by decide +kernel
theorem dL_addClouds_1 : decode cL_addClouds 1 = .ok (.iconst 0, 1) := by decide +kernel
theorem dL_addClouds_2 : decode cL_addClouds 2 = .ok (.aload_n 0, 1) := by decide +kernel
theorem dL_addClouds_3 : decode cL_addClouds 3 = .ok (.iload_n 1, 1) := by decide +kernel
theorem dL_addClouds_4 : decode cL_addClouds 4 = .ok (.iload_n 2, 1) := by decide +kernel
theorem dL_addClouds_5 : decode cL_addClouds 5 = .ok (.invokevirtual 23, 3) := by decide +kernel
theorem dL_addClouds_8 : decode cL_addClouds 8 = .ok (.i2l, 1) := by decide +kernel
theorem dL_addClouds_9 : decode cL_addClouds 9 = .ok (.lastore, 1) := by decide +kernel
theorem dL_addClouds_10 : decode cL_addClouds 10 = .ok (.goto 11, 3) := by decide +kernel
theorem dL_addClouds_13 : decode cL_addClouds 13 = .ok (.astore 4, 2) := by decide +kernel
theorem dL_addClouds_15 : decode cL_addClouds 15 = .ok (.iconst 1, 1) := by decide +kernel
theorem dL_addClouds_16 : decode cL_addClouds 16 = .ok (.ireturn, 1) := by decide +kernel
theorem dL_addClouds_17 : decode cL_addClouds 17 = .ok (.astore 4, 2) := by decide +kernel
theorem dL_addClouds_19 : decode cL_addClouds 19 = .ok (.iconst 2, 1) := by decide +kernel
theorem dL_addClouds_20 : decode cL_addClouds 20 = .ok (.ireturn, 1) := by decide +kernel
theorem dL_addClouds_21 : decode cL_addClouds 21 = .ok (.iconst 0, 1) := by decide +kernel
theorem dL_addClouds_22 : decode cL_addClouds 22 = .ok (.ireturn, 1) := by decide +kernel
theorem dL_sine_0 : decode cL_sine 0 = .ok (.aload_n 2, 1) := by decide +kernel
theorem dL_sine_1 : decode cL_sine 1 = .ok (.iconst 0, 1) := by decide +kernel
theorem dL_sine_2 : decode cL_sine 2 = .ok (.aload_n 0, 1) := by decide +kernel
theorem dL_sine_3 : decode cL_sine 3 = .ok (.iload_n 1, 1) := by decide +kernel
theorem dL_sine_4 : decode cL_sine 4 = .ok (.invokevirtual 28, 3) := by decide +kernel
theorem dL_sine_7 : decode cL_sine 7 = .ok (.i2l, 1) := by decide +kernel
theorem dL_sine_8 : decode cL_sine 8 = .ok (.lastore, 1) := by decide +kernel
theorem dL_sine_9 : decode cL_sine 9 = .ok (.goto 6, 3) := by decide +kernel
theorem dL_sine_12 : decode cL_sine 12 = .ok (.astore_n 3, 1) := by decide +kernel
theorem dL_sine_13 : decode cL_sine 13 = .ok (.iconst 1, 1) := by decide +kernel
theorem dL_sine_14 : decode cL_sine 14 = .ok (.ireturn, 1) := by decide +kernel
theorem dL_sine_15 : decode cL_sine 15 = .ok (.iconst 0, 1) := by decide +kernel
theorem dL_sine_16 : decode cL_sine 16 = .ok (.ireturn, 1) := by decide +kernel
theorem dL_addTarget_0 : decode cL_addTarget 0 = .ok (.aload 6, 2) := by decide +kernel
theorem dL_addTarget_2 : decode cL_addTarget 2 = .ok (.iconst 0, 1) := by decide +kernel
theorem dL_addTarget_3 : decode cL_addTarget 3 = .ok (.aload_n 0, 1) := by decide +kernel
theorem dL_addTarget_4 : decode cL_addTarget 4 = .ok (.iload_n 1, 1) := by decide +kernel
theorem dL_addTarget_5 : decode cL_addTarget 5 = .ok (.iload_n 2, 1) := by decide +kernel
theorem dL_addTarget_6 : decode cL_addTarget 6 = .ok (.iload_n 3, 1) := by decide +kernel
theorem dL_addTarget_7 : decode cL_addTarget 7 = .ok (.iload 4, 2) := by decide +kernel
theorem dL_addTarget_9 : decode cL_addTarget 9 = .ok (.iload 5, 2) := by decide +kernel
theorem dL_addTarget_11 : decode cL_addTarget 11 = .ok (.invokevirtual 31, 3) := by decide +kernel
theorem dL_addTarget_14 : decode cL_addTarget 14 = .ok (.i2l, 1) := by decide +kernel
theorem dL_addTarget_15 : decode cL_addTarget 15 = .ok (.lastore, 1) := by decide +kernel
theorem dL_addTarget_16 : decode cL_addTarget 16 = .ok (.goto 11, 3) := by decide +kernel
theorem dL_addTarget_19 : decode cL_addTarget 19 = .ok (.astore 7, 2) := by decide +kernel
theorem dL_addTarget_21 : decode cL_addTarget 21 = .ok (.iconst 1, 1) := by decide +kernel
theorem dL_addTarget_22 : decode cL_addTarget 22 = .ok (.ireturn, 1) := by decide +kernel
theorem dL_addTarget_23 : decode cL_addTarget 23 = .ok (.astore 7, 2) := by decide +kernel
theorem dL_addTarget_25 : decode cL_addTarget 25 = .ok (.iconst 2, 1) := by decide +kernel
theorem dL_addTarget_26 : decode cL_addTarget 26 = .ok (.ireturn, 1) := by decide +kernel
theorem dL_addTarget_27 : decode cL_addTarget 27 = .ok (.iconst 0, 1) := by decide +kernel
theorem dL_addTarget_28 : decode cL_addTarget 28 = .ok (.ireturn, 1) := by decide +kernel
theorem dL_want_0 : decode cL_want 0 = .ok (.aload 5, 2) := by decide +kernel
theorem dL_want_2 : decode cL_want 2 = .ok (.iconst 0, 1) := by decide +kernel
theorem dL_want_3 : decode cL_want 3 = .ok (.aload_n 0, 1) := by decide +kernel
theorem dL_want_4 : decode cL_want 4 = .ok (.iload_n 1, 1) := by decide +kernel
theorem dL_want_5 : decode cL_want 5 = .ok (.iload_n 2, 1) := by decide +kernel
theorem dL_want_6 : decode cL_want 6 = .ok (.iload_n 3, 1) := by decide +kernel
theorem dL_want_7 : decode cL_want 7 = .ok (.iload 4, 2) := by decide +kernel
theorem dL_want_9 : decode cL_want 9 = .ok (.invokevirtual 35, 3) := by decide +kernel
theorem dL_want_12 : decode cL_want 12 = .ok (.i2l, 1) := by decide +kernel
theorem dL_want_13 : decode cL_want 13 = .ok (.lastore, 1) := by decide +kernel
theorem dL_want_14 : decode cL_want 14 = .ok (.goto 11, 3) := by decide +kernel
theorem dL_want_17 : decode cL_want 17 = .ok (.astore 6, 2) := by decide +kernel
theorem dL_want_19 : decode cL_want 19 = .ok (.iconst 1, 1) := by decide +kernel
theorem dL_want_20 : decode cL_want 20 = .ok (.ireturn, 1) := by decide +kernel
theorem dL_want_21 : decode cL_want 21 = .ok (.astore 6, 2) := by decide +kernel
theorem dL_want_23 : decode cL_want 23 = .ok (.iconst 2, 1) := by decide +kernel
theorem dL_want_24 : decode cL_want 24 = .ok (.ireturn, 1) := by decide +kernel
theorem dL_want_25 : decode cL_want 25 = .ok (.iconst 0, 1) := by decide +kernel
theorem dL_want_26 : decode cL_want 26 = .ok (.ireturn, 1) := by decide +kernel
theorem dL_target_0 : decode cL_target 0 = .ok (.aload_n 3, 1) := by decide +kernel
theorem dL_target_1 : decode cL_target 1 = .ok (.iconst 0, 1) := by decide +kernel
theorem dL_target_2 : decode cL_target 2 = .ok (.aload_n 0, 1) := by decide +kernel
theorem dL_target_3 : decode cL_target 3 = .ok (.iload_n 1, 1) := by decide +kernel
theorem dL_target_4 : decode cL_target 4 = .ok (.iload_n 2, 1) := by decide +kernel
theorem dL_target_5 : decode cL_target 5 = .ok (.invokevirtual 41, 3) := by decide +kernel
theorem dL_target_8 : decode cL_target 8 = .ok (.i2l, 1) := by decide +kernel
theorem dL_target_9 : decode cL_target 9 = .ok (.lastore, 1) := by decide +kernel
theorem dL_target_10 : decode cL_target 10 = .ok (.goto 7, 3) := by decide +kernel
theorem dL_target_13 : decode cL_target 13 = .ok (.astore 4, 2) := by decide +kernel
theorem dL_target_15 : decode cL_target 15 = .ok (.iconst 1, 1) := by decide +kernel
theorem dL_target_16 : decode cL_target 16 = .ok (.ireturn, 1) := by decide +kernel
theorem dL_target_17 : decode cL_target 17 = .ok (.iconst 0, 1) := by decide +kernel
theorem dL_target_18 : decode cL_target 18 = .ok (.ireturn, 1) := by decide +kernel
theorem dL_height_0 : decode cL_height 0 = .ok (.aload_n 3, 1) := by decide +kernel
theorem dL_height_1 : decode cL_height 1 = .ok (.iconst 0, 1) := by decide +kernel
theorem dL_height_2 : decode cL_height 2 = .ok (.aload_n 0, 1) := by decide +kernel
theorem dL_height_3 : decode cL_height 3 = .ok (.iload_n 1, 1) := by decide +kernel
theorem dL_height_4 : decode cL_height 4 = .ok (.iload_n 2, 1) := by decide +kernel
theorem dL_height_5 : decode cL_height 5 = .ok (.invokevirtual 44, 3) := by decide +kernel
theorem dL_height_8 : decode cL_height 8 = .ok (.i2l, 1) := by decide +kernel
theorem dL_height_9 : decode cL_height 9 = .ok (.lastore, 1) := by decide +kernel
theorem dL_height_10 : decode cL_height 10 = .ok (.goto 11, 3) := by decide +kernel
theorem dL_height_13 : decode cL_height 13 = .ok (.astore 4, 2) := by decide +kernel
theorem dL_height_15 : decode cL_height 15 = .ok (.iconst 1, 1) := by decide +kernel
theorem dL_height_16 : decode cL_height 16 = .ok (.ireturn, 1) := by decide +kernel
theorem dL_height_17 : decode cL_height 17 = .ok (.astore 4, 2) := by decide +kernel
theorem dL_height_19 : decode cL_height 19 = .ok (.iconst 2, 1) := by decide +kernel
theorem dL_height_20 : decode cL_height 20 = .ok (.ireturn, 1) := by decide +kernel
theorem dL_height_21 : decode cL_height 21 = .ok (.iconst 0, 1) := by decide +kernel
theorem dL_height_22 : decode cL_height 22 = .ok (.ireturn, 1) := by decide +kernel
theorem dL_nearness_0 : decode cL_nearness 0 = .ok (.aload_n 3, 1) := by decide +kernel
theorem dL_nearness_1 : decode cL_nearness 1 = .ok (.iconst 0, 1) := by decide +kernel
theorem dL_nearness_2 : decode cL_nearness 2 = .ok (.aload_n 0, 1) := by decide +kernel
theorem dL_nearness_3 : decode cL_nearness 3 = .ok (.iload_n 1, 1) := by decide +kernel
theorem dL_nearness_4 : decode cL_nearness 4 = .ok (.iload_n 2, 1) := by decide +kernel
theorem dL_nearness_5 : decode cL_nearness 5 = .ok (.invokevirtual 47, 3) := by decide +kernel
theorem dL_nearness_8 : decode cL_nearness 8 = .ok (.i2l, 1) := by decide +kernel
theorem dL_nearness_9 : decode cL_nearness 9 = .ok (.lastore, 1) := by decide +kernel
theorem dL_nearness_10 : decode cL_nearness 10 = .ok (.goto 7, 3) := by decide +kernel
theorem dL_nearness_13 : decode cL_nearness 13 = .ok (.astore 4, 2) := by decide +kernel
theorem dL_nearness_15 : decode cL_nearness 15 = .ok (.iconst 1, 1) := by decide +kernel
theorem dL_nearness_16 : decode cL_nearness 16 = .ok (.ireturn, 1) := by decide +kernel
theorem dL_nearness_17 : decode cL_nearness 17 = .ok (.iconst 0, 1) := by decide +kernel
theorem dL_nearness_18 : decode cL_nearness 18 = .ok (.ireturn, 1) := by decide +kernel
theorem dL_moonNearness_0 : decode cL_moonNearness 0 = .ok (.aload_n 2, 1) := by decide +kernel
theorem dL_moonNearness_1 : decode cL_moonNearness 1 = .ok (.iconst 0, 1) := by decide +kernel
theorem dL_moonNearness_2 : decode cL_moonNearness 2 = .ok (.aload_n 0, 1) := by decide +kernel
theorem dL_moonNearness_3 : decode cL_moonNearness 3 = .ok (.iload_n 1, 1) := by decide +kernel
theorem dL_moonNearness_4 : decode cL_moonNearness 4 = .ok (.invokevirtual 50, 3) := by decide +kernel
theorem dL_moonNearness_7 : decode cL_moonNearness 7 = .ok (.i2l, 1) := by decide +kernel
theorem dL_moonNearness_8 : decode cL_moonNearness 8 = .ok (.lastore, 1) := by decide +kernel
theorem dL_moonNearness_9 : decode cL_moonNearness 9 = .ok (.goto 6, 3) := by decide +kernel
theorem dL_moonNearness_12 : decode cL_moonNearness 12 = .ok (.astore_n 3, 1) := by decide +kernel
theorem dL_moonNearness_13 : decode cL_moonNearness 13 = .ok (.iconst 1, 1) := by decide +kernel
theorem dL_moonNearness_14 : decode cL_moonNearness 14 = .ok (.ireturn, 1) := by decide +kernel
theorem dL_moonNearness_15 : decode cL_moonNearness 15 = .ok (.iconst 0, 1) := by decide +kernel
theorem dL_moonNearness_16 : decode cL_moonNearness 16 = .ok (.ireturn, 1) := by decide +kernel
theorem dL_moonHeight_0 : decode cL_moonHeight 0 = .ok (.aload_n 2, 1) := by decide +kernel
theorem dL_moonHeight_1 : decode cL_moonHeight 1 = .ok (.iconst 0, 1) := by decide +kernel
theorem dL_moonHeight_2 : decode cL_moonHeight 2 = .ok (.aload_n 0, 1) := by decide +kernel
theorem dL_moonHeight_3 : decode cL_moonHeight 3 = .ok (.iload_n 1, 1) := by decide +kernel
theorem dL_moonHeight_4 : decode cL_moonHeight 4 = .ok (.invokevirtual 53, 3) := by decide +kernel
theorem dL_moonHeight_7 : decode cL_moonHeight 7 = .ok (.i2l, 1) := by decide +kernel
theorem dL_moonHeight_8 : decode cL_moonHeight 8 = .ok (.lastore, 1) := by decide +kernel
theorem dL_moonHeight_9 : decode cL_moonHeight 9 = .ok (.goto 6, 3) := by decide +kernel
theorem dL_moonHeight_12 : decode cL_moonHeight 12 = .ok (.astore_n 3, 1) := by decide +kernel
theorem dL_moonHeight_13 : decode cL_moonHeight 13 = .ok (.iconst 1, 1) := by decide +kernel
theorem dL_moonHeight_14 : decode cL_moonHeight 14 = .ok (.ireturn, 1) := by decide +kernel
theorem dL_moonHeight_15 : decode cL_moonHeight 15 = .ok (.iconst 0, 1) := by decide +kernel
theorem dL_moonHeight_16 : decode cL_moonHeight 16 = .ok (.ireturn, 1) := by decide +kernel
theorem dL_reason_0 : decode cL_reason 0 = .ok (.aload_n 3, 1) := by decide +kernel
theorem dL_reason_1 : decode cL_reason 1 = .ok (.iconst 0, 1) := by decide +kernel
theorem dL_reason_2 : decode cL_reason 2 = .ok (.aload_n 0, 1) := by decide +kernel
theorem dL_reason_3 : decode cL_reason 3 = .ok (.iload_n 1, 1) := by decide +kernel
theorem dL_reason_4 : decode cL_reason 4 = .ok (.iload_n 2, 1) := by decide +kernel
theorem dL_reason_5 : decode cL_reason 5 = .ok (.invokevirtual 56, 3) := by decide +kernel
theorem dL_reason_8 : decode cL_reason 8 = .ok (.i2l, 1) := by decide +kernel
theorem dL_reason_9 : decode cL_reason 9 = .ok (.lastore, 1) := by decide +kernel
theorem dL_reason_10 : decode cL_reason 10 = .ok (.goto 11, 3) := by decide +kernel
theorem dL_reason_13 : decode cL_reason 13 = .ok (.astore 4, 2) := by decide +kernel
theorem dL_reason_15 : decode cL_reason 15 = .ok (.iconst 1, 1) := by decide +kernel
theorem dL_reason_16 : decode cL_reason 16 = .ok (.ireturn, 1) := by decide +kernel
theorem dL_reason_17 : decode cL_reason 17 = .ok (.astore 4, 2) := by decide +kernel
theorem dL_reason_19 : decode cL_reason 19 = .ok (.iconst 2, 1) := by decide +kernel
theorem dL_reason_20 : decode cL_reason 20 = .ok (.ireturn, 1) := by decide +kernel
theorem dL_reason_21 : decode cL_reason 21 = .ok (.iconst 0, 1) := by decide +kernel
theorem dL_reason_22 : decode cL_reason 22 = .ok (.ireturn, 1) := by decide +kernel
theorem dL_window_0 : decode cL_window 0 = .ok (.aload_n 3, 1) := by decide +kernel
theorem dL_window_1 : decode cL_window 1 = .ok (.iconst 0, 1) := by decide +kernel
theorem dL_window_2 : decode cL_window 2 = .ok (.aload_n 0, 1) := by decide +kernel
theorem dL_window_3 : decode cL_window 3 = .ok (.iload_n 1, 1) := by decide +kernel
theorem dL_window_4 : decode cL_window 4 = .ok (.iload_n 2, 1) := by decide +kernel
theorem dL_window_5 : decode cL_window 5 = .ok (.invokevirtual 59, 3) := by decide +kernel
theorem dL_window_8 : decode cL_window 8 = .ok (.i2l, 1) := by decide +kernel
theorem dL_window_9 : decode cL_window 9 = .ok (.lastore, 1) := by decide +kernel
theorem dL_window_10 : decode cL_window 10 = .ok (.goto 7, 3) := by decide +kernel
theorem dL_window_13 : decode cL_window 13 = .ok (.astore 4, 2) := by decide +kernel
theorem dL_window_15 : decode cL_window 15 = .ok (.iconst 1, 1) := by decide +kernel
theorem dL_window_16 : decode cL_window 16 = .ok (.ireturn, 1) := by decide +kernel
theorem dL_window_17 : decode cL_window 17 = .ok (.iconst 0, 1) := by decide +kernel
theorem dL_window_18 : decode cL_window 18 = .ok (.ireturn, 1) := by decide +kernel
theorem dL_isOpen_0 : decode cL_isOpen 0 = .ok (.aload_n 2, 1) := by decide +kernel
theorem dL_isOpen_1 : decode cL_isOpen 1 = .ok (.iconst 0, 1) := by decide +kernel
theorem dL_isOpen_2 : decode cL_isOpen 2 = .ok (.aload_n 0, 1) := by decide +kernel
theorem dL_isOpen_3 : decode cL_isOpen 3 = .ok (.iload_n 1, 1) := by decide +kernel
theorem dL_isOpen_4 : decode cL_isOpen 4 = .ok (.invokevirtual 62, 3) := by decide +kernel
theorem dL_isOpen_7 : decode cL_isOpen 7 = .ok (.ifCond .eq 7, 3) := by decide +kernel
theorem dL_isOpen_10 : decode cL_isOpen 10 = .ok (.lconst 1, 1) := by decide +kernel
theorem dL_isOpen_11 : decode cL_isOpen 11 = .ok (.goto 4, 3) := by decide +kernel
theorem dL_isOpen_14 : decode cL_isOpen 14 = .ok (.lconst 0, 1) := by decide +kernel
theorem dL_isOpen_15 : decode cL_isOpen 15 = .ok (.lastore, 1) := by decide +kernel
theorem dL_isOpen_16 : decode cL_isOpen 16 = .ok (.goto 6, 3) := by decide +kernel
theorem dL_isOpen_19 : decode cL_isOpen 19 = .ok (.astore_n 3, 1) := by decide +kernel
theorem dL_isOpen_20 : decode cL_isOpen 20 = .ok (.iconst 1, 1) := by decide +kernel
theorem dL_isOpen_21 : decode cL_isOpen 21 = .ok (.ireturn, 1) := by decide +kernel
theorem dL_isOpen_22 : decode cL_isOpen 22 = .ok (.iconst 0, 1) := by decide +kernel
theorem dL_isOpen_23 : decode cL_isOpen 23 = .ok (.ireturn, 1) := by decide +kernel
theorem dL_count_0 : decode cL_count 0 = .ok (.aload_n 2, 1) := by decide +kernel
theorem dL_count_1 : decode cL_count 1 = .ok (.iconst 0, 1) := by decide +kernel
theorem dL_count_2 : decode cL_count 2 = .ok (.aload_n 0, 1) := by decide +kernel
theorem dL_count_3 : decode cL_count 3 = .ok (.iload_n 1, 1) := by decide +kernel
theorem dL_count_4 : decode cL_count 4 = .ok (.invokevirtual 66, 3) := by decide +kernel
theorem dL_count_7 : decode cL_count 7 = .ok (.i2l, 1) := by decide +kernel
theorem dL_count_8 : decode cL_count 8 = .ok (.lastore, 1) := by decide +kernel
theorem dL_count_9 : decode cL_count 9 = .ok (.goto 6, 3) := by decide +kernel
theorem dL_count_12 : decode cL_count 12 = .ok (.astore_n 3, 1) := by decide +kernel
theorem dL_count_13 : decode cL_count 13 = .ok (.iconst 1, 1) := by decide +kernel
theorem dL_count_14 : decode cL_count 14 = .ok (.ireturn, 1) := by decide +kernel
theorem dL_count_15 : decode cL_count 15 = .ok (.iconst 0, 1) := by decide +kernel
theorem dL_count_16 : decode cL_count 16 = .ok (.ireturn, 1) := by decide +kernel
theorem dL_visit_0 : decode cL_visit 0 = .ok (.aload_n 3, 1) := by decide +kernel
theorem dL_visit_1 : decode cL_visit 1 = .ok (.iconst 0, 1) := by decide +kernel
theorem dL_visit_2 : decode cL_visit 2 = .ok (.aload_n 0, 1) := by decide +kernel
theorem dL_visit_3 : decode cL_visit 3 = .ok (.iload_n 1, 1) := by decide +kernel
theorem dL_visit_4 : decode cL_visit 4 = .ok (.iload_n 2, 1) := by decide +kernel
theorem dL_visit_5 : decode cL_visit 5 = .ok (.invokevirtual 69, 3) := by decide +kernel
theorem dL_visit_8 : decode cL_visit 8 = .ok (.i2l, 1) := by decide +kernel
theorem dL_visit_9 : decode cL_visit 9 = .ok (.lastore, 1) := by decide +kernel
theorem dL_visit_10 : decode cL_visit 10 = .ok (.goto 7, 3) := by decide +kernel
theorem dL_visit_13 : decode cL_visit 13 = .ok (.astore 4, 2) := by decide +kernel
theorem dL_visit_15 : decode cL_visit 15 = .ok (.iconst 1, 1) := by decide +kernel
theorem dL_visit_16 : decode cL_visit 16 = .ok (.ireturn, 1) := by decide +kernel
theorem dL_visit_17 : decode cL_visit 17 = .ok (.iconst 0, 1) := by decide +kernel
theorem dL_visit_18 : decode cL_visit 18 = .ok (.ireturn, 1) := by decide +kernel
theorem dL_observe_0 : decode cL_observe 0 = .ok (.aload_n 1, 1) := by decide +kernel
theorem dL_observe_1 : decode cL_observe 1 = .ok (.iconst 0, 1) := by decide +kernel
theorem dL_observe_2 : decode cL_observe 2 = .ok (.aload_n 0, 1) := by decide +kernel
theorem dL_observe_3 : decode cL_observe 3 = .ok (.invokevirtual 72, 3) := by decide +kernel
theorem dL_observe_6 : decode cL_observe 6 = .ok (.i2l, 1) := by decide +kernel
theorem dL_observe_7 : decode cL_observe 7 = .ok (.lastore, 1) := by decide +kernel
theorem dL_observe_8 : decode cL_observe 8 = .ok (.goto 6, 3) := by decide +kernel
theorem dL_observe_11 : decode cL_observe 11 = .ok (.astore_n 2, 1) := by decide +kernel
theorem dL_observe_12 : decode cL_observe 12 = .ok (.iconst 1, 1) := by decide +kernel
theorem dL_observe_13 : decode cL_observe 13 = .ok (.ireturn, 1) := by decide +kernel
theorem dL_observe_14 : decode cL_observe 14 = .ok (.iconst 0, 1) := by decide +kernel
theorem dL_observe_15 : decode cL_observe 15 = .ok (.ireturn, 1) := by decide +kernel
theorem dL_pass_0 : decode cL_pass 0 = .ok (.aload_n 2, 1) := by decide +kernel
theorem dL_pass_1 : decode cL_pass 1 = .ok (.iconst 0, 1) := by decide +kernel
theorem dL_pass_2 : decode cL_pass 2 = .ok (.aload_n 0, 1) := by decide +kernel
theorem dL_pass_3 : decode cL_pass 3 = .ok (.iload_n 1, 1) := by decide +kernel
theorem dL_pass_4 : decode cL_pass 4 = .ok (.invokevirtual 76, 3) := by decide +kernel
theorem dL_pass_7 : decode cL_pass 7 = .ok (.i2l, 1) := by decide +kernel
theorem dL_pass_8 : decode cL_pass 8 = .ok (.lastore, 1) := by decide +kernel
theorem dL_pass_9 : decode cL_pass 9 = .ok (.goto 6, 3) := by decide +kernel
theorem dL_pass_12 : decode cL_pass 12 = .ok (.astore_n 3, 1) := by decide +kernel
theorem dL_pass_13 : decode cL_pass 13 = .ok (.iconst 1, 1) := by decide +kernel
theorem dL_pass_14 : decode cL_pass 14 = .ok (.ireturn, 1) := by decide +kernel
theorem dL_pass_15 : decode cL_pass 15 = .ok (.iconst 0, 1) := by decide +kernel
theorem dL_pass_16 : decode cL_pass 16 = .ok (.ireturn, 1) := by decide +kernel
end
section
/-! The walk in packages. S : HS is the heap as the claim sees it: of each address its label (what it is), its int slots, its reference slots, its length, its long slots. -/
/-- the tables' words that a callee may take over -/
def wG : List Cond := lw_tbl.filter goodWord
theorem mG {w : Cond} (k : Nat) (h : lw_tbl[k]? = some w) (g : goodWord w = true) : w ∈ wG := List.mem_filter.mpr ⟨List.mem_of_getElem? h, g⟩
theorem goodIn_wG {ws : List Cond} (h : ∀ w ∈ ws, w ∈ wG) : GoodIn wG ws := fun w hw => ⟨h w hw, good_of_word (List.mem_filter.mp (h w hw)).2⟩
abbrev HS : Type := (Nat → Nat) × (Nat → Nat → Int32) × (Nat → Nat → Option Nat) × (Nat → Nat) × (Nat → Nat → Int64) × (Nat → Nat → Int32)
def hK (S : HS) (a : Nat) : Nat := S.1 a
def hI (S : HS) (k a : Nat) : Int32 := S.2.1 k a
def hP (S : HS) (k a : Nat) : Option Nat := S.2.2.1 k a
def hN (S : HS) (a : Nat) : Nat := S.2.2.2.1 a
def hL (S : HS) (k a : Nat) : Int64 := S.2.2.2.2.1 k a
def hV (S : HS) (k a : Nat) : Int32 := S.2.2.2.2.2 k a
def sI (S : HS) (k a : Nat) (v : Int32) : HS := (S.1, fun k' a' => if k' = k ∧ a' = a then v else S.2.1 k' a', S.2.2)
def sP (S : HS) (k a : Nat) (v : Option Nat) : HS := (S.1, S.2.1, fun k' a' => if k' = k ∧ a' = a then v else S.2.2.1 k' a', S.2.2.2)
def sL (S : HS) (k a : Nat) (v : Int64) : HS := (S.1, S.2.1, S.2.2.1, S.2.2.2.1, (fun k' a' => if k' = k ∧ a' = a then v else S.2.2.2.2.1 k' a'), S.2.2.2.2.2)
def sV (S : HS) (k a : Nat) (v : Int32) : HS := (S.1, S.2.1, S.2.2.1, S.2.2.2.1, S.2.2.2.2.1, fun k' a' => if k' = k ∧ a' = a then v else S.2.2.2.2.2 k' a')
/-- a new thing at q: label lab, n places, all of them zero -/
def sNew (S : HS) (q lab n : Nat) : HS := (fun a => if a = q then lab else S.1 a, fun k a => if a = q then 0 else S.2.1 k a, fun k a => if a = q then none else S.2.2.1 k a, fun a => if a = q then n else S.2.2.2.1 a, fun k a => if a = q then 0 else S.2.2.2.2.1 k a, fun k a => if a = q then 0 else S.2.2.2.2.2 k a)
theorem hK_sI (S : HS) (k a : Nat) (v : Int32) (b : Nat) : hK (sI S k a v) b = hK S b := rfl
theorem hP_sI (S : HS) (k a : Nat) (v : Int32) (j b : Nat) : hP (sI S k a v) j b = hP S j b := rfl
theorem hN_sI (S : HS) (k a : Nat) (v : Int32) (b : Nat) : hN (sI S k a v) b = hN S b := rfl
theorem hL_sI (S : HS) (k a : Nat) (v : Int32) (j b : Nat) : hL (sI S k a v) j b = hL S j b := rfl
theorem hI_sI (S : HS) (k a : Nat) (v : Int32) (j b : Nat) : hI (sI S k a v) j b = if j = k ∧ b = a then v else hI S j b := rfl
theorem hK_sP (S : HS) (k a : Nat) (v : Option Nat) (b : Nat) : hK (sP S k a v) b = hK S b := rfl
theorem hI_sP (S : HS) (k a : Nat) (v : Option Nat) (j b : Nat) : hI (sP S k a v) j b = hI S j b := rfl
theorem hN_sP (S : HS) (k a : Nat) (v : Option Nat) (b : Nat) : hN (sP S k a v) b = hN S b := rfl
theorem hL_sP (S : HS) (k a : Nat) (v : Option Nat) (j b : Nat) : hL (sP S k a v) j b = hL S j b := rfl
theorem hP_sP (S : HS) (k a : Nat) (v : Option Nat) (j b : Nat) : hP (sP S k a v) j b = if j = k ∧ b = a then v else hP S j b := rfl
theorem hK_sL (S : HS) (k a : Nat) (v : Int64) (b : Nat) : hK (sL S k a v) b = hK S b := rfl
theorem hI_sL (S : HS) (k a : Nat) (v : Int64) (j b : Nat) : hI (sL S k a v) j b = hI S j b := rfl
theorem hP_sL (S : HS) (k a : Nat) (v : Int64) (j b : Nat) : hP (sL S k a v) j b = hP S j b := rfl
theorem hN_sL (S : HS) (k a : Nat) (v : Int64) (b : Nat) : hN (sL S k a v) b = hN S b := rfl
theorem hL_sL (S : HS) (k a : Nat) (v : Int64) (j b : Nat) : hL (sL S k a v) j b = if j = k ∧ b = a then v else hL S j b := rfl
theorem hK_sNew (S : HS) (q lab n b : Nat) : hK (sNew S q lab n) b = if b = q then lab else hK S b := rfl
theorem hI_sNew (S : HS) (q lab n k b : Nat) : hI (sNew S q lab n) k b = if b = q then 0 else hI S k b := rfl
theorem hP_sNew (S : HS) (q lab n k b : Nat) : hP (sNew S q lab n) k b = if b = q then none else hP S k b := rfl
theorem hN_sNew (S : HS) (q lab n b : Nat) : hN (sNew S q lab n) b = if b = q then n else hN S b := rfl
theorem hL_sNew (S : HS) (q lab n k b : Nat) : hL (sNew S q lab n) k b = if b = q then 0 else hL S k b := rfl
theorem hV_sI (S : HS) (k a : Nat) (v : Int32) (j b : Nat) : hV (sI S k a v) j b = hV S j b := rfl
theorem hV_sP (S : HS) (k a : Nat) (v : Option Nat) (j b : Nat) : hV (sP S k a v) j b = hV S j b := rfl
theorem hV_sL (S : HS) (k a : Nat) (v : Int64) (j b : Nat) : hV (sL S k a v) j b = hV S j b := rfl
theorem hK_sV (S : HS) (k a : Nat) (v : Int32) (b : Nat) : hK (sV S k a v) b = hK S b := rfl
theorem hN_sV (S : HS) (k a : Nat) (v : Int32) (b : Nat) : hN (sV S k a v) b = hN S b := rfl
theorem hI_sV (S : HS) (k a : Nat) (v : Int32) (j b : Nat) : hI (sV S k a v) j b = hI S j b := rfl
theorem hP_sV (S : HS) (k a : Nat) (v : Int32) (j b : Nat) : hP (sV S k a v) j b = hP S j b := rfl
theorem hL_sV (S : HS) (k a : Nat) (v : Int32) (j b : Nat) : hL (sV S k a v) j b = hL S j b := rfl
theorem hV_sV (S : HS) (k a : Nat) (v : Int32) (j b : Nat) : hV (sV S k a v) j b = if j = k ∧ b = a then v else hV S j b := rfl
theorem hV_sNew (S : HS) (q lab n k b : Nat) : hV (sNew S q lab n) k b = if b = q then 0 else hV S k b := rfl
theorem hI_same (S : HS) (k a : Nat) (v : Int32) : hI (sI S k a v) k a = v := if_pos ⟨rfl, rfl⟩
theorem hI_na {S : HS} {k a : Nat} {v : Int32} {j b : Nat} (h : b ≠ a) : hI (sI S k a v) j b = hI S j b := if_neg (fun z => h z.2)
theorem hI_nk {S : HS} {k a : Nat} {v : Int32} {j b : Nat} (h : j ≠ k) : hI (sI S k a v) j b = hI S j b := if_neg (fun z => h z.1)
theorem hP_same (S : HS) (k a : Nat) (v : Option Nat) : hP (sP S k a v) k a = v := if_pos ⟨rfl, rfl⟩
theorem hP_na {S : HS} {k a : Nat} {v : Option Nat} {j b : Nat} (h : b ≠ a) : hP (sP S k a v) j b = hP S j b := if_neg (fun z => h z.2)
theorem hP_nk {S : HS} {k a : Nat} {v : Option Nat} {j b : Nat} (h : j ≠ k) : hP (sP S k a v) j b = hP S j b := if_neg (fun z => h z.1)
theorem hL_same (S : HS) (k a : Nat) (v : Int64) : hL (sL S k a v) k a = v := if_pos ⟨rfl, rfl⟩
theorem hL_na {S : HS} {k a : Nat} {v : Int64} {j b : Nat} (h : b ≠ a) : hL (sL S k a v) j b = hL S j b := if_neg (fun z => h z.2)
theorem hL_nk {S : HS} {k a : Nat} {v : Int64} {j b : Nat} (h : j ≠ k) : hL (sL S k a v) j b = hL S j b := if_neg (fun z => h z.1)
theorem hV_same (S : HS) (k a : Nat) (v : Int32) : hV (sV S k a v) k a = v := if_pos ⟨rfl, rfl⟩
theorem hV_na {S : HS} {k a : Nat} {v : Int32} {j b : Nat} (h : b ≠ a) : hV (sV S k a v) j b = hV S j b := if_neg (fun z => h z.2)
theorem hV_nk {S : HS} {k a : Nat} {v : Int32} {j b : Nat} (h : j ≠ k) : hV (sV S k a v) j b = hV S j b := if_neg (fun z => h z.1)
theorem hK_ne {S : HS} {a b n k : Nat} (h1 : hK S a = n) (h2 : hK S b = k) (h : n ≠ k) : a ≠ b := fun e => h (by rw [← h1, ← h2, e])
/-- what the walks share: the classes' numbers, the array classes, where the new cells begin, the empty list's array, the mirror of Object[] -/
abbrev JG : Type := va_G × (Nat → ClassId) × Nat × Nat × Nat
abbrev gD (G : JG) : va_G := G.1
abbrev gC (G : JG) : Nat → ClassId := G.2.1
abbrev gB (G : JG) : Nat := G.2.2.1
abbrev gE (G : JG) : Nat := G.2.2.2.1
abbrev gM (G : JG) : Nat := G.2.2.2.2
abbrev gA (G : JG) : Nat → Prop := fun q => gB G ≤ q
/-- labels: 1 ArrayList 2 Clouds 3 Outlook 4 Plan 5 Point 6 Target 7 SkyPlan; 8 from 9 to 10 runs 11 a row of the plan; 12 the list's array 13 the plan's rows; 14 the law's long[]; 15, 16 boolean[] of the model; 17 SkyPlanModel; from 18 on int[] of the model -/
def hsh (G : JG) (S : HS) (a : Nat) : Nat → Option va_E
  | 0 => none
  | 1 => some (.inr (0, [.int (hI S 0 a), va_rf (hP S 1 a), .int (hI S 2 a)]))
  | 2 => some (.inr (1, [va_rf (hP S 0 a), va_rf (hP S 1 a), .int (hI S 2 a)]))
  | 3 => some (.inr (2, [va_rf (hP S 0 a), .int (hI S 1 a), .int (hI S 2 a), .int (hI S 3 a), .int (hI S 4 a), .int (hI S 5 a), .int (hI S 6 a), .int (hI S 7 a)]))
  | 4 => some (.inr (3, [va_rf (hP S 0 a), .int (hI S 1 a), .int (hI S 2 a), .int (hI S 3 a), va_rf (hP S 4 a)]))
  | 5 => some (.inr (4, [.int (hI S 0 a), .int (hI S 1 a), .int (hI S 2 a), .int (hI S 3 a)]))
  | 6 => some (.inr (5, [.int (hI S 0 a), va_rf (hP S 1 a), .int (hI S 2 a), .int (hI S 3 a), .int (hI S 4 a), va_rf (hP S 5 a), .int (hI S 6 a), .int (hI S 7 a), .int (hI S 8 a), .int (hI S 9 a), .int (hI S 10 a), .int (hI S 11 a)]))
  | 7 => some (.inr (6, [va_rf (hP S 0 a), va_rf (hP S 1 a), .int (hI S 2 a), .int (hI S 3 a), .int (hI S 4 a), va_rf (hP S 5 a), va_rf (hP S 6 a), va_rf (hP S 7 a)]))
  | 12 => some (.inl (gC G 2, hN S a, .inr (.inr (.inr (.inr (fun i => hP S i a))))))
  | 13 => some (.inl (gC G 3, hN S a, .inr (.inr (.inr (.inr (fun i => hP S i a))))))
  | 14 => some (.inl (gC G 4, hN S a, .inr (.inl (fun i => hL S i a))))
  | 15 => some (.inl (gC G 1, hN S a, .inl (fun i => hV S i a)))
  | 16 => some (.inl (gC G 1, hN S a, .inl (fun i => hV S i a)))
  | 17 => some (.inr (7, [.int (hI S 0 a), .int (hI S 1 a), .int (hI S 2 a), .int (hI S 3 a), .int (hI S 4 a), .int (hI S 5 a), .int (hI S 6 a), .int (hI S 7 a), .int (hI S 8 a), va_rf (hP S 9 a), .int (hI S 10 a), va_rf (hP S 11 a), va_rf (hP S 12 a), va_rf (hP S 13 a), va_rf (hP S 14 a), va_rf (hP S 15 a), va_rf (hP S 16 a), va_rf (hP S 17 a), va_rf (hP S 18 a), va_rf (hP S 19 a), va_rf (hP S 20 a), .int (hI S 21 a), va_rf (hP S 22 a), va_rf (hP S 23 a), .int (hI S 24 a), va_rf (hP S 25 a)]))
  | _ => some (.inl (gC G 0, hN S a, .inl (fun i => hV S i a)))
def hob (G : JG) (S : HS) (a : Nat) : Option va_E := hsh G S a (hK S a)
theorem hob_of {G : JG} {S : HS} {a lab : Nat} (h : hK S a = lab) : hob G S a = hsh G S a lab := by unfold hob; rw [h]
theorem hob_0 {G : JG} {S : HS} {a : Nat} (h : hob G S a = none) : hK S a = 0 := by
  unfold hob at h
  generalize hK S a = n at h ⊢
  unfold hsh at h
  split at h <;> first | rfl | cases h
/-- the heap H holds what S says, at addresses of its own -/
def Rep (G : JG) (S : HS) (H : Heap) : Prop := ∃ ws : va_W, va_P (gD G) vwCl ws H ∧ va_D (gA G) ws ∧ ∀ (a : Nat) (e : va_E), hob G S a = some e → ∃ k : Nat, ws[k]? = some (a, e)
theorem Rep.kept {G : JG} {S : HS} {H H1 : Heap} (h : Rep G S H) (hq : ∀ q : Nat, q < H.size → H1[q]? = H[q]?) : Rep G S H1 := by
  obtain ⟨ws, h1, h2, h3⟩ := h
  exact ⟨ws, h1.kept (fun k q hk => hq _ (h1 k q hk).lt), h2, h3⟩
theorem Rep.one {G : JG} {S : HS} {H : Heap} (h : Rep G S H) {a : Nat} {e : va_E} (he : hob G S a = some e) : va_P (gD G) vwCl [(a, e)] H := by
  obtain ⟨ws, h1, -, h3⟩ := h
  obtain ⟨k, hk⟩ := h3 a e he
  intro j q hj
  match j, hj with
  | 0, hj => cases hj; exact h1 k _ hk
  | j + 1, hj => simp at hj
theorem Rep.base {G : JG} {S : HS} {H : Heap} (h : Rep G S H) {a : Nat} {e : va_E} (he : hob G S a = some e) : gB G ≤ a ∧ a < H.size := by
  obtain ⟨ws, h1, h2, h3⟩ := h
  obtain ⟨k, hk⟩ := h3 a e he
  exact ⟨h2.2 k _ hk, (h1 k _ hk).lt⟩
/-- the world after the cell at the place k became e' -/
theorem Rep.put {G : JG} {S S' : HS} {a k : Nat} {e e' : va_E} {ws : va_W} {H1 : Heap} (h3 : ∀ (a : Nat) (e : va_E), hob G S a = some e → ∃ k : Nat, ws[k]? = some (a, e)) (hD : va_D (gA G) ws) (hk : ws[k]? = some (a, e))
    (hP1 : va_P (gD G) vwCl (ws.set k (a, e')) H1) (hD1 : va_D (gA G) (ws.set k (a, e'))) (he' : hob G S' a = some e') (ho : ∀ b : Nat, b ≠ a → hob G S' b = hob G S b) : Rep G S' H1 := by
  refine ⟨_, hP1, hD1, fun b f hf => ?_⟩
  by_cases hb : b = a
  · subst hb
    rw [he'] at hf
    cases hf
    refine ⟨k, ?_⟩
    rw [List.getElem?_set_self ((List.getElem?_eq_some_iff.mp hk).1)]
  · rw [ho b hb] at hf
    obtain ⟨j, hj⟩ := h3 b f hf
    refine ⟨j, ?_⟩
    have hne : k ≠ j := by
      intro e0
      subst e0
      rw [hk] at hj
      cases hj
      exact hb rfl
    rw [List.getElem?_set_ne hne]
    exact hj
theorem Rep.push {G : JG} {S S' : HS} {a : Nat} {e' : va_E} {ws : va_W} {H1 : Heap} (h3 : ∀ (a : Nat) (e : va_E), hob G S a = some e → ∃ k : Nat, ws[k]? = some (a, e))
    (hP1 : va_P (gD G) vwCl (ws ++ [(a, e')]) H1) (hD1 : va_D (gA G) (ws ++ [(a, e')])) (he' : hob G S' a = some e') (ho : ∀ b : Nat, b ≠ a → hob G S' b = hob G S b) : Rep G S' H1 := by
  refine ⟨_, hP1, hD1, fun b f hf => ?_⟩
  by_cases hb : b = a
  · subst hb
    rw [he'] at hf
    cases hf
    exact ⟨ws.length, by simp⟩
  · rw [ho b hb] at hf
    obtain ⟨j, hj⟩ := h3 b f hf
    refine ⟨j, ?_⟩
    rw [List.getElem?_append_left ((List.getElem?_eq_some_iff.mp hj).1)]
    exact hj
theorem Rep.fresh {G : JG} {S : HS} {a : Nat} {e' : va_E} {ws : va_W} (h3 : ∀ (a : Nat) (e : va_E), hob G S a = some e → ∃ k : Nat, ws[k]? = some (a, e)) (hD1 : va_D (gA G) (ws ++ [(a, e')])) : hK S a = 0 := by
  refine hob_0 (G := G) ?_
  cases h : hob G S a with
  | none => rfl
  | some e =>
    obtain ⟨j, hj⟩ := h3 a e h
    have hlt := (List.getElem?_eq_some_iff.mp hj).1
    have h1 : (ws ++ [(a, e')])[j]? = some (a, e) := by rw [List.getElem?_append_left hlt]; exact hj
    have h2 : (ws ++ [(a, e')])[ws.length]? = some (a, e') := by simp
    have := hD1.1 _ _ _ _ h1 h2 rfl
    omega
/-- what a heap step leaves: only S at a changed -/
theorem hob_congr {G : JG} {S S' : HS} {b : Nat} (h1 : hK S' b = hK S b) (h2 : ∀ k, hI S' k b = hI S k b) (h3 : ∀ k, hP S' k b = hP S k b) (h4 : hN S' b = hN S b) (h5 : ∀ k, hL S' k b = hL S k b) (h6 : ∀ k, hV S' k b = hV S k b) : hob G S' b = hob G S b := by
  unfold hob
  rw [h1]
  generalize hK S b = n
  unfold hsh
  split <;> simp only [h2, h3, h4, h5, h6]
theorem hob_sI {G : JG} {S : HS} {k a : Nat} {v : Int32} {b : Nat} (h : b ≠ a) : hob G (sI S k a v) b = hob G S b :=
  hob_congr rfl (fun j => by rw [hI_sI, if_neg (fun z => h z.2)]) (fun _ => rfl) rfl (fun _ => rfl) (fun _ => rfl)
theorem hob_sP {G : JG} {S : HS} {k a : Nat} {v : Option Nat} {b : Nat} (h : b ≠ a) : hob G (sP S k a v) b = hob G S b :=
  hob_congr rfl (fun _ => rfl) (fun j => by rw [hP_sP, if_neg (fun z => h z.2)]) rfl (fun _ => rfl) (fun _ => rfl)
theorem hob_sL {G : JG} {S : HS} {k a : Nat} {v : Int64} {b : Nat} (h : b ≠ a) : hob G (sL S k a v) b = hob G S b :=
  hob_congr rfl (fun _ => rfl) (fun _ => rfl) rfl (fun j => by rw [hL_sL, if_neg (fun z => h z.2)]) (fun _ => rfl)
theorem hob_sV {G : JG} {S : HS} {k a : Nat} {v : Int32} {b : Nat} (h : b ≠ a) : hob G (sV S k a v) b = hob G S b :=
  hob_congr rfl (fun _ => rfl) (fun _ => rfl) rfl (fun _ => rfl) (fun j => by rw [hV_sV, if_neg (fun z => h z.2)])
theorem hob_sNew {G : JG} {S : HS} {q lab n b : Nat} (h : b ≠ q) : hob G (sNew S q lab n) b = hob G S b :=
  hob_congr (by rw [hK_sNew, if_neg h]) (fun j => by rw [hI_sNew, if_neg h]) (fun j => by rw [hP_sNew, if_neg h]) (by rw [hN_sNew, if_neg h]) (fun j => by rw [hL_sNew, if_neg h]) (fun j => by rw [hV_sNew, if_neg h])
end
section
/-- words that move with the tables, but not by 'keeps' -/
def nestish : Cond → Bool
  | .methodLinkNest .. => true
  | .castable .. => true
  | _ => false
def wN : List Cond := lw_tbl.filter nestish
theorem mN {w : Cond} (k : Nat) (h : lw_tbl[k]? = some w) (g : nestish w = true) : w ∈ wN := List.mem_filter.mpr ⟨List.mem_of_getElem? h, g⟩
def tysG (G : JG) : List (ClassId × FieldType) := [(gC G 0, .int), (gC G 1, .boolean), (gC G 2, .object "java/lang/Object"), (gC G 3, .array .int), (gC G 4, .long)]
/-- exceptions that a row of another class doesn't catch -/
def ncsG : List (String × String) := [("java/lang/IllegalStateException", "java/lang/IllegalArgumentException"), ("java/lang/IllegalArgumentException", "java/lang/IndexOutOfBoundsException")]
theorem va_AOA.moved {t : FieldType} {u U : State} (hvm : u.vm.Alike U.vm) (h : va_AOA t u) : va_AOA t U := by
  have h1 : (Cond.arrayOver (.array t)).before #[] (u.setVm U.vm) = true := (Cond.arrayOver_setVmC hvm (.array t)).trans h
  exact h1
def strWord : Cond → Option (String × Nat × String)
  | .stringRef o k t => some (o, k, t)
  | _ => none
def strG : List (String × Nat × String) := tables_1.filterMap strWord
abbrev dAL : String := "[Ljava/lang/Object;"
/-- what every walk may ask of the machine's tables and of the cells below the base -/
def GI (G : JG) (U : State) (H : Heap) : Prop :=
  va_K (gD G) vwCl (tysG G) U ∧ (∀ w ∈ wN, va_Nw w U) ∧ (∀ q ∈ ncsG, va_Nc q.1 q.2 U) ∧ (∀ q ∈ strG, ∃ a : Nat, vk_R q.1 q.2.1 q.2.2 a U) ∧
  vx_Zq Bundle.tN "UNASSIGNED_STACK" Bundle.steD (gA G) U H ∧ vx_Zq Bundle.tN "SUPPRESSED_SENTINEL" Bundle.listD (gA G) U H ∧
  va_Z "java/util/ArrayList" "DEFAULTCAPACITY_EMPTY_ELEMENTDATA" dAL (.ref (gE G)) (gA G) U H ∧ va_at (gD G) vwCl (gE G, .inl (gC G 2, 0, .inr (.inr (.inr (.inr (fun _ => none)))))) H ∧ ¬ gA G (gE G) ∧ va_Mi "[Ljava/lang/Object;" (gM G) U ∧ va_AO "java/lang/Object" U ∧ va_AOA .int U ∧ gB G ≤ H.size
theorem GI.same {G : JG} {u U : State} {H : Heap} (hv : u.vm = U.vm) (h : GI G u H) : GI G U H := by
  obtain ⟨h1, h2, h3, h4, h5, h6, h7, h8, h9, h10, h11, h12, h13⟩ := h
  have ha : u.vm.Alike U.vm := hv ▸ Vm.Alike.refl _
  refine ⟨h1.moved ha, fun w hw => ?_, fun q hq => (h3 q hq).moved ha, fun q hq => ?_, h5.moved ha, h6.moved ha, h7.moved ha, h8, h9, h10.moved ha, h11.moved ha, h12.moved ha, h13⟩
  · have hn := (List.mem_filter.mp hw).2
    have ho : w.onTables = true := by cases w <;> first | rfl | cases hn
    exact va_Nw.same ho hv (h2 w hw)
  · obtain ⟨a, ha⟩ := h4 q hq
    exact ⟨a, vk_R.same hv.symm ha⟩
theorem GI.warm {G : JG} {s U : State} {H : Heap} (hW : s.WarmedH U.vm) (h : GI G s H) : GI G U H := by
  obtain ⟨h1, h2, h3, h4, h5, h6, h7, h8, h9, h10, h11, h12, h13⟩ := h
  have ha : s.vm.Alike U.vm := hW.alike
  refine ⟨h1.moved ha, fun w hw => ?_, fun q hq => (h3 q hq).moved ha, fun q hq => ?_, h5.moved ha, h6.moved ha, h7.moved ha, h8, h9, h10.moved ha, h11.moved ha, h12.moved ha, h13⟩
  · have hn := (List.mem_filter.mp hw).2
    have hz := h2 w hw
    cases w with
    | methodLinkNest a i x h => exact va_Nw.warmM hW hz
    | castable c t => exact va_tabs (U := U) rfl (rfl : (s.setVm U.vm).vm = U.vm) ((Cond.castable_setVm (args := #[]) ha c t).trans hz)
    | _ => cases hn
  · obtain ⟨a, ha⟩ := h4 q hq
    exact ⟨a, vk_R.warm hW ha⟩
theorem GI.base {G : JG} {U : State} {H : Heap} (h : GI G U H) : gB G ≤ H.size := h.2.2.2.2.2.2.2.2.2.2.2.2
theorem GI.kept {G : JG} {U : State} {H H1 : Heap} (h : GI G U H) (hz : H.size ≤ H1.size) (hq : ∀ a : Nat, a < H.size → ¬ gA G a → H1[a]? = H[a]?) : GI G U H1 := by
  obtain ⟨h1, h2, h3, h4, h5, h6, h7, h8, h9, h10, h11, h12, h13⟩ := h
  exact ⟨h1, h2, h3, h4, h5.kept hq, h6.kept hq, h7.kept hq, h8.kept (hq _ h8.lt h9), h9, h10, h11, h12, Nat.le_trans h13 hz⟩
def jPc (G : JG) (S : HS) : State → Prop := fun U => GI G U U.heap ∧ Rep G S U.heap
theorem jPc_blind {G : JG} {S : HS} {as : List Value} : FrameBlind (va_Pc as (jPc G S)) := fun _ U g mk h => ⟨h.1, GI.same (u := U) rfl (show GI G U U.heap from h.2.1), (show Rep G S U.heap from h.2.2)⟩
def jQc (G : JG) (R : Option Value → HS → Prop) : Array Value → State → Outcome → State → Prop := fun _ st o t => (∃ (v : Option Value) (S' : HS), o = .returned v ∧ R v S' ∧ Rep G S' t.heap) ∧ va_F (gA G) st t
def jXC (G : JG) (RX : String → HS → Prop) : String → State → State → Prop := fun E st t => (∃ S' : HS, RX E S' ∧ Rep G S' t.heap) ∧ va_F (gA G) st t
abbrev jRm (fr lo mc ms : Nat) : Room := { frames := fr, cells := mc, slots := ms, locals := lo }
/-- a method's contract: from S, with these arguments, it returns as R says or throws as RX says; nothing below the base changes -/
def Ct (G : JG) (y : MethodName) (cc : ByteArray) (nL : Nat) (ret : Option FieldType) (fr lo mc ms : Nat) (as : List Value) (S : HS) (R : Option Value → HS → Prop) (RX : String → HS → Prop) : Prop :=
  ∀ l : Launch, l.stackTraces = false → vx_Met l y (.code y cc nL ret :: wG) (jRm fr lo mc ms) (va_Pc as (jPc G S)) (jQc G R) (jXC G RX) mc ms (gA G)
def noX : String → HS → Prop := fun _ _ => False
theorem jXC_no {G : JG} {E : String} {st t : State} (h : jXC G noX E st t) : False := by
  obtain ⟨⟨_, h, _⟩, _⟩ := h
  exact h
theorem Ct.met {G : JG} {y : MethodName} {cc : ByteArray} {nL : Nat} {ret : Option FieldType} {fr lo mc ms : Nat} {as : List Value} {S : HS} {R : Option Value → HS → Prop} (h : Ct G y cc nL ret fr lo mc ms as S R noX) (l : Launch) (hl : l.stackTraces = false) :
    Met l y (.code y cc nL ret :: wG) (jRm fr lo mc ms) (va_Pc as (jPc G S)) (jQc G R) mc ms (gA G) := by
  refine MetFree.mono (h l hl) (fun _ _ hp => hp) (fun _ _ _ _ _ hk => hk) ?_
  · intro a st o t hp hq
    rcases hq with h1 | ⟨q, -, E, ce, L, hx, -⟩
    · exact h1
    · exact (jXC_no hx).elim
abbrev JX : Type := Program × Launch × Env × Room × State × MethodId × Array Value × List Frame × Method × Code
abbrev xp (X : JX) : Program := X.1
abbrev xl (X : JX) : Launch := X.2.1
abbrev xe (X : JX) : Env := X.2.2.1
abbrev xR (X : JX) : Room := X.2.2.2.1
abbrev xs (X : JX) : State := X.2.2.2.2.1
abbrev xm (X : JX) : MethodId := X.2.2.2.2.2.1
abbrev xa (X : JX) : Array Value := X.2.2.2.2.2.2.1
abbrev xb (X : JX) : List Frame := X.2.2.2.2.2.2.2.1
abbrev xt (X : JX) : Method := X.2.2.2.2.2.2.2.2.1
abbrev xc (X : JX) : Code := X.2.2.2.2.2.2.2.2.2
/-- the method stands at pc with these locals, this stack, this heap; cs cells and ss slots are made so far -/
def J (X : JX) (G : JG) (Q : State → Prop) (nL : Nat) (cs ss pc : Nat) (lv : List (Nat × Value)) (st : List Value) (S : HS) : Prop :=
  ∀ (H : Heap) (locs : List Loc) (ls : Array Slot), Rep G S H → va_S (gA G) (xs X).heap H locs → lv_has ls nL lv →
    W (xp X) (xl X) (xe X) (xR X) (xs X) (xm X) (xa X) (xb X) (xt X) (xc X) H locs cs ss Q (F0 (xm X) pc ls st)
/-- .. with an exception of the class E over the frame -/
def JT (X : JX) (G : JG) (Q : State → Prop) (nL : Nat) (cs ss pc : Nat) (lv : List (Nat × Value)) (S : HS) (E : String) : Prop :=
  ∀ (H : Heap) (locs : List Loc) (ls : Array Slot) (rest : List Value) (ce : Cell) (q : Addr), Rep G S H → va_S (gA G) (xs X).heap H locs → lv_has ls nL lv → H[q]? = some ce → ce.vm = .none → (xs X).vm.findClass E = some ce.cls →
    vx_W (xp X) (xl X) (xe X) (xR X) (xs X) (xm X) (xa X) (xb X) (xt X) (xc X) H locs cs ss Q (F0 (xm X) pc ls rest) q
/-- what is fixed while a method runs -/
def JC (X : JX) (G : JG) (own : String) (cc : ByteArray) (nL : Nat) (ret : Option FieldType) (fr lo mc ms : Nat) : Prop :=
  (xp X).tables.exec = Jvm.exec ∧ (xc X).code = cc ∧ (xc X).maxLocals = nL ∧ (xs X).vm.findClass own = some (xm X).cls ∧ (∀ w ∈ wG, w.before (xa X) (xs X) = true) ∧ GI G (xs X) (xs X).heap ∧ (xt X).locks = false ∧ (xt X).sig.returnType = ret ∧ (xl X).stackTraces = false ∧ xR X = jRm fr lo mc ms
def QQ (X : JX) (G : JG) (R : Option Value → HS → Prop) (RX : String → HS → Prop) (mc ms : Nat) : State → Prop := vx_MQ (xb X) (jQc G R) (jXC G RX) (xa X) (xs X) mc ms (gA G)
def noT (X : JX) : Prop := ∀ x ∈ (xc X).exceptionTable.toList, False
theorem Ct.of {G : JG} {y : MethodName} {cc : ByteArray} {nL : Nat} {ret : Option FieldType} {fr lo mc ms : Nat} {as : List Value} {S : HS} {R : Option Value → HS → Prop} {RX : String → HS → Prop} (hy : plainName y.cls = true) (hn : (lg_sl as).length ≤ nL)
    (body : ∀ X : JX, JC X G y.cls cc nL ret fr lo mc ms → noT X → (xt X).name = y.name → J X G (QQ X G R RX mc ms) nL 0 0 0 (lv_args 0 as) [] S) : Ct G y cc nL ret fr lo mc ms as S R RX := by
  intro l hl
  refine vx_ofW (cc := cc) (maxL := nL) (ret := ret) hy rfl ?_
  intro p e s m args below meth c s₁ B hml ht hv
  obtain ⟨rfl, hG, hR⟩ := hv
  have hts := atoms_spec (ws := .code y cc nL ret :: wG) B.pre
  have hown : s.vm.findClass y.cls = some m.cls := findClass_of_methodNamed B.named
  have hin : meth.name = y.name := (name_of_methodNamed B.named B.method).1
  have K := body (p, l, e, jRm fr lo mc ms, s, m, as.toArray, below, meth, c) ⟨B.exec, B.bytes, hml, hown, fun w hw => hts w (List.mem_cons_of_mem _ hw), hG, B.notSynchronized, B.returns, hl, rfl⟩ ht hin
  rw [lg_entry_eq]
  exact K s.heap [] _ hR va_S.rf (lv_entry as hn)
end
section
/-! the instructions that need no heap, and the ends -/
def im (x y : Int32) : Int32 := x - x / y * y
theorem J_iadd {X : JX} {G : JG} {Q : State → Prop} {nL cs ss pc : Nat} {lv : List (Nat × Value)} {st : List Value} {S : HS} {own : String} {cc : ByteArray} {ret : Option FieldType} {fr lo mc ms : Nat} {x y : Int32} (hC : JC X G own cc nL ret fr lo mc ms) (d : decode cc pc = .ok (.iadd, 1))
    (k : J X G Q nL cs ss (pc + 1) lv (.int (x + y) :: st) S) : J X G Q nL cs ss pc lv (.int y :: .int x :: st) S := by
  intro H locs ls hR hS hl
  exact lv_iadd hC.1 hC.2.1 d (k H locs ls hR hS hl)
theorem J_isub {X : JX} {G : JG} {Q : State → Prop} {nL cs ss pc : Nat} {lv : List (Nat × Value)} {st : List Value} {S : HS} {own : String} {cc : ByteArray} {ret : Option FieldType} {fr lo mc ms : Nat} {x y : Int32} (hC : JC X G own cc nL ret fr lo mc ms) (d : decode cc pc = .ok (.isub, 1))
    (k : J X G Q nL cs ss (pc + 1) lv (.int (x - y) :: st) S) : J X G Q nL cs ss pc lv (.int y :: .int x :: st) S := by
  intro H locs ls hR hS hl
  exact lv_isub hC.1 hC.2.1 d (k H locs ls hR hS hl)
theorem J_imul {X : JX} {G : JG} {Q : State → Prop} {nL cs ss pc : Nat} {lv : List (Nat × Value)} {st : List Value} {S : HS} {own : String} {cc : ByteArray} {ret : Option FieldType} {fr lo mc ms : Nat} {x y : Int32} (hC : JC X G own cc nL ret fr lo mc ms) (d : decode cc pc = .ok (.imul, 1))
    (k : J X G Q nL cs ss (pc + 1) lv (.int (x * y) :: st) S) : J X G Q nL cs ss pc lv (.int y :: .int x :: st) S := by
  intro H locs ls hR hS hl
  exact lv_imul hC.1 hC.2.1 d (k H locs ls hR hS hl)
theorem J_iand {X : JX} {G : JG} {Q : State → Prop} {nL cs ss pc : Nat} {lv : List (Nat × Value)} {st : List Value} {S : HS} {own : String} {cc : ByteArray} {ret : Option FieldType} {fr lo mc ms : Nat} {x y : Int32} (hC : JC X G own cc nL ret fr lo mc ms) (d : decode cc pc = .ok (.iand, 1))
    (k : J X G Q nL cs ss (pc + 1) lv (.int (x &&& y) :: st) S) : J X G Q nL cs ss pc lv (.int y :: .int x :: st) S := by
  intro H locs ls hR hS hl
  exact lv_iand hC.1 hC.2.1 d (k H locs ls hR hS hl)
theorem J_ixor {X : JX} {G : JG} {Q : State → Prop} {nL cs ss pc : Nat} {lv : List (Nat × Value)} {st : List Value} {S : HS} {own : String} {cc : ByteArray} {ret : Option FieldType} {fr lo mc ms : Nat} {x y : Int32} (hC : JC X G own cc nL ret fr lo mc ms) (d : decode cc pc = .ok (.ixor, 1))
    (k : J X G Q nL cs ss (pc + 1) lv (.int (x ^^^ y) :: st) S) : J X G Q nL cs ss pc lv (.int y :: .int x :: st) S := by
  intro H locs ls hR hS hl
  exact lv_ixor hC.1 hC.2.1 d (k H locs ls hR hS hl)
theorem J_ineg {X : JX} {G : JG} {Q : State → Prop} {nL cs ss pc : Nat} {lv : List (Nat × Value)} {st : List Value} {S : HS} {own : String} {cc : ByteArray} {ret : Option FieldType} {fr lo mc ms : Nat} {x : Int32} (hC : JC X G own cc nL ret fr lo mc ms) (d : decode cc pc = .ok (.ineg, 1))
    (k : J X G Q nL cs ss (pc + 1) lv (.int (-x) :: st) S) : J X G Q nL cs ss pc lv (.int x :: st) S := by
  intro H locs ls hR hS hl
  exact lv_ineg hC.1 hC.2.1 d (k H locs ls hR hS hl)
theorem J_ishr {X : JX} {G : JG} {Q : State → Prop} {nL cs ss pc : Nat} {lv : List (Nat × Value)} {st : List Value} {S : HS} {own : String} {cc : ByteArray} {ret : Option FieldType} {fr lo mc ms : Nat} {x y : Int32} (hC : JC X G own cc nL ret fr lo mc ms) (d : decode cc pc = .ok (.ishr, 1))
    (k : J X G Q nL cs ss (pc + 1) lv (.int (x >>> (y &&& 31)) :: st) S) : J X G Q nL cs ss pc lv (.int y :: .int x :: st) S := by
  intro H locs ls hR hS hl
  exact lv_ishr hC.1 hC.2.1 d (k H locs ls hR hS hl)
theorem J_i2d {X : JX} {G : JG} {Q : State → Prop} {nL cs ss pc : Nat} {lv : List (Nat × Value)} {st : List Value} {S : HS} {own : String} {cc : ByteArray} {ret : Option FieldType} {fr lo mc ms : Nat} {x : Int32} (hC : JC X G own cc nL ret fr lo mc ms) (d : decode cc pc = .ok (.i2d, 1))
    (k : J X G Q nL cs ss (pc + 1) lv (.double (FP.i2d x) :: st) S) : J X G Q nL cs ss pc lv (.int x :: st) S := by
  intro H locs ls hR hS hl
  exact lv_i2d hC.1 hC.2.1 d (k H locs ls hR hS hl)
theorem J_ladd {X : JX} {G : JG} {Q : State → Prop} {nL cs ss pc : Nat} {lv : List (Nat × Value)} {st : List Value} {S : HS} {own : String} {cc : ByteArray} {ret : Option FieldType} {fr lo mc ms : Nat} {x y : Int64} (hC : JC X G own cc nL ret fr lo mc ms) (d : decode cc pc = .ok (.ladd, 1))
    (k : J X G Q nL cs ss (pc + 1) lv (.long (x + y) :: st) S) : J X G Q nL cs ss pc lv (.long y :: .long x :: st) S := by
  intro H locs ls hR hS hl
  exact lv_ladd hC.1 hC.2.1 d (k H locs ls hR hS hl)
theorem J_lmul {X : JX} {G : JG} {Q : State → Prop} {nL cs ss pc : Nat} {lv : List (Nat × Value)} {st : List Value} {S : HS} {own : String} {cc : ByteArray} {ret : Option FieldType} {fr lo mc ms : Nat} {x y : Int64} (hC : JC X G own cc nL ret fr lo mc ms) (d : decode cc pc = .ok (.lmul, 1))
    (k : J X G Q nL cs ss (pc + 1) lv (.long (x * y) :: st) S) : J X G Q nL cs ss pc lv (.long y :: .long x :: st) S := by
  intro H locs ls hR hS hl
  exact lv_lmul hC.1 hC.2.1 d (k H locs ls hR hS hl)
theorem J_null {X : JX} {G : JG} {Q : State → Prop} {nL cs ss pc : Nat} {lv : List (Nat × Value)} {st : List Value} {S : HS} {own : String} {cc : ByteArray} {ret : Option FieldType} {fr lo mc ms : Nat}  (hC : JC X G own cc nL ret fr lo mc ms) (d : decode cc pc = .ok (.aconst_null, 1))
    (k : J X G Q nL cs ss (pc + 1) lv (.null :: st) S) : J X G Q nL cs ss pc lv (st) S := by
  intro H locs ls hR hS hl
  exact lv_null hC.1 hC.2.1 d (k H locs ls hR hS hl)
theorem J_idiv {X : JX} {G : JG} {Q : State → Prop} {nL cs ss pc : Nat} {lv : List (Nat × Value)} {st : List Value} {S : HS} {own : String} {cc : ByteArray} {ret : Option FieldType} {fr lo mc ms : Nat} {x y : Int32} (hC : JC X G own cc nL ret fr lo mc ms) (d : decode cc pc = .ok (.idiv, 1)) (h0 : ¬ y = 0)
    (k : J X G Q nL cs ss (pc + 1) lv (.int (x / y) :: st) S) : J X G Q nL cs ss pc lv (.int y :: .int x :: st) S := by
  intro H locs ls hR hS hl
  exact lv_idiv hC.1 hC.2.1 d h0 (k H locs ls hR hS hl)
theorem J_irem {X : JX} {G : JG} {Q : State → Prop} {nL cs ss pc : Nat} {lv : List (Nat × Value)} {st : List Value} {S : HS} {own : String} {cc : ByteArray} {ret : Option FieldType} {fr lo mc ms : Nat} {x y : Int32} (hC : JC X G own cc nL ret fr lo mc ms) (d : decode cc pc = .ok (.irem, 1)) (h0 : ¬ y = 0)
    (k : J X G Q nL cs ss (pc + 1) lv (.int (im x y) :: st) S) : J X G Q nL cs ss pc lv (.int y :: .int x :: st) S := by
  intro H locs ls hR hS hl
  exact lv_irem hC.1 hC.2.1 d h0 (k H locs ls hR hS hl)
theorem J_ddiv {X : JX} {G : JG} {Q : State → Prop} {nL cs ss pc : Nat} {lv : List (Nat × Value)} {st : List Value} {S : HS} {own : String} {cc : ByteArray} {ret : Option FieldType} {fr lo mc ms : Nat} {x y : UInt64} (hC : JC X G own cc nL ret fr lo mc ms) (d : decode cc pc = .ok (.ddiv, 1)) (h0 : vf_n64 (FP.ddiv x y))
    (k : J X G Q nL cs ss (pc + 1) lv (.double (FP.ddiv x y) :: st) S) : J X G Q nL cs ss pc lv (.double y :: .double x :: st) S := by
  intro H locs ls hR hS hl
  exact lv_ddiv hC.1 hC.2.1 d h0 (k H locs ls hR hS hl)
theorem J_dcmp {X : JX} {G : JG} {Q : State → Prop} {nL cs ss pc : Nat} {lv : List (Nat × Value)} {st : List Value} {S : HS} {own : String} {cc : ByteArray} {ret : Option FieldType} {fr lo mc ms : Nat} {x y : UInt64} {op : CmpOp} (hC : JC X G own cc nL ret fr lo mc ms) (d : decode cc pc = .ok (.dcmp op, 1))
    (k : J X G Q nL cs ss (pc + 1) lv (.int (Op.cmpValue (FP.dcmp x y) op) :: st) S) : J X G Q nL cs ss pc lv (.double y :: .double x :: st) S := by
  intro H locs ls hR hS hl
  exact lv_dcmp hC.1 hC.2.1 d (k H locs ls hR hS hl)
theorem J_i2l {X : JX} {G : JG} {Q : State → Prop} {nL cs ss pc : Nat} {lv : List (Nat × Value)} {st : List Value} {S : HS} {own : String} {cc : ByteArray} {ret : Option FieldType} {fr lo mc ms : Nat} {x : Int32} (hC : JC X G own cc nL ret fr lo mc ms) (d : decode cc pc = .ok (.i2l, 1))
    (k : J X G Q nL cs ss (pc + 1) lv (.long x.toInt64 :: st) S) : J X G Q nL cs ss pc lv (.int x :: st) S := by
  intro H locs ls hR hS hl
  exact lv_i2l hC.1 hC.2.1 d rfl (k H locs ls hR hS hl)
theorem J_iconst {X : JX} {G : JG} {Q : State → Prop} {nL cs ss pc : Nat} {lv : List (Nat × Value)} {st : List Value} {S : HS} {own : String} {cc : ByteArray} {ret : Option FieldType} {fr lo mc ms : Nat} {n : Int} {v : Int32} (hC : JC X G own cc nL ret fr lo mc ms) (d : decode cc pc = .ok (.iconst n, 1)) (hv : Int32.ofInt n = v)
    (k : J X G Q nL cs ss (pc + 1) lv (.int v :: st) S) : J X G Q nL cs ss pc lv st S := by
  intro H locs ls hR hS hl
  exact lv_iconst hC.1 hC.2.1 d hv (k H locs ls hR hS hl)
theorem J_bipush {X : JX} {G : JG} {Q : State → Prop} {nL cs ss pc : Nat} {lv : List (Nat × Value)} {st : List Value} {S : HS} {own : String} {cc : ByteArray} {ret : Option FieldType} {fr lo mc ms : Nat} {n : Int} {v : Int32} (hC : JC X G own cc nL ret fr lo mc ms) (d : decode cc pc = .ok (.bipush n, 2)) (hv : (Int8.ofInt n).toInt32 = v)
    (k : J X G Q nL cs ss (pc + 2) lv (.int v :: st) S) : J X G Q nL cs ss pc lv st S := by
  intro H locs ls hR hS hl
  exact lv_bipush hC.1 hC.2.1 d hv (k H locs ls hR hS hl)
theorem J_sipush {X : JX} {G : JG} {Q : State → Prop} {nL cs ss pc : Nat} {lv : List (Nat × Value)} {st : List Value} {S : HS} {own : String} {cc : ByteArray} {ret : Option FieldType} {fr lo mc ms : Nat} {n : Int} {v : Int32} (hC : JC X G own cc nL ret fr lo mc ms) (d : decode cc pc = .ok (.sipush n, 3)) (hv : (Int16.ofInt n).toInt32 = v)
    (k : J X G Q nL cs ss (pc + 3) lv (.int v :: st) S) : J X G Q nL cs ss pc lv st S := by
  intro H locs ls hR hS hl
  exact lv_sipush hC.1 hC.2.1 d hv (k H locs ls hR hS hl)
theorem J_lconst {X : JX} {G : JG} {Q : State → Prop} {nL cs ss pc : Nat} {lv : List (Nat × Value)} {st : List Value} {S : HS} {own : String} {cc : ByteArray} {ret : Option FieldType} {fr lo mc ms : Nat} {n : Fin 2} {v : Int64} (hC : JC X G own cc nL ret fr lo mc ms) (d : decode cc pc = .ok (.lconst n, 1)) (hv : Int64.ofNat n = v)
    (k : J X G Q nL cs ss (pc + 1) lv (.long v :: st) S) : J X G Q nL cs ss pc lv st S := by
  intro H locs ls hR hS hl
  exact lv_lconst hC.1 hC.2.1 d hv (k H locs ls hR hS hl)
theorem J_ldc {X : JX} {G : JG} {Q : State → Prop} {nL cs ss pc : Nat} {lv : List (Nat × Value)} {st : List Value} {S : HS} {own : String} {cc : ByteArray} {ret : Option FieldType} {fr lo mc ms : Nat} {i : Nat} {v : Int32} (hC : JC X G own cc nL ret fr lo mc ms) (d : decode cc pc = .ok (.ldc i, 2)) (hw : Cond.constant own i v ∈ wG)
    (k : J X G Q nL cs ss (pc + 2) lv (.int v :: st) S) : J X G Q nL cs ss pc lv st S := by
  intro H locs ls hR hS hl
  exact lv_ldc hC.1 hC.2.1 hC.2.2.2.1 (hC.2.2.2.2.1 _ hw) d (k H locs ls hR hS hl)
theorem J_ldc2 {X : JX} {G : JG} {Q : State → Prop} {nL cs ss pc : Nat} {lv : List (Nat × Value)} {st : List Value} {S : HS} {own : String} {cc : ByteArray} {ret : Option FieldType} {fr lo mc ms : Nat} {i : Nat} {v : Int64} (hC : JC X G own cc nL ret fr lo mc ms) (d : decode cc pc = .ok (.ldc2_w i, 3)) (hw : Cond.constantLong own i v ∈ wG)
    (k : J X G Q nL cs ss (pc + 3) lv (.long v :: st) S) : J X G Q nL cs ss pc lv st S := by
  intro H locs ls hR hS hl
  exact lv_ldc2 hC.1 hC.2.1 hC.2.2.2.1 (hC.2.2.2.2.1 _ hw) d (k H locs ls hR hS hl)
theorem J_iload {X : JX} {G : JG} {Q : State → Prop} {nL cs ss pc : Nat} {lv : List (Nat × Value)} {st : List Value} {S : HS} {own : String} {cc : ByteArray} {ret : Option FieldType} {fr lo mc ms : Nat} {x : Int32} {i : Nat} (j : Nat) (hC : JC X G own cc nL ret fr lo mc ms) (d : decode cc pc = .ok (.iload i, 2)) (h : lv[j]? = some (i, .int x))
    (k : J X G Q nL cs ss (pc + 2) lv (.int x :: st) S) : J X G Q nL cs ss pc lv st S := by
  intro H locs ls hR hS hl
  exact lv_iload hC.1 hC.2.1 d (lv_at hl j h) (k H locs ls hR hS hl)
theorem J_iload_n {X : JX} {G : JG} {Q : State → Prop} {nL cs ss pc : Nat} {lv : List (Nat × Value)} {st : List Value} {S : HS} {own : String} {cc : ByteArray} {ret : Option FieldType} {fr lo mc ms : Nat} {x : Int32} {i : Nat} {f : Fin 4} (j : Nat) (hC : JC X G own cc nL ret fr lo mc ms) (d : decode cc pc = .ok (.iload_n f, 1)) (hi : (f : Nat) = i) (h : lv[j]? = some (i, .int x))
    (k : J X G Q nL cs ss (pc + 1) lv (.int x :: st) S) : J X G Q nL cs ss pc lv st S := by
  intro H locs ls hR hS hl
  exact lv_iload_n hC.1 hC.2.1 d hi (lv_at hl j h) (k H locs ls hR hS hl)
theorem J_lload {X : JX} {G : JG} {Q : State → Prop} {nL cs ss pc : Nat} {lv : List (Nat × Value)} {st : List Value} {S : HS} {own : String} {cc : ByteArray} {ret : Option FieldType} {fr lo mc ms : Nat} {x : Int64} {i : Nat} (j : Nat) (hC : JC X G own cc nL ret fr lo mc ms) (d : decode cc pc = .ok (.lload i, 2)) (h : lv[j]? = some (i, .long x))
    (k : J X G Q nL cs ss (pc + 2) lv (.long x :: st) S) : J X G Q nL cs ss pc lv st S := by
  intro H locs ls hR hS hl
  exact lv_lload hC.1 hC.2.1 d (lv_at hl j h) (k H locs ls hR hS hl)
theorem J_lload_n {X : JX} {G : JG} {Q : State → Prop} {nL cs ss pc : Nat} {lv : List (Nat × Value)} {st : List Value} {S : HS} {own : String} {cc : ByteArray} {ret : Option FieldType} {fr lo mc ms : Nat} {x : Int64} {i : Nat} {f : Fin 4} (j : Nat) (hC : JC X G own cc nL ret fr lo mc ms) (d : decode cc pc = .ok (.lload_n f, 1)) (hi : (f : Nat) = i) (h : lv[j]? = some (i, .long x))
    (k : J X G Q nL cs ss (pc + 1) lv (.long x :: st) S) : J X G Q nL cs ss pc lv st S := by
  intro H locs ls hR hS hl
  exact lv_lload_n hC.1 hC.2.1 d hi (lv_at hl j h) (k H locs ls hR hS hl)
theorem J_aload {X : JX} {G : JG} {Q : State → Prop} {nL cs ss pc : Nat} {lv : List (Nat × Value)} {st : List Value} {S : HS} {own : String} {cc : ByteArray} {ret : Option FieldType} {fr lo mc ms : Nat} {x : Nat} {i : Nat} (j : Nat) (hC : JC X G own cc nL ret fr lo mc ms) (d : decode cc pc = .ok (.aload i, 2)) (h : lv[j]? = some (i, .ref x))
    (k : J X G Q nL cs ss (pc + 2) lv (.ref x :: st) S) : J X G Q nL cs ss pc lv st S := by
  intro H locs ls hR hS hl
  exact lv_aload hC.1 hC.2.1 d (lv_at hl j h) (k H locs ls hR hS hl)
theorem J_aload_n {X : JX} {G : JG} {Q : State → Prop} {nL cs ss pc : Nat} {lv : List (Nat × Value)} {st : List Value} {S : HS} {own : String} {cc : ByteArray} {ret : Option FieldType} {fr lo mc ms : Nat} {x : Nat} {i : Nat} {f : Fin 4} (j : Nat) (hC : JC X G own cc nL ret fr lo mc ms) (d : decode cc pc = .ok (.aload_n f, 1)) (hi : (f : Nat) = i) (h : lv[j]? = some (i, .ref x))
    (k : J X G Q nL cs ss (pc + 1) lv (.ref x :: st) S) : J X G Q nL cs ss pc lv st S := by
  intro H locs ls hR hS hl
  exact lv_aload_n hC.1 hC.2.1 d hi (lv_at hl j h) (k H locs ls hR hS hl)
theorem J_dload {X : JX} {G : JG} {Q : State → Prop} {nL cs ss pc : Nat} {lv : List (Nat × Value)} {st : List Value} {S : HS} {own : String} {cc : ByteArray} {ret : Option FieldType} {fr lo mc ms : Nat} {x : UInt64} {i : Nat} (j : Nat) (hC : JC X G own cc nL ret fr lo mc ms) (d : decode cc pc = .ok (.dload i, 2)) (h : lv[j]? = some (i, .double x))
    (k : J X G Q nL cs ss (pc + 2) lv (.double x :: st) S) : J X G Q nL cs ss pc lv st S := by
  intro H locs ls hR hS hl
  exact lv_dload hC.1 hC.2.1 d (lv_at hl j h) (k H locs ls hR hS hl)
theorem J_dload_n {X : JX} {G : JG} {Q : State → Prop} {nL cs ss pc : Nat} {lv : List (Nat × Value)} {st : List Value} {S : HS} {own : String} {cc : ByteArray} {ret : Option FieldType} {fr lo mc ms : Nat} {x : UInt64} {i : Nat} {f : Fin 4} (j : Nat) (hC : JC X G own cc nL ret fr lo mc ms) (d : decode cc pc = .ok (.dload_n f, 1)) (hi : (f : Nat) = i) (h : lv[j]? = some (i, .double x))
    (k : J X G Q nL cs ss (pc + 1) lv (.double x :: st) S) : J X G Q nL cs ss pc lv st S := by
  intro H locs ls hR hS hl
  exact lv_dload_n hC.1 hC.2.1 d hi (lv_at hl j h) (k H locs ls hR hS hl)
theorem J_istore {X : JX} {G : JG} {Q : State → Prop} {nL cs ss pc : Nat} {lv : List (Nat × Value)} {st : List Value} {S : HS} {own : String} {cc : ByteArray} {ret : Option FieldType} {fr lo mc ms : Nat} {x : Int32} {i : Nat} {lv' : List (Nat × Value)} (hC : JC X G own cc nL ret fr lo mc ms) (d : decode cc pc = .ok (.istore i, 2)) (hn : i < nL) (h : (i, Value.int x) :: lv.filter (fun q => !(q.1 == i) && !(q.1 + 1 == i && q.2.category == 2)) = lv')
    (k : J X G Q nL cs ss (pc + 2) lv' st S) : J X G Q nL cs ss pc lv (.int x :: st) S := by
  intro H locs ls hR hS hl
  exact lv_istore hC.1 hC.2.1 d hl hn h (fun ls' hl' => k H locs ls' hR hS hl')
theorem J_istore_n {X : JX} {G : JG} {Q : State → Prop} {nL cs ss pc : Nat} {lv : List (Nat × Value)} {st : List Value} {S : HS} {own : String} {cc : ByteArray} {ret : Option FieldType} {fr lo mc ms : Nat} {x : Int32} {i : Nat} {f : Fin 4} {lv' : List (Nat × Value)} (hC : JC X G own cc nL ret fr lo mc ms) (d : decode cc pc = .ok (.istore_n f, 1)) (hi : (f : Nat) = i) (hn : i < nL) (h : (i, Value.int x) :: lv.filter (fun q => !(q.1 == i) && !(q.1 + 1 == i && q.2.category == 2)) = lv')
    (k : J X G Q nL cs ss (pc + 1) lv' st S) : J X G Q nL cs ss pc lv (.int x :: st) S := by
  intro H locs ls hR hS hl
  exact lv_istore_n hC.1 hC.2.1 d hi hl hn h (fun ls' hl' => k H locs ls' hR hS hl')
theorem J_astore {X : JX} {G : JG} {Q : State → Prop} {nL cs ss pc : Nat} {lv : List (Nat × Value)} {st : List Value} {S : HS} {own : String} {cc : ByteArray} {ret : Option FieldType} {fr lo mc ms : Nat} {x : Nat} {i : Nat} {lv' : List (Nat × Value)} (hC : JC X G own cc nL ret fr lo mc ms) (d : decode cc pc = .ok (.astore i, 2)) (hn : i < nL) (h : (i, Value.ref x) :: lv.filter (fun q => !(q.1 == i) && !(q.1 + 1 == i && q.2.category == 2)) = lv')
    (k : J X G Q nL cs ss (pc + 2) lv' st S) : J X G Q nL cs ss pc lv (.ref x :: st) S := by
  intro H locs ls hR hS hl
  exact lv_astore hC.1 hC.2.1 d hl hn h (fun ls' hl' => k H locs ls' hR hS hl')
theorem J_astore_n {X : JX} {G : JG} {Q : State → Prop} {nL cs ss pc : Nat} {lv : List (Nat × Value)} {st : List Value} {S : HS} {own : String} {cc : ByteArray} {ret : Option FieldType} {fr lo mc ms : Nat} {x : Nat} {i : Nat} {f : Fin 4} {lv' : List (Nat × Value)} (hC : JC X G own cc nL ret fr lo mc ms) (d : decode cc pc = .ok (.astore_n f, 1)) (hi : (f : Nat) = i) (hn : i < nL) (h : (i, Value.ref x) :: lv.filter (fun q => !(q.1 == i) && !(q.1 + 1 == i && q.2.category == 2)) = lv')
    (k : J X G Q nL cs ss (pc + 1) lv' st S) : J X G Q nL cs ss pc lv (.ref x :: st) S := by
  intro H locs ls hR hS hl
  exact lv_astore_n hC.1 hC.2.1 d hi hl hn h (fun ls' hl' => k H locs ls' hR hS hl')
theorem J_lstore {X : JX} {G : JG} {Q : State → Prop} {nL cs ss pc : Nat} {lv : List (Nat × Value)} {st : List Value} {S : HS} {own : String} {cc : ByteArray} {ret : Option FieldType} {fr lo mc ms : Nat} {x : Int64} {i : Nat} {lv' : List (Nat × Value)} (hC : JC X G own cc nL ret fr lo mc ms) (d : decode cc pc = .ok (.lstore i, 2)) (hn : i + 1 < nL) (h : (i, Value.long x) :: lv.filter (fun q => !(q.1 == i) && (!(q.1 == i + 1) && !(q.1 + 1 == i && q.2.category == 2))) = lv')
    (k : J X G Q nL cs ss (pc + 2) lv' st S) : J X G Q nL cs ss pc lv (.long x :: st) S := by
  intro H locs ls hR hS hl
  exact lv_lstore hC.1 hC.2.1 d hl hn h (fun ls' hl' => k H locs ls' hR hS hl')
theorem J_lstore_n {X : JX} {G : JG} {Q : State → Prop} {nL cs ss pc : Nat} {lv : List (Nat × Value)} {st : List Value} {S : HS} {own : String} {cc : ByteArray} {ret : Option FieldType} {fr lo mc ms : Nat} {x : Int64} {i : Nat} {f : Fin 4} {lv' : List (Nat × Value)} (hC : JC X G own cc nL ret fr lo mc ms) (d : decode cc pc = .ok (.lstore_n f, 1)) (hi : (f : Nat) = i) (hn : i + 1 < nL) (h : (i, Value.long x) :: lv.filter (fun q => !(q.1 == i) && (!(q.1 == i + 1) && !(q.1 + 1 == i && q.2.category == 2))) = lv')
    (k : J X G Q nL cs ss (pc + 1) lv' st S) : J X G Q nL cs ss pc lv (.long x :: st) S := by
  intro H locs ls hR hS hl
  exact lv_lstore_n hC.1 hC.2.1 d hi hl hn h (fun ls' hl' => k H locs ls' hR hS hl')
theorem J_dstore {X : JX} {G : JG} {Q : State → Prop} {nL cs ss pc : Nat} {lv : List (Nat × Value)} {st : List Value} {S : HS} {own : String} {cc : ByteArray} {ret : Option FieldType} {fr lo mc ms : Nat} {x : UInt64} {i : Nat} {lv' : List (Nat × Value)} (hC : JC X G own cc nL ret fr lo mc ms) (d : decode cc pc = .ok (.dstore i, 2)) (hn : i + 1 < nL) (h : (i, Value.double x) :: lv.filter (fun q => !(q.1 == i) && (!(q.1 == i + 1) && !(q.1 + 1 == i && q.2.category == 2))) = lv')
    (k : J X G Q nL cs ss (pc + 2) lv' st S) : J X G Q nL cs ss pc lv (.double x :: st) S := by
  intro H locs ls hR hS hl
  exact lv_dstore hC.1 hC.2.1 d hl hn h (fun ls' hl' => k H locs ls' hR hS hl')
theorem J_dstore_n {X : JX} {G : JG} {Q : State → Prop} {nL cs ss pc : Nat} {lv : List (Nat × Value)} {st : List Value} {S : HS} {own : String} {cc : ByteArray} {ret : Option FieldType} {fr lo mc ms : Nat} {x : UInt64} {i : Nat} {f : Fin 4} {lv' : List (Nat × Value)} (hC : JC X G own cc nL ret fr lo mc ms) (d : decode cc pc = .ok (.dstore_n f, 1)) (hi : (f : Nat) = i) (hn : i + 1 < nL) (h : (i, Value.double x) :: lv.filter (fun q => !(q.1 == i) && (!(q.1 == i + 1) && !(q.1 + 1 == i && q.2.category == 2))) = lv')
    (k : J X G Q nL cs ss (pc + 1) lv' st S) : J X G Q nL cs ss pc lv (.double x :: st) S := by
  intro H locs ls hR hS hl
  exact lv_dstore_n hC.1 hC.2.1 d hi hl hn h (fun ls' hl' => k H locs ls' hR hS hl')
theorem J_iinc {X : JX} {G : JG} {Q : State → Prop} {nL cs ss pc : Nat} {lv : List (Nat × Value)} {st : List Value} {S : HS} {own : String} {cc : ByteArray} {ret : Option FieldType} {fr lo mc ms : Nat} {i : Nat} {n : Int} {x v : Int32} {lv' : List (Nat × Value)} (j : Nat) (hC : JC X G own cc nL ret fr lo mc ms) (d : decode cc pc = .ok (.iinc i n, 3)) (hk : lv[j]? = some (i, .int x)) (hv : x + Int32.ofInt n = v) (hn : i < nL) (h : (i, Value.int v) :: lv.filter (fun q => !(q.1 == i) && !(q.1 + 1 == i && q.2.category == 2)) = lv')
    (k : J X G Q nL cs ss (pc + 3) lv' st S) : J X G Q nL cs ss pc lv st S := by
  intro H locs ls hR hS hl
  exact lv_iinc hC.1 hC.2.1 d hl hk hv hn h (fun ls' hl' => k H locs ls' hR hS hl')
theorem J_if_eq {X : JX} {G : JG} {Q : State → Prop} {nL cs ss pc : Nat} {lv : List (Nat × Value)} {st : List Value} {S : HS} {own : String} {cc : ByteArray} {ret : Option FieldType} {fr lo mc ms : Nat} {x : Int32} {off : Int} (tgt : Nat) (hC : JC X G own cc nL ret fr lo mc ms) (d : decode cc pc = .ok (.ifCond .eq off, 3)) (ht : (pc : Int) + off = (tgt : Int))
    (kt : x = 0 → J X G Q nL cs ss tgt lv st S) (kf : ¬ (x = 0) → J X G Q nL cs ss (pc + 3) lv st S) : J X G Q nL cs ss pc lv (.int x :: st) S := by
  intro H locs ls hR hS hl
  exact lv_if_eq hC.1 hC.2.1 d ht (fun z => kt z H locs ls hR hS hl) (fun z => kf z H locs ls hR hS hl)
theorem J_if_ne {X : JX} {G : JG} {Q : State → Prop} {nL cs ss pc : Nat} {lv : List (Nat × Value)} {st : List Value} {S : HS} {own : String} {cc : ByteArray} {ret : Option FieldType} {fr lo mc ms : Nat} {x : Int32} {off : Int} (tgt : Nat) (hC : JC X G own cc nL ret fr lo mc ms) (d : decode cc pc = .ok (.ifCond .ne off, 3)) (ht : (pc : Int) + off = (tgt : Int))
    (kt : ¬ x = 0 → J X G Q nL cs ss tgt lv st S) (kf : x = 0 → J X G Q nL cs ss (pc + 3) lv st S) : J X G Q nL cs ss pc lv (.int x :: st) S := by
  intro H locs ls hR hS hl
  exact lv_if_ne hC.1 hC.2.1 d ht (fun z => kt z H locs ls hR hS hl) (fun z => kf z H locs ls hR hS hl)
theorem J_if_lt {X : JX} {G : JG} {Q : State → Prop} {nL cs ss pc : Nat} {lv : List (Nat × Value)} {st : List Value} {S : HS} {own : String} {cc : ByteArray} {ret : Option FieldType} {fr lo mc ms : Nat} {x : Int32} {off : Int} (tgt : Nat) (hC : JC X G own cc nL ret fr lo mc ms) (d : decode cc pc = .ok (.ifCond .lt off, 3)) (ht : (pc : Int) + off = (tgt : Int))
    (kt : x < 0 → J X G Q nL cs ss tgt lv st S) (kf : ¬ (x < 0) → J X G Q nL cs ss (pc + 3) lv st S) : J X G Q nL cs ss pc lv (.int x :: st) S := by
  intro H locs ls hR hS hl
  exact lv_if_lt hC.1 hC.2.1 d ht (fun z => kt z H locs ls hR hS hl) (fun z => kf z H locs ls hR hS hl)
theorem J_if_ge {X : JX} {G : JG} {Q : State → Prop} {nL cs ss pc : Nat} {lv : List (Nat × Value)} {st : List Value} {S : HS} {own : String} {cc : ByteArray} {ret : Option FieldType} {fr lo mc ms : Nat} {x : Int32} {off : Int} (tgt : Nat) (hC : JC X G own cc nL ret fr lo mc ms) (d : decode cc pc = .ok (.ifCond .ge off, 3)) (ht : (pc : Int) + off = (tgt : Int))
    (kt : 0 ≤ x → J X G Q nL cs ss tgt lv st S) (kf : ¬ (0 ≤ x) → J X G Q nL cs ss (pc + 3) lv st S) : J X G Q nL cs ss pc lv (.int x :: st) S := by
  intro H locs ls hR hS hl
  exact lv_if_ge hC.1 hC.2.1 d ht (fun z => kt z H locs ls hR hS hl) (fun z => kf z H locs ls hR hS hl)
theorem J_if_gt {X : JX} {G : JG} {Q : State → Prop} {nL cs ss pc : Nat} {lv : List (Nat × Value)} {st : List Value} {S : HS} {own : String} {cc : ByteArray} {ret : Option FieldType} {fr lo mc ms : Nat} {x : Int32} {off : Int} (tgt : Nat) (hC : JC X G own cc nL ret fr lo mc ms) (d : decode cc pc = .ok (.ifCond .gt off, 3)) (ht : (pc : Int) + off = (tgt : Int))
    (kt : 0 < x → J X G Q nL cs ss tgt lv st S) (kf : ¬ (0 < x) → J X G Q nL cs ss (pc + 3) lv st S) : J X G Q nL cs ss pc lv (.int x :: st) S := by
  intro H locs ls hR hS hl
  exact lv_if_gt hC.1 hC.2.1 d ht (fun z => kt z H locs ls hR hS hl) (fun z => kf z H locs ls hR hS hl)
theorem J_if_le {X : JX} {G : JG} {Q : State → Prop} {nL cs ss pc : Nat} {lv : List (Nat × Value)} {st : List Value} {S : HS} {own : String} {cc : ByteArray} {ret : Option FieldType} {fr lo mc ms : Nat} {x : Int32} {off : Int} (tgt : Nat) (hC : JC X G own cc nL ret fr lo mc ms) (d : decode cc pc = .ok (.ifCond .le off, 3)) (ht : (pc : Int) + off = (tgt : Int))
    (kt : x ≤ 0 → J X G Q nL cs ss tgt lv st S) (kf : ¬ (x ≤ 0) → J X G Q nL cs ss (pc + 3) lv st S) : J X G Q nL cs ss pc lv (.int x :: st) S := by
  intro H locs ls hR hS hl
  exact lv_if_le hC.1 hC.2.1 d ht (fun z => kt z H locs ls hR hS hl) (fun z => kf z H locs ls hR hS hl)
theorem J_icmp_eq {X : JX} {G : JG} {Q : State → Prop} {nL cs ss pc : Nat} {lv : List (Nat × Value)} {st : List Value} {S : HS} {own : String} {cc : ByteArray} {ret : Option FieldType} {fr lo mc ms : Nat} {x y : Int32} {off : Int} (tgt : Nat) (hC : JC X G own cc nL ret fr lo mc ms) (d : decode cc pc = .ok (.if_icmp .eq off, 3)) (ht : (pc : Int) + off = (tgt : Int))
    (kt : x = y → J X G Q nL cs ss tgt lv st S) (kf : ¬ (x = y) → J X G Q nL cs ss (pc + 3) lv st S) : J X G Q nL cs ss pc lv (.int y :: .int x :: st) S := by
  intro H locs ls hR hS hl
  exact lv_icmp_eq hC.1 hC.2.1 d ht (fun z => kt z H locs ls hR hS hl) (fun z => kf z H locs ls hR hS hl)
theorem J_icmp_ne {X : JX} {G : JG} {Q : State → Prop} {nL cs ss pc : Nat} {lv : List (Nat × Value)} {st : List Value} {S : HS} {own : String} {cc : ByteArray} {ret : Option FieldType} {fr lo mc ms : Nat} {x y : Int32} {off : Int} (tgt : Nat) (hC : JC X G own cc nL ret fr lo mc ms) (d : decode cc pc = .ok (.if_icmp .ne off, 3)) (ht : (pc : Int) + off = (tgt : Int))
    (kt : ¬ x = y → J X G Q nL cs ss tgt lv st S) (kf : x = y → J X G Q nL cs ss (pc + 3) lv st S) : J X G Q nL cs ss pc lv (.int y :: .int x :: st) S := by
  intro H locs ls hR hS hl
  exact lv_icmp_ne hC.1 hC.2.1 d ht (fun z => kt z H locs ls hR hS hl) (fun z => kf z H locs ls hR hS hl)
theorem J_icmp_lt {X : JX} {G : JG} {Q : State → Prop} {nL cs ss pc : Nat} {lv : List (Nat × Value)} {st : List Value} {S : HS} {own : String} {cc : ByteArray} {ret : Option FieldType} {fr lo mc ms : Nat} {x y : Int32} {off : Int} (tgt : Nat) (hC : JC X G own cc nL ret fr lo mc ms) (d : decode cc pc = .ok (.if_icmp .lt off, 3)) (ht : (pc : Int) + off = (tgt : Int))
    (kt : x < y → J X G Q nL cs ss tgt lv st S) (kf : ¬ (x < y) → J X G Q nL cs ss (pc + 3) lv st S) : J X G Q nL cs ss pc lv (.int y :: .int x :: st) S := by
  intro H locs ls hR hS hl
  exact lv_icmp_lt hC.1 hC.2.1 d ht (fun z => kt z H locs ls hR hS hl) (fun z => kf z H locs ls hR hS hl)
theorem J_icmp_ge {X : JX} {G : JG} {Q : State → Prop} {nL cs ss pc : Nat} {lv : List (Nat × Value)} {st : List Value} {S : HS} {own : String} {cc : ByteArray} {ret : Option FieldType} {fr lo mc ms : Nat} {x y : Int32} {off : Int} (tgt : Nat) (hC : JC X G own cc nL ret fr lo mc ms) (d : decode cc pc = .ok (.if_icmp .ge off, 3)) (ht : (pc : Int) + off = (tgt : Int))
    (kt : y ≤ x → J X G Q nL cs ss tgt lv st S) (kf : ¬ (y ≤ x) → J X G Q nL cs ss (pc + 3) lv st S) : J X G Q nL cs ss pc lv (.int y :: .int x :: st) S := by
  intro H locs ls hR hS hl
  exact lv_icmp_ge hC.1 hC.2.1 d ht (fun z => kt z H locs ls hR hS hl) (fun z => kf z H locs ls hR hS hl)
theorem J_icmp_gt {X : JX} {G : JG} {Q : State → Prop} {nL cs ss pc : Nat} {lv : List (Nat × Value)} {st : List Value} {S : HS} {own : String} {cc : ByteArray} {ret : Option FieldType} {fr lo mc ms : Nat} {x y : Int32} {off : Int} (tgt : Nat) (hC : JC X G own cc nL ret fr lo mc ms) (d : decode cc pc = .ok (.if_icmp .gt off, 3)) (ht : (pc : Int) + off = (tgt : Int))
    (kt : y < x → J X G Q nL cs ss tgt lv st S) (kf : ¬ (y < x) → J X G Q nL cs ss (pc + 3) lv st S) : J X G Q nL cs ss pc lv (.int y :: .int x :: st) S := by
  intro H locs ls hR hS hl
  exact lv_icmp_gt hC.1 hC.2.1 d ht (fun z => kt z H locs ls hR hS hl) (fun z => kf z H locs ls hR hS hl)
theorem J_icmp_le {X : JX} {G : JG} {Q : State → Prop} {nL cs ss pc : Nat} {lv : List (Nat × Value)} {st : List Value} {S : HS} {own : String} {cc : ByteArray} {ret : Option FieldType} {fr lo mc ms : Nat} {x y : Int32} {off : Int} (tgt : Nat) (hC : JC X G own cc nL ret fr lo mc ms) (d : decode cc pc = .ok (.if_icmp .le off, 3)) (ht : (pc : Int) + off = (tgt : Int))
    (kt : x ≤ y → J X G Q nL cs ss tgt lv st S) (kf : ¬ (x ≤ y) → J X G Q nL cs ss (pc + 3) lv st S) : J X G Q nL cs ss pc lv (.int y :: .int x :: st) S := by
  intro H locs ls hR hS hl
  exact lv_icmp_le hC.1 hC.2.1 d ht (fun z => kt z H locs ls hR hS hl) (fun z => kf z H locs ls hR hS hl)
theorem J_goto {X : JX} {G : JG} {Q : State → Prop} {nL cs ss pc : Nat} {lv : List (Nat × Value)} {st : List Value} {S : HS} {own : String} {cc : ByteArray} {ret : Option FieldType} {fr lo mc ms : Nat} {off : Int} (tgt : Nat) (hC : JC X G own cc nL ret fr lo mc ms) (d : decode cc pc = .ok (.goto off, 3)) (ht : (pc : Int) + off = (tgt : Int))
    (k : J X G Q nL cs ss tgt lv st S) : J X G Q nL cs ss pc lv st S := by
  intro H locs ls hR hS hl
  exact lv_goto hC.1 hC.2.1 d ht (k H locs ls hR hS hl)
theorem J_ifnonnull {X : JX} {G : JG} {Q : State → Prop} {nL cs ss pc : Nat} {lv : List (Nat × Value)} {st : List Value} {S : HS} {own : String} {cc : ByteArray} {ret : Option FieldType} {fr lo mc ms : Nat} {a : Nat} {off : Int} (tgt : Nat) (hC : JC X G own cc nL ret fr lo mc ms) (d : decode cc pc = .ok (.ifnonnull off, 3)) (ht : (pc : Int) + off = (tgt : Int))
    (k : J X G Q nL cs ss tgt lv st S) : J X G Q nL cs ss pc lv (.ref a :: st) S := by
  intro H locs ls hR hS hl
  exact lv_ifnonnull hC.1 hC.2.1 d ht (k H locs ls hR hS hl)
theorem J_acmp_eq {X : JX} {G : JG} {Q : State → Prop} {nL cs ss pc : Nat} {lv : List (Nat × Value)} {st : List Value} {S : HS} {own : String} {cc : ByteArray} {ret : Option FieldType} {fr lo mc ms : Nat} {a b : Nat} {off : Int} (tgt : Nat) (hC : JC X G own cc nL ret fr lo mc ms) (d : decode cc pc = .ok (.if_acmp .eq off, 3)) (ht : (pc : Int) + off = (tgt : Int))
    (kt : a = b → J X G Q nL cs ss tgt lv st S) (kf : ¬ (a = b) → J X G Q nL cs ss (pc + 3) lv st S) : J X G Q nL cs ss pc lv (.ref b :: .ref a :: st) S := by
  intro H locs ls hR hS hl
  exact lv_acmp_eq (rx := some a) (ry := some b) hC.1 hC.2.1 d ht (fun z => kt (by simpa using z) H locs ls hR hS hl) (fun z => kf (by simpa using z) H locs ls hR hS hl)
theorem J_acmp_ne {X : JX} {G : JG} {Q : State → Prop} {nL cs ss pc : Nat} {lv : List (Nat × Value)} {st : List Value} {S : HS} {own : String} {cc : ByteArray} {ret : Option FieldType} {fr lo mc ms : Nat} {a b : Nat} {off : Int} (tgt : Nat) (hC : JC X G own cc nL ret fr lo mc ms) (d : decode cc pc = .ok (.if_acmp .ne off, 3)) (ht : (pc : Int) + off = (tgt : Int))
    (kt : ¬ a = b → J X G Q nL cs ss tgt lv st S) (kf : a = b → J X G Q nL cs ss (pc + 3) lv st S) : J X G Q nL cs ss pc lv (.ref b :: .ref a :: st) S := by
  intro H locs ls hR hS hl
  exact lv_acmp_ne (rx := some a) (ry := some b) hC.1 hC.2.1 d ht (fun z => kt (by simpa using z) H locs ls hR hS hl) (fun z => kf (by simpa using z) H locs ls hR hS hl)
theorem J_dup {X : JX} {G : JG} {Q : State → Prop} {nL cs ss pc : Nat} {lv : List (Nat × Value)} {st : List Value} {S : HS} {own : String} {cc : ByteArray} {ret : Option FieldType} {fr lo mc ms : Nat} {v : Value} (hC : JC X G own cc nL ret fr lo mc ms) (d : decode cc pc = .ok (.dup, 1)) (h : v.category = 1)
    (k : J X G Q nL cs ss (pc + 1) lv (v :: v :: st) S) : J X G Q nL cs ss pc lv (v :: st) S := by
  intro H locs ls hR hS hl
  exact lv_dup hC.1 hC.2.1 d h (k H locs ls hR hS hl)
theorem J_dup_x1 {X : JX} {G : JG} {Q : State → Prop} {nL cs ss pc : Nat} {lv : List (Nat × Value)} {st : List Value} {S : HS} {own : String} {cc : ByteArray} {ret : Option FieldType} {fr lo mc ms : Nat} {v w : Value} (hC : JC X G own cc nL ret fr lo mc ms) (d : decode cc pc = .ok (.dup_x1, 1)) (h : v.category = 1) (h2 : w.category = 1)
    (k : J X G Q nL cs ss (pc + 1) lv (v :: w :: v :: st) S) : J X G Q nL cs ss pc lv (v :: w :: st) S := by
  intro H locs ls hR hS hl
  exact lv_dup_x1 hC.1 hC.2.1 d h h2 (k H locs ls hR hS hl)
theorem J_pop {X : JX} {G : JG} {Q : State → Prop} {nL cs ss pc : Nat} {lv : List (Nat × Value)} {st : List Value} {S : HS} {own : String} {cc : ByteArray} {ret : Option FieldType} {fr lo mc ms : Nat} {v : Value} (hC : JC X G own cc nL ret fr lo mc ms) (d : decode cc pc = .ok (.pop, 1)) (h : v.category = 1)
    (k : J X G Q nL cs ss (pc + 1) lv st S) : J X G Q nL cs ss pc lv (v :: st) S := by
  intro H locs ls hR hS hl
  exact lv_pop hC.1 hC.2.1 d h (k H locs ls hR hS hl)
theorem J_tableIn {X : JX} {G : JG} {Q : State → Prop} {nL cs ss pc : Nat} {lv : List (Nat × Value)} {st : List Value} {S : HS} {own : String} {cc : ByteArray} {ret : Option FieldType} {fr lo mc ms : Nat} {dflt low hi : Int} {offs : Array Int} {len : Nat} {x : Int32} {off : Int} (tgt : Nat) (hC : JC X G own cc nL ret fr lo mc ms) (d : decode cc pc = .ok (.tableswitch dflt low hi offs, len)) (h1 : ¬ x.toInt < low) (h2 : ¬ hi < x.toInt) (ho : offs[(x.toInt - low).toNat]? = some off) (ht : (pc : Int) + off = (tgt : Int))
    (k : J X G Q nL cs ss tgt lv st S) : J X G Q nL cs ss pc lv (.int x :: st) S := by
  intro H locs ls hR hS hl
  exact lv_tableIn hC.1 hC.2.1 d h1 h2 ho ht (k H locs ls hR hS hl)
theorem J_tableOut {X : JX} {G : JG} {Q : State → Prop} {nL cs ss pc : Nat} {lv : List (Nat × Value)} {st : List Value} {S : HS} {own : String} {cc : ByteArray} {ret : Option FieldType} {fr lo mc ms : Nat} {dflt low hi : Int} {offs : Array Int} {len : Nat} {x : Int32} (tgt : Nat) (hC : JC X G own cc nL ret fr lo mc ms) (d : decode cc pc = .ok (.tableswitch dflt low hi offs, len)) (h : x.toInt < low ∨ hi < x.toInt) (ht : (pc : Int) + dflt = (tgt : Int))
    (k : J X G Q nL cs ss tgt lv st S) : J X G Q nL cs ss pc lv (.int x :: st) S := by
  intro H locs ls hR hS hl
  exact lv_tableOut hC.1 hC.2.1 d h ht (k H locs ls hR hS hl)
theorem J_sub {X : JX} {G : JG} {Q : State → Prop} {nL cs ss pc : Nat} {lv : List (Nat × Value)} {st : List Value} {S : HS} {own : String} {cc : ByteArray} {ret : Option FieldType} {fr lo mc ms : Nat} {lv' : List (Nat × Value)} (ks : List Nat) (h : lv_pick lv ks = lv') (k : J X G Q nL cs ss pc lv' st S) : J X G Q nL cs ss pc lv st S := fun H locs ls hR hS hl => k H locs ls hR hS (lv_sub hl ks h)
theorem J_widen {X : JX} {G : JG} {Q : State → Prop} {nL cs ss pc : Nat} {lv : List (Nat × Value)} {st : List Value} {S : HS} {own : String} {cc : ByteArray} {ret : Option FieldType} {fr lo mc ms : Nat} {cs' ss' : Nat} (h1 : cs ≤ cs') (h2 : ss ≤ ss') (k : J X G Q nL cs' ss' pc lv st S) : J X G Q nL cs ss pc lv st S := fun H locs ls hR hS hl => W.widen h1 h2 (k H locs ls hR hS hl)
theorem J_iret {X : JX} {G : JG} {nL cs ss pc : Nat} {lv : List (Nat × Value)} {S : HS} {own : String} {cc : ByteArray} {fr lo mc ms : Nat} {v : Int32} {R : Option Value → HS → Prop} {RX : String → HS → Prop} (hC : JC X G own cc nL (some .int) fr lo mc ms) (d : decode cc pc = .ok (.ireturn, 1)) (h1 : cs ≤ mc) (h2 : ss ≤ ms)
    (h : R (some (.int v)) S) : J X G (QQ X G R RX mc ms) nL cs ss pc lv [.int v] S := by
  intro H locs ls hR hS hl
  refine W.widen h1 h2 (vx_ret ?_)
  exact W.iret hC.1 hC.2.1 hC.2.2.2.2.2.2.2.1 (fun t ht _ => ⟨⟨_, S, rfl, h, by rw [ht]; exact hR⟩, hS.F ht⟩) hS.2.2 d hC.2.2.2.2.2.2.1
theorem J_lret {X : JX} {G : JG} {nL cs ss pc : Nat} {lv : List (Nat × Value)} {S : HS} {own : String} {cc : ByteArray} {fr lo mc ms : Nat} {v : Int64} {R : Option Value → HS → Prop} {RX : String → HS → Prop} (hC : JC X G own cc nL (some .long) fr lo mc ms) (d : decode cc pc = .ok (.lreturn, 1)) (h1 : cs ≤ mc) (h2 : ss ≤ ms)
    (h : R (some (.long v)) S) : J X G (QQ X G R RX mc ms) nL cs ss pc lv [.long v] S := by
  intro H locs ls hR hS hl
  refine W.widen h1 h2 (vx_ret ?_)
  exact W.lret hC.1 hC.2.1 hC.2.2.2.2.2.2.2.1 (fun t ht _ => ⟨⟨_, S, rfl, h, by rw [ht]; exact hR⟩, hS.F ht⟩) hS.2.2 d hC.2.2.2.2.2.2.1
theorem J_dret {X : JX} {G : JG} {nL cs ss pc : Nat} {lv : List (Nat × Value)} {S : HS} {own : String} {cc : ByteArray} {fr lo mc ms : Nat} {v : UInt64} {R : Option Value → HS → Prop} {RX : String → HS → Prop} (hC : JC X G own cc nL (some .double) fr lo mc ms) (d : decode cc pc = .ok (.dreturn, 1)) (h1 : cs ≤ mc) (h2 : ss ≤ ms)
    (h : R (some (.double v)) S) : J X G (QQ X G R RX mc ms) nL cs ss pc lv [.double v] S := by
  intro H locs ls hR hS hl
  refine W.widen h1 h2 (vx_ret ?_)
  exact W.dret hC.1 hC.2.1 hC.2.2.2.2.2.2.2.1 (fun t ht _ => ⟨⟨_, S, rfl, h, by rw [ht]; exact hR⟩, hS.F ht⟩) hS.2.2 d hC.2.2.2.2.2.2.1
theorem J_zret {X : JX} {G : JG} {nL cs ss pc : Nat} {lv : List (Nat × Value)} {S : HS} {own : String} {cc : ByteArray} {fr lo mc ms : Nat} {v : Int32} {R : Option Value → HS → Prop} {RX : String → HS → Prop} (hC : JC X G own cc nL (some .boolean) fr lo mc ms) (d : decode cc pc = .ok (.ireturn, 1)) (hn : narrow .boolean (.int v) = .int v) (h1 : cs ≤ mc) (h2 : ss ≤ ms)
    (h : R (some (.int v)) S) : J X G (QQ X G R RX mc ms) nL cs ss pc lv [.int v] S := by
  intro H locs ls hR hS hl
  refine W.widen h1 h2 (vx_ret ?_)
  exact W.zret hC.1 hC.2.1 hC.2.2.2.2.2.2.2.1 hn (fun t ht _ => ⟨⟨_, S, rfl, h, by rw [ht]; exact hR⟩, hS.F ht⟩) hS.2.2 d hC.2.2.2.2.2.2.1
theorem J_vret {X : JX} {G : JG} {nL cs ss pc : Nat} {lv : List (Nat × Value)} {S : HS} {own : String} {cc : ByteArray} {fr lo mc ms : Nat} {R : Option Value → HS → Prop} {RX : String → HS → Prop} (hC : JC X G own cc nL none fr lo mc ms) (d : decode cc pc = .ok (.return_, 1)) (h1 : cs ≤ mc) (h2 : ss ≤ ms)
    (h : R none S) : J X G (QQ X G R RX mc ms) nL cs ss pc lv [] S := by
  intro H locs ls hR hS hl
  refine W.widen h1 h2 (vx_ret ?_)
  exact W.vret hC.1 hC.2.1 hC.2.2.2.2.2.2.2.1 (fun t ht _ => ⟨⟨_, S, rfl, h, by rw [ht]; exact hR⟩, hS.F ht⟩) hS.2.2 d hC.2.2.2.2.2.2.1
theorem J_aret {X : JX} {G : JG} {nL cs ss pc : Nat} {lv : List (Nat × Value)} {S : HS} {own : String} {cc : ByteArray} {fr lo mc ms : Nat} {a : Nat} {rt : FieldType} {R : Option Value → HS → Prop} {RX : String → HS → Prop} (hC : JC X G own cc nL (some rt) fr lo mc ms) (d : decode cc pc = .ok (.areturn, 1)) (hrt : (∃ n, rt = .object n) ∨ ∃ t, rt = .array t) (h1 : cs ≤ mc) (h2 : ss ≤ ms)
    (h : R (some (.ref a)) S) : J X G (QQ X G R RX mc ms) nL cs ss pc lv [.ref a] S := by
  intro H locs ls hR hS hl
  refine W.widen h1 h2 (vx_ret ?_)
  exact W.aret hC.1 hC.2.1 hC.2.2.2.2.2.2.2.1 hrt (Or.inr ⟨a, rfl⟩) (fun t ht _ => ⟨⟨_, S, rfl, h, by rw [ht]; exact hR⟩, hS.F ht⟩) hS.2.2 d hC.2.2.2.2.2.2.1
end
section
/-! the instructions that read or write the heap -/
theorem JC.k {X : JX} {G : JG} {own : String} {cc : ByteArray} {ret : Option FieldType} {nL fr lo mc ms : Nat} (h : JC X G own cc nL ret fr lo mc ms) : va_K (gD G) vwCl (tysG G) (xs X) := h.2.2.2.2.2.1.1
theorem JC.w {X : JX} {G : JG} {own : String} {cc : ByteArray} {ret : Option FieldType} {nL fr lo mc ms : Nat} (h : JC X G own cc nL ret fr lo mc ms) {w : Cond} (hw : w ∈ wG) : w.before (xa X) (xs X) = true := h.2.2.2.2.1 w hw
theorem J_get {X : JX} {G : JG} {Q : State → Prop} {nL cs ss pc : Nat} {lv : List (Nat × Value)} {st : List Value} {S : HS} {own : String} {cc : ByteArray} {ret : Option FieldType} {fr lo mc ms : Nat} {a lab : Nat} (hC : JC X G own cc nL ret fr lo mc ms)
    {C ref : String} {T : u_T} {N ci idx : Nat} (hin : ∀ w ∈ u_ws C T N, w ∈ wG) (hc : vwCl[ci]? = some (C, T, N)) (k : Nat) (hk : k < N) (hlink : Cond.fieldLink own idx ref (T k).2.1 (T k).2.2.1 ∈ wG)
    (hsame : ∀ x, (xs X).fieldFound? (T k).1 (T k).2.1 (T k).2.2.1 = some x → (xs X).fieldFound? ref (T k).2.1 (T k).2.2.1 = some x) (hl0 : hK S a = lab) {fs : List Value} (hf : hsh G S a lab = some (.inr (ci, fs))) {v : Value} (hv : fs[k]? = some v)
    (d : decode cc pc = .ok (.getfield idx, 3)) (kk : J X G Q nL cs ss (pc + 3) lv (v :: st) S) : J X G Q nL cs ss pc lv (.ref a :: st) S := by
  intro H locs ls hR hS hl
  exact va_get hC.1 hC.2.1 hC.2.2.2.2.1 hin hC.2.2.2.1 hC.k (hR.one ((hob_of hl0).trans hf)) 0 rfl hc k hk (hC.w hlink) hsame hv d (kk H locs ls hR hS hl)
theorem J_put {X : JX} {G : JG} {Q : State → Prop} {nL cs ss pc : Nat} {lv : List (Nat × Value)} {st : List Value} {S : HS} {own : String} {cc : ByteArray} {ret : Option FieldType} {fr lo mc ms : Nat} {a lab : Nat} (hC : JC X G own cc nL ret fr lo mc ms)
    {C ref : String} {T : u_T} {N ci idx : Nat} (hin : ∀ w ∈ u_ws C T N, w ∈ wG) (ty0 : Nat → FieldType) (hty : ∀ k, k < N → parseFieldDescriptor (T k).2.2.1 = some (ty0 k)) (hnm : ∀ a, a < N → ∀ b, b < N → a ≠ b → (T a).2.1 ≠ (T b).2.1) (hc : vwCl[ci]? = some (C, T, N)) (k : Nat) (hk : k < N) (hlink : Cond.fieldLink own idx ref (T k).2.1 (T k).2.2.1 ∈ wG)
    (hsame : ∀ x, (xs X).fieldFound? (T k).1 (T k).2.1 (T k).2.2.1 = some x → (xs X).fieldFound? ref (T k).2.1 (T k).2.2.1 = some x) (hfin : (T k).2.2.2 = false) {ty : FieldType} {v : Value} (hd : parseFieldDescriptor (T k).2.2.1 = some ty) (hn : narrow ty v = v) (hfit : fits ty v = true)
    (hl0 : hK S a = lab) {fs : List Value} (hf : hsh G S a lab = some (.inr (ci, fs))) (hlen : k < fs.length) {S' : HS} (h' : hob G S' a = some (.inr (ci, fs.set k v))) (ho : ∀ b : Nat, b ≠ a → hob G S' b = hob G S b)
    (d : decode cc pc = .ok (.putfield idx, 3)) (kk : J X G Q nL cs ss (pc + 3) lv st S') : J X G Q nL cs ss pc lv (v :: .ref a :: st) S := by
  intro H locs ls hR hS hl
  obtain ⟨ws, hP, hD, h3⟩ := hR
  obtain ⟨j, hj⟩ := h3 a _ ((hob_of hl0).trans hf)
  exact va_put hC.1 hC.2.1 hC.2.2.2.2.1 hin ty0 hty hnm hC.2.2.2.1 hC.k hP hD hS j hj hc k hk (hC.w hlink) hsame hfin hd hn hfit hlen d (fun H1 locs1 hP1 hD1 hS1 => kk H1 locs1 ls (Rep.put h3 hD hj hP1 hD1 h' ho) hS1 hl)
theorem J_putF {X : JX} {G : JG} {Q : State → Prop} {nL cs ss pc : Nat} {lv : List (Nat × Value)} {st : List Value} {S : HS} {own : String} {cc : ByteArray} {ret : Option FieldType} {fr lo mc ms : Nat} {a lab : Nat} (hC : JC X G own cc nL ret fr lo mc ms) (hin2 : (xt X).name = "<init>")
    {C ref : String} {T : u_T} {N ci idx : Nat} (hin : ∀ w ∈ u_ws C T N, w ∈ wG) (ty0 : Nat → FieldType) (hty : ∀ k, k < N → parseFieldDescriptor (T k).2.2.1 = some (ty0 k)) (hnm : ∀ a, a < N → ∀ b, b < N → a ≠ b → (T a).2.1 ≠ (T b).2.1) (hc : vwCl[ci]? = some (C, T, N)) (k : Nat) (hk : k < N) (hlink : Cond.fieldLink own idx ref (T k).2.1 (T k).2.2.1 ∈ wG)
    (hsame : ∀ x, (xs X).fieldFound? (T k).1 (T k).2.1 (T k).2.2.1 = some x → (xs X).fieldFound? ref (T k).2.1 (T k).2.2.1 = some x) (hfin : (T k).2.2.2 = true) (hdecl : (T k).1 = own) {ty : FieldType} {v : Value} (hd : parseFieldDescriptor (T k).2.2.1 = some ty) (hn : narrow ty v = v) (hfit : fits ty v = true)
    (hl0 : hK S a = lab) {fs : List Value} (hf : hsh G S a lab = some (.inr (ci, fs))) (hlen : k < fs.length) {S' : HS} (h' : hob G S' a = some (.inr (ci, fs.set k v))) (ho : ∀ b : Nat, b ≠ a → hob G S' b = hob G S b)
    (d : decode cc pc = .ok (.putfield idx, 3)) (kk : J X G Q nL cs ss (pc + 3) lv st S') : J X G Q nL cs ss pc lv (v :: .ref a :: st) S := by
  intro H locs ls hR hS hl
  obtain ⟨ws, hP, hD, h3⟩ := hR
  obtain ⟨j, hj⟩ := h3 a _ ((hob_of hl0).trans hf)
  exact va_putF hC.1 hC.2.1 hC.2.2.2.2.1 hin ty0 hty hnm hC.2.2.2.1 hC.k hP hD hS j hj hc k hk (hC.w hlink) hsame hfin hin2 hdecl hd hn hfit hlen d (fun H1 locs1 hP1 hD1 hS1 => kk H1 locs1 ls (Rep.put h3 hD hj hP1 hD1 h' ho) hS1 hl)
theorem J_new {X : JX} {G : JG} {Q : State → Prop} {nL cs ss pc : Nat} {lv : List (Nat × Value)} {st : List Value} {S : HS} {own : String} {cc : ByteArray} {ret : Option FieldType} {fr lo mc ms : Nat} (hC : JC X G own cc nL ret fr lo mc ms)
    {C : String} {T : u_T} {N ci idx : Nat} (hin : ∀ w ∈ u_ws C T N, w ∈ wG) (ty : Nat → FieldType) (hty : ∀ k, k < N → parseFieldDescriptor (T k).2.2.1 = some (ty k)) (hc : vwCl[ci]? = some (C, T, N)) (hcl : Cond.classLink own idx C ∈ wG) (hinst : Cond.instantiable C N ∈ wG) (hini : Cond.initialized C ∈ wG) (lab : Nat)
    {fs : List Value} (hfs : ∀ j, j < N → defaultValue (ty j) = vp_V fs j) (h' : ∀ q : Nat, hsh G (sNew S q lab 0) q lab = some (.inr (ci, fs))) (h1 : cs + 1 ≤ mc) (h2 : ss + N ≤ ms)
    (d : decode cc pc = .ok (.new idx, 3)) (kk : ∀ q : Nat, hK S q = 0 → J X G Q nL (cs + 1) (ss + N) (pc + 3) lv (.ref q :: st) (sNew S q lab 0)) : J X G Q nL cs ss pc lv st S := by
  intro H locs ls hR hS hl
  obtain ⟨ws, hP, hD, h3⟩ := hR
  have hrm := hC.2.2.2.2.2.2.2.2.2
  exact va_new hC.1 hC.2.1 hC.2.2.2.2.1 hin ty hty hC.2.2.2.1 (hC.w hcl) (hC.w hinst) (hC.w hini) hC.k hP hD hS (fun q hq => Nat.le_trans (GI.base hC.2.2.2.2.2.1) hq) hc hfs (by rw [hrm]; exact h1) (by rw [hrm]; exact h2) d
    (fun q H1 hP1 hD1 hS1 => kk q (Rep.fresh h3 hD1) H1 locs ls (Rep.push h3 hP1 hD1 ((hob_of (by rw [hK_sNew, if_pos rfl])).trans (h' q)) (fun b hb => hob_sNew hb)) hS1 hl)
end
section
/-! arrays -/
def isIA : Nat → Bool
  | 8 => true
  | 9 => true
  | 10 => true
  | 11 => true
  | n => Nat.ble 18 n
theorem hsh_IA {G : JG} {S : HS} {a n : Nat} (h : isIA n = true) : hsh G S a n = some (.inl (gC G 0, hN S a, .inl (fun i => hV S i a))) := by
  unfold isIA at h
  unfold hsh
  split <;> first | rfl | (simp at h; done)
def isZA : Nat → Bool
  | 15 => true
  | 16 => true
  | _ => false
theorem hsh_ZA {G : JG} {S : HS} {a n : Nat} (h : isZA n = true) : hsh G S a n = some (.inl (gC G 1, hN S a, .inl (fun i => hV S i a))) := by
  unfold isZA at h
  split at h <;> first | rfl | (cases h; done)
/-- an array's places may be read and written -/
theorem vp_in_lt {i : Int32} {n : Nat} (h : vp_in i n) : i.toNatClampNeg < n := Nat.not_le.mp fun q => h (Or.inr q)
theorem J_iald {X : JX} {G : JG} {Q : State → Prop} {nL cs ss pc : Nat} {lv : List (Nat × Value)} {st : List Value} {S : HS} {own : String} {cc : ByteArray} {ret : Option FieldType} {fr lo mc ms : Nat} {a lab : Nat} {i : Int32} (hC : JC X G own cc nL ret fr lo mc ms) (h0 : hK S a = lab) (hl0 : isIA lab = true) (hin : vp_in i (hN S a)) (d : decode cc pc = .ok (.iaload, 1))
    (kk : J X G Q nL cs ss (pc + 1) lv (.int (hV S i.toNatClampNeg a) :: st) S) : J X G Q nL cs ss pc lv (.int i :: .ref a :: st) S := by
  intro H locs ls hR hS hl
  exact va_iald hC.1 hC.2.1 hC.k (hR.one ((hob_of h0).trans (hsh_IA hl0))) 0 0 rfl rfl hin d (kk H locs ls hR hS hl)
theorem J_zald {X : JX} {G : JG} {Q : State → Prop} {nL cs ss pc : Nat} {lv : List (Nat × Value)} {st : List Value} {S : HS} {own : String} {cc : ByteArray} {ret : Option FieldType} {fr lo mc ms : Nat} {a lab : Nat} {i : Int32} (hC : JC X G own cc nL ret fr lo mc ms) (h0 : hK S a = lab) (hl0 : isZA lab = true) (hin : vp_in i (hN S a)) (d : decode cc pc = .ok (.baload, 1))
    (kk : J X G Q nL cs ss (pc + 1) lv (.int (hV S i.toNatClampNeg a) :: st) S) : J X G Q nL cs ss pc lv (.int i :: .ref a :: st) S := by
  intro H locs ls hR hS hl
  exact va_zald hC.1 hC.2.1 hC.k (hR.one ((hob_of h0).trans (hsh_ZA hl0))) 0 1 rfl rfl hin d (kk H locs ls hR hS hl)
theorem J_lald {X : JX} {G : JG} {Q : State → Prop} {nL cs ss pc : Nat} {lv : List (Nat × Value)} {st : List Value} {S : HS} {own : String} {cc : ByteArray} {ret : Option FieldType} {fr lo mc ms : Nat} {a : Nat} {i : Int32} (hC : JC X G own cc nL ret fr lo mc ms) (h0 : hK S a = 14) (hin : vp_in i (hN S a)) (d : decode cc pc = .ok (.laload, 1))
    (kk : J X G Q nL cs ss (pc + 1) lv (.long (hL S i.toNatClampNeg a) :: st) S) : J X G Q nL cs ss pc lv (.int i :: .ref a :: st) S := by
  intro H locs ls hR hS hl
  exact va_lald hC.1 hC.2.1 hC.k (hR.one (hob_of h0)) 0 4 rfl rfl hin d (kk H locs ls hR hS hl)
theorem J_aald {X : JX} {G : JG} {Q : State → Prop} {nL cs ss pc : Nat} {lv : List (Nat × Value)} {st : List Value} {S : HS} {own : String} {cc : ByteArray} {ret : Option FieldType} {fr lo mc ms : Nat} {a b : Nat} {i : Int32} (hC : JC X G own cc nL ret fr lo mc ms) (h0 : hK S a = 12) (hin : vp_in i (hN S a)) (hb : hP S i.toNatClampNeg a = some b) (d : decode cc pc = .ok (.aaload, 1))
    (kk : J X G Q nL cs ss (pc + 1) lv (.ref b :: st) S) : J X G Q nL cs ss pc lv (.int i :: .ref a :: st) S := by
  intro H locs ls hR hS hl
  refine va_aldq hC.1 hC.2.1 hC.k (hR.one (hob_of h0)) 0 2 rfl rfl hin d ?_
  show W _ _ _ _ _ _ _ _ _ _ H locs cs ss Q (F0 _ (pc + 1) ls (va_rf (hP S i.toNatClampNeg a) :: st))
  rw [hb]
  exact kk H locs ls hR hS hl
theorem J_aald2 {X : JX} {G : JG} {Q : State → Prop} {nL cs ss pc : Nat} {lv : List (Nat × Value)} {st : List Value} {S : HS} {own : String} {cc : ByteArray} {ret : Option FieldType} {fr lo mc ms : Nat} {a b : Nat} {i : Int32} (hC : JC X G own cc nL ret fr lo mc ms) (h0 : hK S a = 13) (hin : vp_in i (hN S a)) (hb : hP S i.toNatClampNeg a = some b) (d : decode cc pc = .ok (.aaload, 1))
    (kk : J X G Q nL cs ss (pc + 1) lv (.ref b :: st) S) : J X G Q nL cs ss pc lv (.int i :: .ref a :: st) S := by
  intro H locs ls hR hS hl
  have ha := hR.one (hob_of h0) 0 _ rfl
  have hlt := vp_in_lt hin
  refine W.aald (v := .ref b) hC.1 hC.2.1 ha ((hC.k.2 3 _ rfl).1 (hN S a) (fun j => va_rf (hP S j a))) rfl (fun q => by cases q) (by show ¬ (i < 0 ∨ (arrV _ _ _).slots.size ≤ _); rw [arrV_size]; exact hin) (by show (arrV _ _ _).slots[_]? = _; rw [arrV_read _ _ hlt]; exact congrArg some (congrArg va_rf hb)) rfl rfl d ?_
  exact kk H locs ls hR hS hl
theorem J_iast {X : JX} {G : JG} {Q : State → Prop} {nL cs ss pc : Nat} {lv : List (Nat × Value)} {st : List Value} {S : HS} {own : String} {cc : ByteArray} {ret : Option FieldType} {fr lo mc ms : Nat} {a lab : Nat} {i x : Int32} (hC : JC X G own cc nL ret fr lo mc ms) (h0 : hK S a = lab) (hl0 : isIA lab = true) (hin : vp_in i (hN S a)) (d : decode cc pc = .ok (.iastore, 1))
    (kk : J X G Q nL cs ss (pc + 1) lv st (sV S i.toNatClampNeg a (x))) : J X G Q nL cs ss pc lv (.int x :: .int i :: .ref a :: st) S := by
  intro H locs ls hR hS hl
  obtain ⟨ws, hP, hD, h3⟩ := hR
  obtain ⟨j, hj⟩ := h3 a _ ((hob_of h0).trans (hsh_IA hl0))
  refine va_iast hC.1 hC.2.1 hC.k hP hD hS j 0 hj rfl hin d (fun H1 locs1 hP1 hD1 hS1 => kk H1 locs1 ls (Rep.put h3 hD hj hP1 hD1 ?_ (fun b hb => hob_sV hb)) hS1 hl)
  rw [hob_of (show hK (sV S i.toNatClampNeg a (x)) a = lab from h0), hsh_IA hl0]
  refine congrArg some (congrArg Sum.inl (congrArg (Prod.mk _) (congrArg (Prod.mk _) (congrArg Sum.inl (funext fun k => ?_)))))
  rw [hV_sV]
  by_cases e : k = i.toNatClampNeg
  · rw [if_pos ⟨e, rfl⟩, e, pk_us]
  · rw [if_neg (fun z => e z.1), pk_un e]
theorem J_zast {X : JX} {G : JG} {Q : State → Prop} {nL cs ss pc : Nat} {lv : List (Nat × Value)} {st : List Value} {S : HS} {own : String} {cc : ByteArray} {ret : Option FieldType} {fr lo mc ms : Nat} {a lab : Nat} {i x : Int32} (hC : JC X G own cc nL ret fr lo mc ms) (h0 : hK S a = lab) (hl0 : isZA lab = true) (hin : vp_in i (hN S a)) (d : decode cc pc = .ok (.bastore, 1))
    (kk : J X G Q nL cs ss (pc + 1) lv st (sV S i.toNatClampNeg a (vp_nar .boolean x))) : J X G Q nL cs ss pc lv (.int x :: .int i :: .ref a :: st) S := by
  intro H locs ls hR hS hl
  obtain ⟨ws, hP, hD, h3⟩ := hR
  obtain ⟨j, hj⟩ := h3 a _ ((hob_of h0).trans (hsh_ZA hl0))
  refine va_zast hC.1 hC.2.1 hC.k hP hD hS j 1 hj rfl hin d (fun H1 locs1 hP1 hD1 hS1 => kk H1 locs1 ls (Rep.put h3 hD hj hP1 hD1 ?_ (fun b hb => hob_sV hb)) hS1 hl)
  rw [hob_of (show hK (sV S i.toNatClampNeg a (vp_nar .boolean x)) a = lab from h0), hsh_ZA hl0]
  refine congrArg some (congrArg Sum.inl (congrArg (Prod.mk _) (congrArg (Prod.mk _) (congrArg Sum.inl (funext fun k => ?_)))))
  rw [hV_sV]
  by_cases e : k = i.toNatClampNeg
  · rw [if_pos ⟨e, rfl⟩, e, pk_us]
  · rw [if_neg (fun z => e z.1), pk_un e]
theorem J_last {X : JX} {G : JG} {Q : State → Prop} {nL cs ss pc : Nat} {lv : List (Nat × Value)} {st : List Value} {S : HS} {own : String} {cc : ByteArray} {ret : Option FieldType} {fr lo mc ms : Nat} {a : Nat} {i : Int32} {x : Int64} (hC : JC X G own cc nL ret fr lo mc ms) (h0 : hK S a = 14) (hin : vp_in i (hN S a)) (d : decode cc pc = .ok (.lastore, 1))
    (kk : J X G Q nL cs ss (pc + 1) lv st (sL S i.toNatClampNeg a x)) : J X G Q nL cs ss pc lv (.long x :: .int i :: .ref a :: st) S := by
  intro H locs ls hR hS hl
  obtain ⟨ws, hP, hD, h3⟩ := hR
  obtain ⟨j, hj⟩ := h3 a _ (hob_of h0)
  refine va_last hC.1 hC.2.1 hC.k hP hD hS j 4 hj rfl hin d (fun H1 locs1 hP1 hD1 hS1 => kk H1 locs1 ls (Rep.put h3 hD hj hP1 hD1 ?_ (fun b hb => hob_sL hb)) hS1 hl)
  rw [hob_of (show hK (sL S i.toNatClampNeg a x) a = 14 from h0)]
  refine congrArg some (congrArg Sum.inl (congrArg (Prod.mk _) (congrArg (Prod.mk _) (congrArg Sum.inr (congrArg Sum.inl (funext fun k => ?_))))))
  rw [hL_sL]
  by_cases e : k = i.toNatClampNeg
  · rw [if_pos ⟨e, rfl⟩, e, pk_uLs]
  · rw [if_neg (fun z => e z.1), pk_uLn e]
theorem J_aast {X : JX} {G : JG} {Q : State → Prop} {nL cs ss pc : Nat} {lv : List (Nat × Value)} {st : List Value} {S : HS} {own : String} {cc : ByteArray} {ret : Option FieldType} {fr lo mc ms : Nat} {a b lb : Nat} {i : Int32} {ci : Nat} {fs : List Value} {r : vw_C} (hC : JC X G own cc nL ret fr lo mc ms) (h0 : hK S a = 12) (hin : vp_in i (hN S a)) (hb : hK S b = lb) (hf : hsh G S b lb = some (.inr (ci, fs))) (hc : vwCl[ci]? = some r) (hcast : Cond.castable r.1 "java/lang/Object" ∈ wN) (d : decode cc pc = .ok (.aastore, 1))
    (kk : J X G Q nL cs ss (pc + 1) lv st (sP S i.toNatClampNeg a (some b))) : J X G Q nL cs ss pc lv (.ref b :: .int i :: .ref a :: st) S := by
  intro H locs ls hR hS hl
  obtain ⟨ws, hP, hD, h3⟩ := hR
  obtain ⟨j, hj⟩ := h3 a _ (hob_of h0)
  obtain ⟨jb, hjb⟩ := h3 b _ ((hob_of hb).trans hf)
  refine va_astqO hC.1 hC.2.1 hC.k hP hD hS j 2 jb ci hj rfl (hC.2.2.2.2.2.1.2.1 _ hcast) hjb hc hin d (fun H1 locs1 hP1 hD1 hS1 => kk H1 locs1 ls (Rep.put h3 hD hj hP1 hD1 ?_ (fun b hb => hob_sP hb)) hS1 hl)
  rw [hob_of (show hK (sP S i.toNatClampNeg a (some b)) a = 12 from h0)]
  refine congrArg some (congrArg Sum.inl (congrArg (Prod.mk _) (congrArg (Prod.mk _) (congrArg Sum.inr (congrArg Sum.inr (congrArg Sum.inr (congrArg Sum.inr (funext fun k => ?_))))))))
  rw [hP_sP]
  by_cases e : k = i.toNatClampNeg
  · rw [if_pos ⟨e, rfl⟩, e, va_up_self]
  · rw [if_neg (fun z => e z.1), va_up_ne _ _ e]
theorem J_alen {X : JX} {G : JG} {Q : State → Prop} {nL cs ss pc : Nat} {lv : List (Nat × Value)} {st : List Value} {S : HS} {own : String} {cc : ByteArray} {ret : Option FieldType} {fr lo mc ms : Nat} {a lab t0 : Nat} {cA : ClassId} {x : vp_A} {ty : FieldType} (hC : JC X G own cc nL ret fr lo mc ms) (h0 : hK S a = lab) (hf : hsh G S a lab = some (.inl (cA, x))) (ht : (tysG G)[t0]? = some (cA, ty)) {v : Int32} (hv : Int32.ofNat x.1 = v) (d : decode cc pc = .ok (.arraylength, 1))
    (kk : J X G Q nL cs ss (pc + 1) lv (.int v :: st) S) : J X G Q nL cs ss pc lv (.ref a :: st) S := by
  intro H locs ls hR hS hl
  exact va_alen hC.1 hC.2.1 hC.k (hR.one ((hob_of h0).trans hf)) 0 t0 rfl ht hv d (kk H locs ls hR hS hl)
theorem J_alenE {X : JX} {G : JG} {Q : State → Prop} {nL cs ss pc : Nat} {lv : List (Nat × Value)} {st : List Value} {S : HS} {own : String} {cc : ByteArray} {ret : Option FieldType} {fr lo mc ms : Nat} (hC : JC X G own cc nL ret fr lo mc ms) (d : decode cc pc = .ok (.arraylength, 1))
    (kk : J X G Q nL cs ss (pc + 1) lv (.int 0 :: st) S) : J X G Q nL cs ss pc lv (.ref (gE G) :: st) S := by
  intro H locs ls hR hS hl
  have h8 := hC.2.2.2.2.2.1.2.2.2.2.2.2.2.1
  have h9 := hC.2.2.2.2.2.1.2.2.2.2.2.2.2.2.1
  have hP : va_P (gD G) vwCl [(gE G, .inl (gC G 2, 0, .inr (.inr (.inr (.inr (fun _ => none))))))] H := by
    intro j q hj
    match j, hj with
    | 0, hj => cases hj; exact h8.kept (hS.2.1 _ h8.lt h9)
    | j + 1, hj => simp at hj
  exact va_alen hC.1 hC.2.1 hC.k hP 0 2 rfl rfl rfl d (kk H locs ls hR hS hl)
theorem J_newI {X : JX} {G : JG} {Q : State → Prop} {nL cs ss pc : Nat} {lv : List (Nat × Value)} {st : List Value} {S : HS} {own : String} {cc : ByteArray} {ret : Option FieldType} {fr lo mc ms : Nat} {n : Int32} {N lab : Nat} (hC : JC X G own cc nL ret fr lo mc ms) (hl0 : isIA lab = true) (hw : Cond.arrayClass .int ∈ wG) (hn : ¬ n < 0) (hNn : n.toNatClampNeg = N) (hb : N * 4 ≤ 536870912) (h1 : cs + 1 ≤ mc) (h2 : ss + N ≤ ms) (d : decode cc pc = .ok (.newarray .int, 2))
    (kk : ∀ q : Nat, hK S q = 0 → J X G Q nL (cs + 1) (ss + N) (pc + 2) lv (.ref q :: st) (sNew S q lab N)) : J X G Q nL cs ss pc lv (.int n :: st) S := by
  intro H locs ls hR hS hl
  obtain ⟨ws, hP, hD, h3⟩ := hR
  have hrm := hC.2.2.2.2.2.2.2.2.2
  refine va_newa (atype := .int) (ty := .int) (a0 := (N, .inl (fun _ => 0))) hC.1 hC.2.1 (hC.w hw) rfl hC.k hP hD hS (fun q hq => Nat.le_trans (GI.base hC.2.2.2.2.2.1) hq) (fun cA => rfl) hn hNn (by show N * 4 ≤ _; omega) (by rw [hrm]; exact h1) (by rw [hrm]; exact h2) d (fun q cA H1 hK1 hP1 hD1 hS1 => ?_)
  have ec : cA = gC G 0 := Option.some.inj (((hK1.2 5 _ rfl).2 : (xs X).vm.findClass _ = some cA).symm.trans ((hC.k.2 0 _ rfl).2 : (xs X).vm.findClass _ = some (gC G 0)))
  subst ec
  refine kk q (Rep.fresh h3 hD1) H1 locs ls (Rep.push h3 hP1 hD1 ?_ (fun b hb => hob_sNew hb)) hS1 hl
  rw [hob_of (show hK (sNew S q lab N) q = lab by rw [hK_sNew, if_pos rfl]), hsh_IA hl0, hN_sNew, if_pos rfl]
  refine congrArg some (congrArg Sum.inl (congrArg (Prod.mk _) (congrArg (Prod.mk _) (congrArg Sum.inl (funext fun k => ?_)))))
  rw [hV_sNew, if_pos rfl]
theorem J_newZ {X : JX} {G : JG} {Q : State → Prop} {nL cs ss pc : Nat} {lv : List (Nat × Value)} {st : List Value} {S : HS} {own : String} {cc : ByteArray} {ret : Option FieldType} {fr lo mc ms : Nat} {n : Int32} {N lab : Nat} (hC : JC X G own cc nL ret fr lo mc ms) (hl0 : isZA lab = true) (hw : Cond.arrayClass .boolean ∈ wG) (hn : ¬ n < 0) (hNn : n.toNatClampNeg = N) (hb : N * 4 ≤ 536870912) (h1 : cs + 1 ≤ mc) (h2 : ss + N ≤ ms) (d : decode cc pc = .ok (.newarray .boolean, 2))
    (kk : ∀ q : Nat, hK S q = 0 → J X G Q nL (cs + 1) (ss + N) (pc + 2) lv (.ref q :: st) (sNew S q lab N)) : J X G Q nL cs ss pc lv (.int n :: st) S := by
  intro H locs ls hR hS hl
  obtain ⟨ws, hP, hD, h3⟩ := hR
  have hrm := hC.2.2.2.2.2.2.2.2.2
  refine va_newa (atype := .boolean) (ty := .boolean) (a0 := (N, .inl (fun _ => 0))) hC.1 hC.2.1 (hC.w hw) rfl hC.k hP hD hS (fun q hq => Nat.le_trans (GI.base hC.2.2.2.2.2.1) hq) (fun cA => rfl) hn hNn (by show N * 1 ≤ _; omega) (by rw [hrm]; exact h1) (by rw [hrm]; exact h2) d (fun q cA H1 hK1 hP1 hD1 hS1 => ?_)
  have ec : cA = gC G 1 := Option.some.inj (((hK1.2 5 _ rfl).2 : (xs X).vm.findClass _ = some cA).symm.trans ((hC.k.2 1 _ rfl).2 : (xs X).vm.findClass _ = some (gC G 1)))
  subst ec
  refine kk q (Rep.fresh h3 hD1) H1 locs ls (Rep.push h3 hP1 hD1 ?_ (fun b hb => hob_sNew hb)) hS1 hl
  rw [hob_of (show hK (sNew S q lab N) q = lab by rw [hK_sNew, if_pos rfl]), hsh_ZA hl0, hN_sNew, if_pos rfl]
  refine congrArg some (congrArg Sum.inl (congrArg (Prod.mk _) (congrArg (Prod.mk _) (congrArg Sum.inl (funext fun k => ?_)))))
  rw [hV_sNew, if_pos rfl]
theorem J_newL {X : JX} {G : JG} {Q : State → Prop} {nL cs ss pc : Nat} {lv : List (Nat × Value)} {st : List Value} {S : HS} {own : String} {cc : ByteArray} {ret : Option FieldType} {fr lo mc ms : Nat} {n : Int32} {N : Nat} (hC : JC X G own cc nL ret fr lo mc ms) (hw : Cond.arrayClass .long ∈ wG) (hn : ¬ n < 0) (hNn : n.toNatClampNeg = N) (hb : N * 8 ≤ 536870912) (h1 : cs + 1 ≤ mc) (h2 : ss + N ≤ ms) (d : decode cc pc = .ok (.newarray .long, 2))
    (kk : ∀ q : Nat, hK S q = 0 → J X G Q nL (cs + 1) (ss + N) (pc + 2) lv (.ref q :: st) (sNew S q 14 N)) : J X G Q nL cs ss pc lv (.int n :: st) S := by
  intro H locs ls hR hS hl
  obtain ⟨ws, hP, hD, h3⟩ := hR
  have hrm := hC.2.2.2.2.2.2.2.2.2
  refine va_newa (atype := .long) (ty := .long) (a0 := (N, .inr (.inl (fun _ => 0)))) hC.1 hC.2.1 (hC.w hw) rfl hC.k hP hD hS (fun q hq => Nat.le_trans (GI.base hC.2.2.2.2.2.1) hq) (fun cA => rfl) hn hNn hb (by rw [hrm]; exact h1) (by rw [hrm]; exact h2) d (fun q cA H1 hK1 hP1 hD1 hS1 => ?_)
  have ec : cA = gC G 4 := Option.some.inj (((hK1.2 5 _ rfl).2 : (xs X).vm.findClass _ = some cA).symm.trans ((hC.k.2 4 _ rfl).2 : (xs X).vm.findClass _ = some (gC G 4)))
  subst ec
  refine kk q (Rep.fresh h3 hD1) H1 locs ls (Rep.push h3 hP1 hD1 ?_ (fun b hb => hob_sNew hb)) hS1 hl
  rw [hob_of (show hK (sNew S q 14 N) q = 14 by rw [hK_sNew, if_pos rfl])]
  show some (Sum.inl (gC G 4, hN (sNew S q 14 N) q, Sum.inr (Sum.inl _))) = _
  rw [hN_sNew, if_pos rfl]
  refine congrArg some (congrArg Sum.inl (congrArg (Prod.mk _) (congrArg (Prod.mk _) (congrArg Sum.inr (congrArg Sum.inl (funext fun k => ?_))))))
  rw [hL_sNew, if_pos rfl]
theorem J_newO {X : JX} {G : JG} {Q : State → Prop} {nL cs ss pc : Nat} {lv : List (Nat × Value)} {st : List Value} {S : HS} {own : String} {cc : ByteArray} {ret : Option FieldType} {fr lo mc ms : Nat} {n : Int32} {N idx : Nat} (hC : JC X G own cc nL ret fr lo mc ms) (hw : Cond.classLink own idx "java/lang/Object" ∈ wG) (hn : ¬ n < 0) (hNn : n.toNatClampNeg = N) (hb : N * 4 ≤ 536870912) (h1 : cs + 1 ≤ mc) (h2 : ss + N ≤ ms) (d : decode cc pc = .ok (.anewarray idx, 3))
    (kk : ∀ q : Nat, hK S q = 0 → J X G Q nL (cs + 1) (ss + N) (pc + 3) lv (.ref q :: st) (sNew S q 12 N)) : J X G Q nL cs ss pc lv (.int n :: st) S := by
  intro H locs ls hR hS hl
  obtain ⟨ws, hP, hD, h3⟩ := hR
  have hrm := hC.2.2.2.2.2.2.2.2.2
  refine va_newq hC.1 hC.2.1 hC.2.2.2.1 (hC.w hw) hC.2.2.2.2.2.1.2.2.2.2.2.2.2.2.2.2.1 hC.k hP hD hS (fun q hq => Nat.le_trans (GI.base hC.2.2.2.2.2.1) hq) hn hNn hb (by rw [hrm]; exact h1) (by rw [hrm]; exact h2) d (fun q cA H1 hK1 hP1 hD1 hS1 => ?_)
  have ec : cA = gC G 2 := by
    obtain ⟨-, -, -, -, -, e1⟩ := (hK1.2 5 _ rfl).2
    obtain ⟨-, -, -, -, -, e2⟩ := (hC.k.2 2 _ rfl).2
    exact Option.some.inj (e1.symm.trans e2)
  subst ec
  refine kk q (Rep.fresh h3 hD1) H1 locs ls (Rep.push h3 hP1 hD1 ?_ (fun b hb => hob_sNew hb)) hS1 hl
  rw [hob_of (show hK (sNew S q 12 N) q = 12 by rw [hK_sNew, if_pos rfl])]
  show some (Sum.inl (gC G 2, hN (sNew S q 12 N) q, Sum.inr (Sum.inr (Sum.inr (Sum.inr _))))) = _
  rw [hN_sNew, if_pos rfl]
  refine congrArg some (congrArg Sum.inl (congrArg (Prod.mk _) (congrArg (Prod.mk _) (congrArg Sum.inr (congrArg Sum.inr (congrArg Sum.inr (congrArg Sum.inr (funext fun k => ?_))))))))
  rw [hP_sNew, if_pos rfl]
end
section
/-! calls, throws, handlers -/
theorem J_ofRun {X : JX} {G : JG} {Q : State → Prop} {nL cs ss pc : Nat} {lv : List (Nat × Value)} {st st0 : List Value} {S : HS} {mc' ms' : Nat} {a : Array Value} {R : Option Value → HS → Prop} {RX : String → HS → Prop}
    (hr : ∀ (H : Heap) (locs : List Loc) (ls : Array Slot), Rep G S H → va_S (gA G) (xs X).heap H locs → lv_has ls nL lv → vx_Run (xp X) (xl X) (xe X) (xR X) (xs X) (xm X) (xa X) (xb X) (xt X) (xc X) H locs cs ss mc' ms' (F0 (xm X) pc ls st0) st (jQc G R a) (jXC G RX) (gA G))
    (kx : ∀ (E : String) (S' : HS), RX E S' → JT X G Q nL (cs + mc') (ss + ms') pc lv S' E)
    (kk : ∀ (v : Option Value) (S' : HS), R v S' → J X G Q nL (cs + mc') (ss + ms') (pc + 3) lv (v.toList ++ st) S') : J X G Q nL cs ss pc lv st0 S := by
  intro H locs ls hR hS hl T hT Xs
  rcases hr H locs ls hR hS hl T hT Xs with ⟨v, st₀, t, T', L, h0, X', hL, e1, e2, ⟨⟨v', S', hv, hq, hRep⟩, hF⟩, st9⟩ | ⟨q, st₀, t, T', L, E, ce, h0, X', hL, e1, e2, ⟨⟨S', hq, hRep⟩, hF⟩, hce, hcv, hcl, st9⟩
  · cases hv
    obtain ⟨k1, k2, k3⟩ := vx_keep h0 e1 hS (fun _ _ h => h) (fun _ h => h) hL hF
    obtain ⟨t2, a1, b1⟩ := kk v S' hq T'.heap (locs ++ L) ls (by rw [e1]; exact hRep) k3 hl T' rfl X'
    exact ⟨t2, st9 t2 a1, b1⟩
  · obtain ⟨k1, k2, k3⟩ := vx_keep h0 e1 hS (fun _ _ h => h) (fun _ h => h) hL hF
    obtain ⟨t2, a1, b1⟩ := kx E S' hq T'.heap (locs ++ L) ls st ce q (by rw [e1]; exact hRep) k3 hl (by rw [e1]; exact hce) hcv hcl T' rfl X'
    exact ⟨t2, st9.trans a1, b1⟩
theorem vx_of_va {p : Program} {l : Launch} {e : Env} {R : Room} {s : State} {m : MethodId} {args : Array Value} {below : List Frame} {meth : Method} {c : Code} {H : Heap} {locs : List Loc} {cells slots mc ms : Nat} {g : JFrame} {rest : List Value} {Qa : State → Outcome → State → Prop} {XC : String → State → State → Prop} {free : Addr → Prop}
    (h : va_Run p l e R s m args below meth c H locs cells slots mc ms g rest Qa free) : vx_Run p l e R s m args below meth c H locs cells slots mc ms g rest Qa XC free := fun T hT X => Or.inl (h T hT X)
/-- the words of a method's own list -/
theorem goodIn_y {y : MethodName} {cc : ByteArray} {nL : Nat} {ret : Option FieldType} {pre : List Cond} (h0 : Cond.code y cc nL ret ∈ wG) (h : ∀ w ∈ pre, w ∈ wG) : GoodIn wG (pre ++ (Cond.code y cc nL ret :: wG)) := goodIn_wG (fun w hw => by
  rcases List.mem_append.mp hw with h1 | h1
  · exact h w h1
  · rcases List.mem_cons.mp h1 with rfl | h2
    · exact h0
    · exact h2)
theorem fa4 {α : Type} {P : α → Prop} {a b c d : α} (h1 : P a) (h2 : P b) (h3 : P c) (h4 : P d) : ∀ w ∈ [a, b, c, d], P w := by
  intro w hw
  simp only [List.mem_cons, List.not_mem_nil, or_false] at hw
  rcases hw with rfl | rfl | rfl | rfl <;> assumption
theorem fa3 {α : Type} {P : α → Prop} {a b c : α} (h1 : P a) (h2 : P b) (h3 : P c) : ∀ w ∈ [a, b, c], P w := by
  intro w hw
  simp only [List.mem_cons, List.not_mem_nil, or_false] at hw
  rcases hw with rfl | rfl | rfl <;> assumption
/-- a method's descriptor has n parameters, and isn't one of the two classes apart -/
def yOK (y : MethodName) (n : Nat) : Prop := y.cls ≠ "java/lang/invoke/MethodHandle" ∧ y.cls ≠ "java/lang/invoke/VarHandle" ∧ (parseMethodDescriptor y.desc).map (fun d => d.parameters.length) = some n
/-- room for a callee -/
def rOK (fr lo mc ms cs ss nL' fr' lo' mc' ms' : Nat) : Prop := (fr' + 1 ≤ fr ∧ 8 + (nL' + 11) + lo' ≤ lo) ∧ cs + mc' ≤ mc ∧ ss + ms' ≤ ms
theorem GI.at {G : JG} {own : String} {cc : ByteArray} {ret : Option FieldType} {nL fr lo mc ms : Nat} {X : JX} (hC : JC X G own cc nL ret fr lo mc ms) {H : Heap} {locs : List Loc} (hS : va_S (gA G) (xs X).heap H locs) : GI G (xs X) H := hC.2.2.2.2.2.1.kept hS.1 (fun q hq hA => hS.2.1 q hq hA)
theorem J_callV {X : JX} {G : JG} {Q : State → Prop} {nL cs ss pc : Nat} {lv : List (Nat × Value)} {st st0 : List Value} {S : HS} {own : String} {cc : ByteArray} {ret : Option FieldType} {fr lo mc ms : Nat} (hC : JC X G own cc nL ret fr lo mc ms)
    {y : MethodName} {cy : ByteArray} {nL' : Nat} {ret' : Option FieldType} {fr' lo' mc' ms' idx n ci lab b : Nat} {r : vw_C} {fs as : List Value} {R : Option Value → HS → Prop} {RX : String → HS → Prop} (hM : Ct G y cy nL' ret' fr' lo' mc' ms' (.ref b :: as) S R RX)
    (w1 : Cond.methodLink own idx y ∈ wG) (w2 : Cond.instanceMethod y ∈ wG) (w3 : Cond.selects r.1 y y ∈ wG) (w4 : Cond.initialized r.1 ∈ wG) (w5 : Cond.code y cy nL' ret' ∈ wG) (hy : yOK y n) (hyc : y.cls = r.1) (hn : as.length = n)
    (hk : hK S b = lab) (hf : hsh G S b lab = some (.inr (ci, fs))) (hc : vwCl[ci]? = some r) (hst : st0 = as.reverse ++ .ref b :: st) (h8 : (st.map fun v => v.category).sum ≤ 8) (hr : rOK fr lo mc ms cs ss nL' fr' lo' mc' ms') (d : decode cc pc = .ok (.invokevirtual idx, 3))
    (kx : ∀ (E : String) (S' : HS), RX E S' → JT X G Q nL (cs + mc') (ss + ms') pc lv S' E)
    (kk : ∀ (v : Option Value) (S' : HS), R v S' → J X G Q nL (cs + mc') (ss + ms') (pc + 3) lv (v.toList ++ st) S') : J X G Q nL cs ss pc lv st0 S := by
  refine J_ofRun (a := (Value.ref b :: as).toArray) (fun H locs ls hR hS hl => ?_) kx kk
  have hrm := hC.2.2.2.2.2.2.2.2.2
  refine vx_runV (As := as) (rest := st) ⟨hC.1, hC.2.1, hC.2.2.1, hC.2.2.2.1, hC.2.2.2.2.1⟩ (hM (xl X) hC.2.2.2.2.2.2.2.2.1) (cwV (C := r.1) n hC.2.2.2.2.1 (goodIn_y w5 (fa4 w1 w2 w3 w4)) rfl rfl rfl ⟨hyc, hy⟩ (by rw [hrm]; exact hr.1)) ⟨jPc_blind, va_recv (q0 := 0) (ci := ci) (fs := fs) hC.k (hR.one ((hob_of hk).trans hf)) hc rfl, fun U hU hW => ⟨rfl, ?_, by rw [hU]; exact hR⟩⟩ rfl hn hl.1 hst (lv_room h8) d (by rw [hrm]; exact hr.2)
  rw [hU]
  exact (GI.at hC hS).warm hW
theorem J_callS {X : JX} {G : JG} {Q : State → Prop} {nL cs ss pc : Nat} {lv : List (Nat × Value)} {st st0 : List Value} {S : HS} {own : String} {cc : ByteArray} {ret : Option FieldType} {fr lo mc ms : Nat} (hC : JC X G own cc nL ret fr lo mc ms)
    {y : MethodName} {cy : ByteArray} {nL' : Nat} {ret' : Option FieldType} {fr' lo' mc' ms' idx n : Nat} {as : List Value} {R : Option Value → HS → Prop} {RX : String → HS → Prop} (hM : Ct G y cy nL' ret' fr' lo' mc' ms' as S R RX)
    (w1 : Cond.methodLink own idx y ∈ wG) (w2 : Cond.static y ∈ wG) (w4 : Cond.initialized y.cls ∈ wG) (w5 : Cond.code y cy nL' ret' ∈ wG) (hy : yOK y n) (hn : as.length = n)
    (hst : st0 = as.reverse ++ st) (h8 : (st.map fun v => v.category).sum ≤ 8) (hr : rOK fr lo mc ms cs ss nL' fr' lo' mc' ms') (d : decode cc pc = .ok (.invokestatic idx, 3))
    (kx : ∀ (E : String) (S' : HS), RX E S' → JT X G Q nL (cs + mc') (ss + ms') pc lv S' E)
    (kk : ∀ (v : Option Value) (S' : HS), R v S' → J X G Q nL (cs + mc') (ss + ms') (pc + 3) lv (v.toList ++ st) S') : J X G Q nL cs ss pc lv st0 S := by
  refine J_ofRun (a := as.toArray) (fun H locs ls hR hS hl => ?_) kx kk
  have hrm := hC.2.2.2.2.2.2.2.2.2
  refine vx_runS (As := as) (rest := st) ⟨hC.1, hC.2.1, hC.2.2.1, hC.2.2.2.1, hC.2.2.2.2.1⟩ (hM (xl X) hC.2.2.2.2.2.2.2.2.1) (va_cwS n hC.2.2.2.2.1 (goodIn_y w5 (fa3 w1 w2 w4)) rfl rfl rfl hy (by rw [hrm]; exact hr.1)) ⟨jPc_blind, fun U hU hW => ⟨rfl, ?_, by rw [hU]; exact hR⟩⟩ rfl hn hl.1 hst (lv_room h8) d (by rw [hrm]; exact hr.2)
  rw [hU]
  exact (GI.at hC hS).warm hW
theorem J_callI {X : JX} {G : JG} {Q : State → Prop} {nL cs ss pc : Nat} {lv : List (Nat × Value)} {st st0 : List Value} {S : HS} {own : String} {cc : ByteArray} {ret : Option FieldType} {fr lo mc ms : Nat} (hC : JC X G own cc nL ret fr lo mc ms)
    {y : MethodName} {cy : ByteArray} {nL' : Nat} {fr' lo' mc' ms' idx n b : Nat} {as : List Value} {R : Option Value → HS → Prop} (hM : Ct G y cy nL' none fr' lo' mc' ms' (.ref b :: as) S R noX)
    (w1 : Cond.methodLink own idx y ∈ wG) (w2 : Cond.instanceMethod y ∈ wG) (w4 : Cond.initialized y.cls ∈ wG) (w5 : Cond.code y cy nL' none ∈ wG) (hy : yOK y n) (hyn : y.name = "<init>") (hn : as.length = n)
    (hst : st0 = as.reverse ++ .ref b :: st) (h8 : (st.map fun v => v.category).sum ≤ 8) (hr : rOK fr lo mc ms cs ss nL' fr' lo' mc' ms') (d : decode cc pc = .ok (.invokespecial idx, 3))
    (kk : ∀ (v : Option Value) (S' : HS), R v S' → J X G Q nL (cs + mc') (ss + ms') (pc + 3) lv (v.toList ++ st) S') : J X G Q nL cs ss pc lv st0 S := by
  refine J_ofRun (a := (Value.ref b :: as).toArray) (RX := noX) (fun H locs ls hR hS hl => vx_of_va ?_) (fun _ _ h => h.elim) kk
  have hrm := hC.2.2.2.2.2.2.2.2.2
  refine va_runI (As := as) (rest := st) ⟨hC.1, hC.2.1, hC.2.2.1, hC.2.2.2.1, hC.2.2.2.2.1⟩ (hM.met (xl X) hC.2.2.2.2.2.2.2.2.1) (cwI n hC.2.2.2.2.1 (goodIn_y (pre := []) w5 (fun _ h => nomatch h)) rfl rfl rfl (hC.w w4) (hC.w w1) (hC.w w2) hyn hy (by rw [hrm]; exact hr.1)) ⟨jPc_blind, fun U hU hW => ⟨rfl, ?_, by rw [hU]; exact hR⟩⟩ rfl hn hl.1 hst (lv_room h8) d (by rw [hrm]; exact hr.2)
  rw [hU]
  exact (GI.at hC hS).warm hW
theorem J_callIN {X : JX} {G : JG} {Q : State → Prop} {nL cs ss pc : Nat} {lv : List (Nat × Value)} {st st0 : List Value} {S : HS} {own : String} {cc : ByteArray} {ret : Option FieldType} {fr lo mc ms : Nat} (hC : JC X G own cc nL ret fr lo mc ms)
    {y : MethodName} {cy : ByteArray} {nL' : Nat} {fr' lo' mc' ms' idx n b : Nat} {host : String} {as : List Value} {R : Option Value → HS → Prop} (hM : Ct G y cy nL' none fr' lo' mc' ms' (.ref b :: as) S R noX)
    (w1 : Cond.methodLinkNest own idx y host ∈ wN) (w2 : Cond.instanceMethod y ∈ wG) (w4 : Cond.initialized y.cls ∈ wG) (w5 : Cond.code y cy nL' none ∈ wG) (hy : yOK y n) (hyn : y.name = "<init>") (hn : as.length = n)
    (hst : st0 = as.reverse ++ .ref b :: st) (h8 : (st.map fun v => v.category).sum ≤ 8) (hr : rOK fr lo mc ms cs ss nL' fr' lo' mc' ms') (d : decode cc pc = .ok (.invokespecial idx, 3))
    (kk : ∀ (v : Option Value) (S' : HS), R v S' → J X G Q nL (cs + mc') (ss + ms') (pc + 3) lv (v.toList ++ st) S') : J X G Q nL cs ss pc lv st0 S := by
  refine J_ofRun (a := (Value.ref b :: as).toArray) (RX := noX) (fun H locs ls hR hS hl => vx_of_va ?_) (fun _ _ h => h.elim) kk
  have hrm := hC.2.2.2.2.2.2.2.2.2
  refine va_runIN (As := as) (rest := st) ⟨hC.1, hC.2.1, hC.2.2.1, hC.2.2.2.1, hC.2.2.2.2.1⟩ (hM.met (xl X) hC.2.2.2.2.2.2.2.2.1) ⟨va_cnB n hC.2.2.2.2.1 (goodIn_y (pre := []) w5 (fun _ h => nomatch h)) rfl rfl rfl (hC.2.2.2.2.2.1.2.1 _ w1) (hC.w w4) hy (by rw [hrm]; exact hr.1), hyn, hC.w w2⟩ ⟨jPc_blind, fun U hU hW => ⟨rfl, ?_, by rw [hU]; exact hR⟩⟩ rfl hn hl.1 hst (lv_room h8) d (by rw [hrm]; exact hr.2)
  rw [hU]
  exact (GI.at hC hS).warm hW
theorem J_callSN {X : JX} {G : JG} {Q : State → Prop} {nL cs ss pc : Nat} {lv : List (Nat × Value)} {st st0 : List Value} {S : HS} {own : String} {cc : ByteArray} {ret : Option FieldType} {fr lo mc ms : Nat} (hC : JC X G own cc nL ret fr lo mc ms)
    {y : MethodName} {cy : ByteArray} {nL' : Nat} {ret' : Option FieldType} {fr' lo' mc' ms' idx n : Nat} {host : String} {as : List Value} {R : Option Value → HS → Prop} (hM : Ct G y cy nL' ret' fr' lo' mc' ms' as S R noX)
    (w1 : Cond.methodLinkNest own idx y host ∈ wN) (w2 : Cond.static y ∈ wG) (w4 : Cond.initialized y.cls ∈ wG) (w5 : Cond.code y cy nL' ret' ∈ wG) (hy : yOK y n) (hn : as.length = n)
    (hst : st0 = as.reverse ++ st) (h8 : (st.map fun v => v.category).sum ≤ 8) (hr : rOK fr lo mc ms cs ss nL' fr' lo' mc' ms') (d : decode cc pc = .ok (.invokestatic idx, 3))
    (kk : ∀ (v : Option Value) (S' : HS), R v S' → J X G Q nL (cs + mc') (ss + ms') (pc + 3) lv (v.toList ++ st) S') : J X G Q nL cs ss pc lv st0 S := by
  refine J_ofRun (a := as.toArray) (RX := noX) (fun H locs ls hR hS hl => vx_of_va ?_) (fun _ _ h => h.elim) kk
  have hrm := hC.2.2.2.2.2.2.2.2.2
  refine va_runSN (As := as) (rest := st) ⟨hC.1, hC.2.1, hC.2.2.1, hC.2.2.2.1, hC.2.2.2.2.1⟩ (hM.met (xl X) hC.2.2.2.2.2.2.2.2.1) ⟨va_cnB n hC.2.2.2.2.1 (goodIn_y (pre := []) w5 (fun _ h => nomatch h)) rfl rfl rfl (hC.2.2.2.2.2.1.2.1 _ w1) (hC.w w4) hy (by rw [hrm]; exact hr.1), hC.w w2, trivial⟩ ⟨jPc_blind, fun U hU hW => ⟨rfl, ?_, by rw [hU]; exact hR⟩⟩ rfl hn hl.1 hst (lv_room h8) d (by rw [hrm]; exact hr.2)
  rw [hU]
  exact (GI.at hC hS).warm hW
/-- a static method with handlers of its own -/
def CtX (G : JG) (y : MethodName) (cc : ByteArray) (nL : Nat) (ret : Option FieldType) (hh : List (Nat × Nat × Nat × Nat)) (fr lo mc ms : Nat) (as : List Value) (S : HS) (R : Option Value → HS → Prop) (RX : String → HS → Prop) : Prop :=
  ∀ l : Launch, l.stackTraces = false → vx_Met l y (.codeWith y cc nL ret hh :: wG) (jRm fr lo mc ms) (va_Pc as (jPc G S)) (jQc G R) (jXC G RX) mc ms (gA G)
theorem J_callSX {X : JX} {G : JG} {Q : State → Prop} {nL cs ss pc : Nat} {lv : List (Nat × Value)} {st st0 : List Value} {S : HS} {own : String} {cc : ByteArray} {ret : Option FieldType} {fr lo mc ms : Nat} (hC : JC X G own cc nL ret fr lo mc ms)
    {y : MethodName} {cy : ByteArray} {nL' : Nat} {ret' : Option FieldType} {hh : List (Nat × Nat × Nat × Nat)} {fr' lo' mc' ms' idx n : Nat} {as : List Value} {R : Option Value → HS → Prop} {RX : String → HS → Prop} (hM : CtX G y cy nL' ret' hh fr' lo' mc' ms' as S R RX)
    (w1 : Cond.methodLink own idx y ∈ wG) (w2 : Cond.static y ∈ wG) (w4 : Cond.initialized y.cls ∈ wG) (w5 : Cond.codeWith y cy nL' ret' hh ∈ wG) (hy : yOK y n) (hn : as.length = n)
    (hst : st0 = as.reverse ++ st) (h8 : (st.map fun v => v.category).sum ≤ 8) (hr : rOK fr lo mc ms cs ss nL' fr' lo' mc' ms') (d : decode cc pc = .ok (.invokestatic idx, 3))
    (kx : ∀ (E : String) (S' : HS), RX E S' → JT X G Q nL (cs + mc') (ss + ms') pc lv S' E)
    (kk : ∀ (v : Option Value) (S' : HS), R v S' → J X G Q nL (cs + mc') (ss + ms') (pc + 3) lv (v.toList ++ st) S') : J X G Q nL cs ss pc lv st0 S := by
  refine J_ofRun (a := as.toArray) (fun H locs ls hR hS hl => ?_) kx kk
  have hrm := hC.2.2.2.2.2.2.2.2.2
  refine vx_runSX (hh := hh) (As := as) (rest := st) ⟨hC.1, hC.2.1, hC.2.2.1, hC.2.2.2.1, hC.2.2.2.2.1⟩ (hM (xl X) hC.2.2.2.2.2.2.2.2.1) (vx_cwSW n hC.2.2.2.2.1 ?_ rfl rfl rfl hy (by rw [hrm]; exact hr.1)) ⟨jPc_blind, fun U hU hW => ⟨rfl, ?_, by rw [hU]; exact hR⟩⟩ rfl hn hl.1 hst (lv_room h8) d (by rw [hrm]; exact hr.2)
  · refine goodIn_wG (fun w hw => ?_)
    rcases List.mem_append.mp hw with h1 | h1
    · exact fa3 w1 w2 w4 w h1
    · rcases List.mem_cons.mp h1 with rfl | h2
      · exact w5
      · exact h2
  · rw [hU]
    exact (GI.at hC hS).warm hW
/-- Object.<init> does nothing -/
theorem J_objInit {X : JX} {G : JG} {Q : State → Prop} {nL cs ss pc : Nat} {lv : List (Nat × Value)} {st : List Value} {S : HS} {own : String} {cc : ByteArray} {ret : Option FieldType} {fr lo mc ms idx a : Nat} (hC : JC X G own cc nL ret fr lo mc ms)
    (w1 : Cond.methodLink own idx objectInit ∈ wG) (w2 : Cond.instanceMethod objectInit ∈ wG) (w3 : Cond.code objectInit ⟨#[0xb1]⟩ 1 none ∈ wG) (hf : 1 ≤ fr) (hlo : (st.map fun v => v.category).sum + 12 ≤ lo) (d : decode cc pc = .ok (.invokespecial idx, 3))
    (kk : J X G Q nL cs ss (pc + 3) lv st S) : J X G Q nL cs ss pc lv (.ref a :: st) S := by
  intro H locs ls hR hS hl
  have hrm := hC.2.2.2.2.2.2.2.2.2
  refine W.objInit hC.1 hC.2.1 hC.2.2.2.1 (hC.w w1) (hC.w w2) (hC.w w3) rfl (by rw [hC.2.2.1]; exact hl.1) rfl d (by rw [hrm]; exact hf) (by rw [hrm]; show 2 * 0 + _ + 12 ≤ lo; omega) ?_
  refine W.eq (g2 := F0 _ (pc + 3) ls st) rfl ?_
  exact kk H locs ls hR hS hl
theorem JT_out {X : JX} {G : JG} {nL cs ss pc : Nat} {lv : List (Nat × Value)} {S : HS} {own : String} {cc : ByteArray} {ret : Option FieldType} {fr lo mc ms : Nat} {E : String} {R : Option Value → HS → Prop} {RX : String → HS → Prop} (hC : JC X G own cc nL ret fr lo mc ms) (hout : ∀ x ∈ (xc X).exceptionTable.toList, covers x pc = false)
    (h : RX E S) (h1 : cs ≤ mc) (h2 : ss ≤ ms) : JT X G (QQ X G R RX mc ms) nL cs ss pc lv S E := by
  intro H locs ls rest ce q hR hS hl hce hcv hcl
  exact vx_out hout hC.2.2.2.2.2.2.1 hce hcv hcl (fun t ht _ => ⟨⟨S, h, by rw [ht]; exact hR⟩, hS.F ht⟩) hS.2.2 h1 h2
theorem JT_catch {X : JX} {G : JG} {Q : State → Prop} {nL cs ss pc : Nat} {lv : List (Nat × Value)} {S : HS} {own : String} {cc : ByteArray} {ret : Option FieldType} {fr lo mc ms : Nat} {E name : String} (hC : JC X G own cc nL ret fr lo mc ms)
    (pre : List ExceptionTableEntry) (x : ExceptionTableEntry) (suf : List ExceptionTableEntry) (hsplit : (xc X).exceptionTable.toList = pre ++ x :: suf)
    (hpass : ∀ z ∈ pre, covers z pc = false ∨ (z.catchType ≠ 0 ∧ ∃ nm : String, Cond.classLink own z.catchType nm ∈ wG ∧ (E, nm) ∈ ncsG)) (hx : covers x pc = true) (h0 : x.catchType ≠ 0)
    (hlink : Cond.classLink own x.catchType name ∈ wG) (hcast : Cond.castable E name ∈ wN) (kk : ∀ q : Nat, J X G Q nL cs ss x.handlerPc lv [.ref q] S) : JT X G Q nL cs ss pc lv S E := by
  intro H locs ls rest ce q hR hS hl hce hcv hcl
  refine vx_catch hC.2.2.2.1 pre x suf hsplit (fun z hz => ?_) hx h0 (hC.w hlink) (va_Nw.use rfl (hC.2.2.2.2.2.1.2.1 _ hcast)) hce hcv hcl (kk q H locs ls hR hS hl)
  rcases hpass z hz with h | ⟨h9, nm, h1, h2⟩
  · exact Or.inl h
  · exact Or.inr ⟨h9, nm, hC.w h1, hC.2.2.2.2.2.1.2.2.1 _ h2⟩
theorem CtX.of {G : JG} {y : MethodName} {cc : ByteArray} {nL : Nat} {ret : Option FieldType} {hh : List (Nat × Nat × Nat × Nat)} {fr lo mc ms : Nat} {as : List Value} {S : HS} {R : Option Value → HS → Prop} {RX : String → HS → Prop} (hy : plainName y.cls = true) (hn : (lg_sl as).length ≤ nL)
    (body : ∀ X : JX, JC X G y.cls cc nL ret fr lo mc ms → (xc X).exceptionTable.toList = tableOf hh → J X G (QQ X G R RX mc ms) nL 0 0 0 (lv_args 0 as) [] S) : CtX G y cc nL ret hh fr lo mc ms as S R RX := by
  intro l hl
  refine vx_ofWH (cc := cc) (maxL := nL) (ret := ret) (hh := hh) hy rfl ?_
  intro p e s m args below meth c s₁ B hml hv
  obtain ⟨rfl, hG, hR⟩ := hv
  have hts := atoms_spec (ws := .codeWith y cc nL ret hh :: wG) B.pre
  have hown : s.vm.findClass y.cls = some m.cls := findClass_of_methodNamed B.named
  have K := body (p, l, e, jRm fr lo mc ms, s, m, as.toArray, below, meth, c) ⟨B.exec, B.bytes, hml, hown, fun w hw => hts w (List.mem_cons_of_mem _ hw), hG, B.notSynchronized, B.returns, hl, rfl⟩ (vx_table (x := y) B (hts _ List.mem_cons_self))
  rw [lg_entry_eq]
  exact K s.heap [] _ hR va_S.rf (lv_entry as hn)
def atOK (L : List Cond) : Bool := L.all (fun w => decide (w ∈ lw_tbl) && (goodWord w || nestish w) && vx_ot w)
theorem at_before {X : JX} {G : JG} {own : String} {cc : ByteArray} {ret : Option FieldType} {nL fr lo mc ms : Nat} (hC : JC X G own cc nL ret fr lo mc ms) {L : List Cond} (h : atOK L = true) : ∀ w ∈ L, w.before (xa X) (xs X) = true := by
  intro w hw
  have h1 := List.all_eq_true.mp h w hw
  simp only [Bool.and_eq_true, decide_eq_true_eq, Bool.or_eq_true] at h1
  obtain ⟨⟨h2, h3⟩, h4⟩ := h1
  rcases h3 with h3 | h3
  · exact hC.w (List.mem_filter.mpr ⟨h2, h3⟩)
  · exact va_Nw.use (by cases w <;> first | rfl | cases h3) (hC.2.2.2.2.2.1.2.1 _ (List.mem_filter.mpr ⟨h2, h3⟩))
theorem at_ot {L : List Cond} (h : atOK L = true) : ∀ w ∈ L, vx_ot w = true := by
  intro w hw
  have h1 := List.all_eq_true.mp h w hw
  simp only [Bool.and_eq_true] at h1
  exact h1.2
theorem XC_hx {X : JX} {G : JG} {E : String} {RX : String → HS → Prop} {S : HS} {H : Heap} {locs : List Loc} (h : RX E S) (hR : Rep G S H) (hS : va_S (gA G) (xs X).heap H locs) : ∀ t : State, (xs X).vm.Alike t.vm → H.size ≤ t.heap.size → (∀ q : Nat, q < H.size → t.heap[q]? = H[q]?) → jXC G RX E (xs X) t :=
  fun t _ hz hq => ⟨⟨S, h, hR.kept hq⟩, Nat.le_trans hS.1 hz, fun q h1 h2 => (hq q (Nat.lt_of_lt_of_le h1 hS.1)).trans (hS.2.1 q h1 h2)⟩
theorem J_throwS {X : JX} {G : JG} {nL cs ss pc : Nat} {lv : List (Nat × Value)} {st : List Value} {S : HS} {own : String} {cc : ByteArray} {ret : Option FieldType} {fr lo mc ms : Nat} {R : Option Value → HS → Prop} {RX : String → HS → Prop} (hC : JC X G own cc nL ret fr lo mc ms) (hT : noT X)
    {cls text : String} {names : List String} {ik is ic : Nat} (hcls : Bundle.fit cls = true) (hnames : ∀ n ∈ names, Bundle.fit n = true) (hk : Cond.classLink own ik cls ∈ wG) (hini : Cond.initialized cls ∈ wG) (hstr : (own, is, text) ∈ strG) (hat : atOK (vx_atS own ic cls names) = true)
    (d0 : decode cc pc = .ok (.new ik, 3)) (d3 : decode cc (pc + 3) = .ok (.dup, 1)) (d4 : decode cc (pc + 4) = .ok (.ldc is, 2)) (d6 : decode cc (pc + 6) = .ok (.invokespecial ic, 3)) (d9 : decode cc (pc + 9) = .ok (.athrow, 1))
    (hf : names.length + 3 < fr) (hlo : (st.map fun v => v.category).sum + (13 * (names.length + 1) + 43) ≤ lo) (h1 : cs + 1 ≤ mc) (h2 : ss + 6 ≤ ms) (h : RX cls S) : J X G (QQ X G R RX mc ms) nL cs ss pc lv st S := by
  intro H locs ls hR hS hl
  have hrm := hC.2.2.2.2.2.2.2.2.2
  have hg := hC.2.2.2.2.2.1
  obtain ⟨sa, hsa⟩ := hg.2.2.2.1 _ hstr
  refine vx_throwS (A := gA G) (names := names) hC.1 hC.2.1 hC.2.2.2.2.2.2.2.2.1 hC.2.2.2.1 hcls hnames (hC.w hk) (hC.w hini) hsa (at_before hC hat) ?_ hg.2.2.2.2.1 hg.2.2.2.2.2.1 hS (hl.1.trans hC.2.2.1.symm) d0 d3 d4 d6 d9 (fun x hx => (hT x hx).elim) (by rw [hrm]; exact hf) (by rw [hrm]; exact hlo) (by rw [hrm]; exact h1) (by rw [hrm]; exact h2) hC.2.2.2.2.2.2.1 (XC_hx h hR hS) hS.2.2 h1 h2
  intro w hw
  rcases List.mem_cons.mp hw with rfl | hw
  · rfl
  · rcases List.mem_cons.mp hw with rfl | hw
    · rfl
    · exact at_ot hat w hw
theorem J_throwSW {X : JX} {G : JG} {nL cs ss pc : Nat} {lv : List (Nat × Value)} {st : List Value} {S : HS} {own : String} {cc : ByteArray} {ret : Option FieldType} {fr lo mc ms : Nat} {R : Option Value → HS → Prop} {RX : String → HS → Prop} (hC : JC X G own cc nL ret fr lo mc ms) (hT : noT X)
    {cls text : String} {names : List String} {ik is ic : Nat} (hcls : Bundle.fit cls = true) (hnames : ∀ n ∈ names, Bundle.fit n = true) (hk : Cond.classLink own ik cls ∈ wG) (hini : Cond.initialized cls ∈ wG) (hstr : (own, is, text) ∈ strG) (hat : atOK (vx_atS own ic cls names) = true)
    (d0 : decode cc pc = .ok (.new ik, 3)) (d3 : decode cc (pc + 3) = .ok (.dup, 1)) (d4 : decode cc (pc + 4) = .ok (.ldc_w is, 3)) (d6 : decode cc (pc + 7) = .ok (.invokespecial ic, 3)) (d9 : decode cc (pc + 10) = .ok (.athrow, 1))
    (hf : names.length + 3 < fr) (hlo : (st.map fun v => v.category).sum + (13 * (names.length + 1) + 43) ≤ lo) (h1 : cs + 1 ≤ mc) (h2 : ss + 6 ≤ ms) (h : RX cls S) : J X G (QQ X G R RX mc ms) nL cs ss pc lv st S := by
  intro H locs ls hR hS hl
  have hrm := hC.2.2.2.2.2.2.2.2.2
  have hg := hC.2.2.2.2.2.1
  obtain ⟨sa, hsa⟩ := hg.2.2.2.1 _ hstr
  refine vx_throwSW (A := gA G) (names := names) hC.1 hC.2.1 hC.2.2.2.2.2.2.2.2.1 hC.2.2.2.1 hcls hnames (hC.w hk) (hC.w hini) hsa (at_before hC hat) ?_ hg.2.2.2.2.1 hg.2.2.2.2.2.1 hS (hl.1.trans hC.2.2.1.symm) d0 d3 d4 d6 d9 (fun x hx => (hT x hx).elim) (by rw [hrm]; exact hf) (by rw [hrm]; exact hlo) (by rw [hrm]; exact h1) (by rw [hrm]; exact h2) hC.2.2.2.2.2.2.1 (XC_hx h hR hS) hS.2.2 h1 h2
  intro w hw
  rcases List.mem_cons.mp hw with rfl | hw
  · rfl
  · rcases List.mem_cons.mp hw with rfl | hw
    · rfl
    · exact at_ot hat w hw
end
section
/-! what each instruction that links does, one row a link: printed by wip/whole/mklinks.py out of the claim's names and tables -/
theorem inwJx4a65c : ∀ w ∈ u_ws RJx4a65c TJx4a65c 3, w ∈ wG := by decide +kernel
theorem inwX0 : ∀ w ∈ u_ws RX0 TX0 3, w ∈ wG := by decide +kernel
theorem inwX1 : ∀ w ∈ u_ws RX1 TX1 8, w ∈ wG := by decide +kernel
theorem inwX2 : ∀ w ∈ u_ws RX2 TX2 5, w ∈ wG := by decide +kernel
theorem inwX3 : ∀ w ∈ u_ws RX3 TX3 4, w ∈ wG := by decide +kernel
theorem inwX4 : ∀ w ∈ u_ws RX4 TX4 12, w ∈ wG := by decide +kernel
theorem inwX5 : ∀ w ∈ u_ws RX5 TX5 8, w ∈ wG := by decide +kernel
theorem inwX6 : ∀ w ∈ u_ws RX6 TX6 26, w ∈ wG := by decide +kernel
theorem fg_X5_14 {X : JX} {G : JG} {Q : State → Prop} {nL cs ss pc : Nat} {lv : List (Nat × Value)} {st : List Value} {S : HS} {cc : ByteArray} {ret : Option FieldType} {fr lo mc ms : Nat} {a b : Nat} (hC : JC X G RX5 cc nL ret fr lo mc ms) (h : hK S a = 7) (hb : hP S 0 a = some b) (d : decode cc pc = .ok (.getfield 14, 3)) (k : J X G Q nL cs ss (pc + 3) lv (.ref b :: st) S) : J X G Q nL cs ss pc lv (.ref a :: st) S := J_get hC (ref := "SkyPlan") inwX5 (ci := 6) rfl 0 (by decide) (mG 165 (by decide +kernel) rfl) (fun _ h => h) h rfl (show some (va_rf (hP S 0 a)) = _ by rw [hb]; rfl) d k
theorem fp_X5_14 {X : JX} {G : JG} {Q : State → Prop} {nL cs ss pc : Nat} {lv : List (Nat × Value)} {st : List Value} {S : HS} {cc : ByteArray} {ret : Option FieldType} {fr lo mc ms : Nat} {a v : Nat} (hC : JC X G RX5 cc nL ret fr lo mc ms) (h : hK S a = 7) (d : decode cc pc = .ok (.putfield 14, 3)) (k : J X G Q nL cs ss (pc + 3) lv st (sP S 0 a (some v))) : J X G Q nL cs ss pc lv (.ref v :: .ref a :: st) S := J_put hC (ref := "SkyPlan") inwX5 tyX5 tyX5_ok nmX5 (ci := 6) rfl 0 (by decide) (mG 165 (by decide +kernel) rfl) (fun _ h => h) rfl (ty := (tyX5 0)) rfl rfl rfl h rfl (by simp) (by rw [hob_of (show hK (sP S 0 a (some v)) a = 7 from h)]; simp [hsh, hI_sI, hP_sI, hN_sI, hI_sP, hP_sP, hN_sP, va_rf]) (fun b hb => hob_sP hb) d k
theorem fg_X5_20 {X : JX} {G : JG} {Q : State → Prop} {nL cs ss pc : Nat} {lv : List (Nat × Value)} {st : List Value} {S : HS} {cc : ByteArray} {ret : Option FieldType} {fr lo mc ms : Nat} {a b : Nat} (hC : JC X G RX5 cc nL ret fr lo mc ms) (h : hK S a = 7) (hb : hP S 1 a = some b) (d : decode cc pc = .ok (.getfield 20, 3)) (k : J X G Q nL cs ss (pc + 3) lv (.ref b :: st) S) : J X G Q nL cs ss pc lv (.ref a :: st) S := J_get hC (ref := "SkyPlan") inwX5 (ci := 6) rfl 1 (by decide) (mG 166 (by decide +kernel) rfl) (fun _ h => h) h rfl (show some (va_rf (hP S 1 a)) = _ by rw [hb]; rfl) d k
theorem fp_X5_20 {X : JX} {G : JG} {Q : State → Prop} {nL cs ss pc : Nat} {lv : List (Nat × Value)} {st : List Value} {S : HS} {cc : ByteArray} {ret : Option FieldType} {fr lo mc ms : Nat} {a v : Nat} (hC : JC X G RX5 cc nL ret fr lo mc ms) (h : hK S a = 7) (d : decode cc pc = .ok (.putfield 20, 3)) (k : J X G Q nL cs ss (pc + 3) lv st (sP S 1 a (some v))) : J X G Q nL cs ss pc lv (.ref v :: .ref a :: st) S := J_put hC (ref := "SkyPlan") inwX5 tyX5 tyX5_ok nmX5 (ci := 6) rfl 1 (by decide) (mG 166 (by decide +kernel) rfl) (fun _ h => h) rfl (ty := (tyX5 1)) rfl rfl rfl h rfl (by simp) (by rw [hob_of (show hK (sP S 1 a (some v)) a = 7 from h)]; simp [hsh, hI_sI, hP_sI, hN_sI, hI_sP, hP_sP, hN_sP, va_rf]) (fun b hb => hob_sP hb) d k
theorem fg_X5_23 {X : JX} {G : JG} {Q : State → Prop} {nL cs ss pc : Nat} {lv : List (Nat × Value)} {st : List Value} {S : HS} {cc : ByteArray} {ret : Option FieldType} {fr lo mc ms : Nat} {a : Nat} (hC : JC X G RX5 cc nL ret fr lo mc ms) (h : hK S a = 7) (d : decode cc pc = .ok (.getfield 23, 3)) (k : J X G Q nL cs ss (pc + 3) lv (.int (hI S 3 a) :: st) S) : J X G Q nL cs ss pc lv (.ref a :: st) S := J_get hC (ref := "SkyPlan") inwX5 (ci := 6) rfl 3 (by decide) (mG 168 (by decide +kernel) rfl) (fun _ h => h) h rfl rfl d k
theorem fp_X5_23 {X : JX} {G : JG} {Q : State → Prop} {nL cs ss pc : Nat} {lv : List (Nat × Value)} {st : List Value} {S : HS} {cc : ByteArray} {ret : Option FieldType} {fr lo mc ms : Nat} {a : Nat} {v : Int32} (hC : JC X G RX5 cc nL ret fr lo mc ms) (h : hK S a = 7) (d : decode cc pc = .ok (.putfield 23, 3)) (k : J X G Q nL cs ss (pc + 3) lv st (sI S 3 a v)) : J X G Q nL cs ss pc lv (.int v :: .ref a :: st) S := J_put hC (ref := "SkyPlan") inwX5 tyX5 tyX5_ok nmX5 (ci := 6) rfl 3 (by decide) (mG 168 (by decide +kernel) rfl) (fun _ h => h) rfl (ty := .int) rfl rfl rfl h rfl (by simp) (by rw [hob_of (show hK (sI S 3 a v) a = 7 from h)]; simp [hsh, hI_sI, hP_sI, hN_sI, hI_sP, hP_sP, hN_sP, va_rf]) (fun b hb => hob_sI hb) d k
theorem fg_X5_30 {X : JX} {G : JG} {Q : State → Prop} {nL cs ss pc : Nat} {lv : List (Nat × Value)} {st : List Value} {S : HS} {cc : ByteArray} {ret : Option FieldType} {fr lo mc ms : Nat} {a b : Nat} (hC : JC X G RX5 cc nL ret fr lo mc ms) (h : hK S a = 7) (hb : hP S 5 a = some b) (d : decode cc pc = .ok (.getfield 30, 3)) (k : J X G Q nL cs ss (pc + 3) lv (.ref b :: st) S) : J X G Q nL cs ss pc lv (.ref a :: st) S := J_get hC (ref := "SkyPlan") inwX5 (ci := 6) rfl 5 (by decide) (mG 170 (by decide +kernel) rfl) (fun _ h => h) h rfl (show some (va_rf (hP S 5 a)) = _ by rw [hb]; rfl) d k
theorem fp_X5_30 {X : JX} {G : JG} {Q : State → Prop} {nL cs ss pc : Nat} {lv : List (Nat × Value)} {st : List Value} {S : HS} {cc : ByteArray} {ret : Option FieldType} {fr lo mc ms : Nat} {a v : Nat} (hC : JC X G RX5 cc nL ret fr lo mc ms) (hin2 : (xt X).name = "<init>") (h : hK S a = 7) (d : decode cc pc = .ok (.putfield 30, 3)) (k : J X G Q nL cs ss (pc + 3) lv st (sP S 5 a (some v))) : J X G Q nL cs ss pc lv (.ref v :: .ref a :: st) S := J_putF hC hin2 (ref := "SkyPlan") inwX5 tyX5 tyX5_ok nmX5 (ci := 6) rfl 5 (by decide) (mG 170 (by decide +kernel) rfl) (fun _ h => h) rfl rfl (ty := (tyX5 5)) rfl rfl rfl h rfl (by simp) (by rw [hob_of (show hK (sP S 5 a (some v)) a = 7 from h)]; simp [hsh, hI_sI, hP_sI, hN_sI, hI_sP, hP_sP, hN_sP, va_rf]) (fun b hb => hob_sP hb) d k
theorem fg_X5_37 {X : JX} {G : JG} {Q : State → Prop} {nL cs ss pc : Nat} {lv : List (Nat × Value)} {st : List Value} {S : HS} {cc : ByteArray} {ret : Option FieldType} {fr lo mc ms : Nat} {a b : Nat} (hC : JC X G RX5 cc nL ret fr lo mc ms) (h : hK S a = 7) (hb : hP S 6 a = some b) (d : decode cc pc = .ok (.getfield 37, 3)) (k : J X G Q nL cs ss (pc + 3) lv (.ref b :: st) S) : J X G Q nL cs ss pc lv (.ref a :: st) S := J_get hC (ref := "SkyPlan") inwX5 (ci := 6) rfl 6 (by decide) (mG 171 (by decide +kernel) rfl) (fun _ h => h) h rfl (show some (va_rf (hP S 6 a)) = _ by rw [hb]; rfl) d k
theorem fp_X5_37 {X : JX} {G : JG} {Q : State → Prop} {nL cs ss pc : Nat} {lv : List (Nat × Value)} {st : List Value} {S : HS} {cc : ByteArray} {ret : Option FieldType} {fr lo mc ms : Nat} {a v : Nat} (hC : JC X G RX5 cc nL ret fr lo mc ms) (hin2 : (xt X).name = "<init>") (h : hK S a = 7) (d : decode cc pc = .ok (.putfield 37, 3)) (k : J X G Q nL cs ss (pc + 3) lv st (sP S 6 a (some v))) : J X G Q nL cs ss pc lv (.ref v :: .ref a :: st) S := J_putF hC hin2 (ref := "SkyPlan") inwX5 tyX5 tyX5_ok nmX5 (ci := 6) rfl 6 (by decide) (mG 171 (by decide +kernel) rfl) (fun _ h => h) rfl rfl (ty := (tyX5 6)) rfl rfl rfl h rfl (by simp) (by rw [hob_of (show hK (sP S 6 a (some v)) a = 7 from h)]; simp [hsh, hI_sI, hP_sI, hN_sI, hI_sP, hP_sP, hN_sP, va_rf]) (fun b hb => hob_sP hb) d k
theorem fg_X5_44 {X : JX} {G : JG} {Q : State → Prop} {nL cs ss pc : Nat} {lv : List (Nat × Value)} {st : List Value} {S : HS} {cc : ByteArray} {ret : Option FieldType} {fr lo mc ms : Nat} {a b : Nat} (hC : JC X G RX5 cc nL ret fr lo mc ms) (h : hK S a = 7) (hb : hP S 7 a = some b) (d : decode cc pc = .ok (.getfield 44, 3)) (k : J X G Q nL cs ss (pc + 3) lv (.ref b :: st) S) : J X G Q nL cs ss pc lv (.ref a :: st) S := J_get hC (ref := "SkyPlan") inwX5 (ci := 6) rfl 7 (by decide) (mG 172 (by decide +kernel) rfl) (fun _ h => h) h rfl (show some (va_rf (hP S 7 a)) = _ by rw [hb]; rfl) d k
theorem fp_X5_44 {X : JX} {G : JG} {Q : State → Prop} {nL cs ss pc : Nat} {lv : List (Nat × Value)} {st : List Value} {S : HS} {cc : ByteArray} {ret : Option FieldType} {fr lo mc ms : Nat} {a v : Nat} (hC : JC X G RX5 cc nL ret fr lo mc ms) (hin2 : (xt X).name = "<init>") (h : hK S a = 7) (d : decode cc pc = .ok (.putfield 44, 3)) (k : J X G Q nL cs ss (pc + 3) lv st (sP S 7 a (some v))) : J X G Q nL cs ss pc lv (.ref v :: .ref a :: st) S := J_putF hC hin2 (ref := "SkyPlan") inwX5 tyX5 tyX5_ok nmX5 (ci := 6) rfl 7 (by decide) (mG 172 (by decide +kernel) rfl) (fun _ h => h) rfl rfl (ty := (tyX5 7)) rfl rfl rfl h rfl (by simp) (by rw [hob_of (show hK (sP S 7 a (some v)) a = 7 from h)]; simp [hsh, hI_sI, hP_sI, hN_sI, hI_sP, hP_sP, hN_sP, va_rf]) (fun b hb => hob_sP hb) d k
theorem fg_X5_59 {X : JX} {G : JG} {Q : State → Prop} {nL cs ss pc : Nat} {lv : List (Nat × Value)} {st : List Value} {S : HS} {cc : ByteArray} {ret : Option FieldType} {fr lo mc ms : Nat} {a : Nat} (hC : JC X G RX5 cc nL ret fr lo mc ms) (h : hK S a = 5) (d : decode cc pc = .ok (.getfield 59, 3)) (k : J X G Q nL cs ss (pc + 3) lv (.int (hI S 1 a) :: st) S) : J X G Q nL cs ss pc lv (.ref a :: st) S := J_get hC (ref := "SkyPlan$Point") inwX3 (ci := 4) rfl 1 (by decide) (mG 79 (by decide +kernel) rfl) (fun _ h => h) h rfl rfl d k
theorem fg_X5_73 {X : JX} {G : JG} {Q : State → Prop} {nL cs ss pc : Nat} {lv : List (Nat × Value)} {st : List Value} {S : HS} {cc : ByteArray} {ret : Option FieldType} {fr lo mc ms : Nat} {a : Nat} (hC : JC X G RX5 cc nL ret fr lo mc ms) (h : hK S a = 7) (d : decode cc pc = .ok (.getfield 73, 3)) (k : J X G Q nL cs ss (pc + 3) lv (.int (hI S 2 a) :: st) S) : J X G Q nL cs ss pc lv (.ref a :: st) S := J_get hC (ref := "SkyPlan") inwX5 (ci := 6) rfl 2 (by decide) (mG 167 (by decide +kernel) rfl) (fun _ h => h) h rfl rfl d k
theorem fp_X5_73 {X : JX} {G : JG} {Q : State → Prop} {nL cs ss pc : Nat} {lv : List (Nat × Value)} {st : List Value} {S : HS} {cc : ByteArray} {ret : Option FieldType} {fr lo mc ms : Nat} {a : Nat} {v : Int32} (hC : JC X G RX5 cc nL ret fr lo mc ms) (h : hK S a = 7) (d : decode cc pc = .ok (.putfield 73, 3)) (k : J X G Q nL cs ss (pc + 3) lv st (sI S 2 a v)) : J X G Q nL cs ss pc lv (.int v :: .ref a :: st) S := J_put hC (ref := "SkyPlan") inwX5 tyX5 tyX5_ok nmX5 (ci := 6) rfl 2 (by decide) (mG 167 (by decide +kernel) rfl) (fun _ h => h) rfl (ty := .int) rfl rfl rfl h rfl (by simp) (by rw [hob_of (show hK (sI S 2 a v) a = 7 from h)]; simp [hsh, hI_sI, hP_sI, hN_sI, hI_sP, hP_sP, hN_sP, va_rf]) (fun b hb => hob_sI hb) d k
theorem fg_X5_82 {X : JX} {G : JG} {Q : State → Prop} {nL cs ss pc : Nat} {lv : List (Nat × Value)} {st : List Value} {S : HS} {cc : ByteArray} {ret : Option FieldType} {fr lo mc ms : Nat} {a : Nat} (hC : JC X G RX5 cc nL ret fr lo mc ms) (h : hK S a = 2) (d : decode cc pc = .ok (.getfield 82, 3)) (k : J X G Q nL cs ss (pc + 3) lv (.int (hI S 2 a) :: st) S) : J X G Q nL cs ss pc lv (.ref a :: st) S := J_get hC (ref := "SkyPlan$Clouds") inwX0 (ci := 1) rfl 2 (by decide) (mG 103 (by decide +kernel) rfl) (fun _ h => h) h rfl rfl d k
theorem fp_X5_82 {X : JX} {G : JG} {Q : State → Prop} {nL cs ss pc : Nat} {lv : List (Nat × Value)} {st : List Value} {S : HS} {cc : ByteArray} {ret : Option FieldType} {fr lo mc ms : Nat} {a : Nat} {v : Int32} (hC : JC X G RX5 cc nL ret fr lo mc ms) (h : hK S a = 2) (d : decode cc pc = .ok (.putfield 82, 3)) (k : J X G Q nL cs ss (pc + 3) lv st (sI S 2 a v)) : J X G Q nL cs ss pc lv (.int v :: .ref a :: st) S := J_put hC (ref := "SkyPlan$Clouds") inwX0 tyX0 tyX0_ok nmX0 (ci := 1) rfl 2 (by decide) (mG 103 (by decide +kernel) rfl) (fun _ h => h) rfl (ty := .int) rfl rfl rfl h rfl (by simp) (by rw [hob_of (show hK (sI S 2 a v) a = 2 from h)]; simp [hsh, hI_sI, hP_sI, hN_sI, hI_sP, hP_sP, hN_sP, va_rf]) (fun b hb => hob_sI hb) d k
theorem fg_X5_118 {X : JX} {G : JG} {Q : State → Prop} {nL cs ss pc : Nat} {lv : List (Nat × Value)} {st : List Value} {S : HS} {cc : ByteArray} {ret : Option FieldType} {fr lo mc ms : Nat} {a : Nat} (hC : JC X G RX5 cc nL ret fr lo mc ms) (h : hK S a = 4) (d : decode cc pc = .ok (.getfield 118, 3)) (k : J X G Q nL cs ss (pc + 3) lv (.int (hI S 1 a) :: st) S) : J X G Q nL cs ss pc lv (.ref a :: st) S := J_get hC (ref := "SkyPlan$Plan") inwX2 (ci := 3) rfl 1 (by decide) (mG 148 (by decide +kernel) rfl) (fun _ h => h) h rfl rfl d k
theorem fp_X5_118 {X : JX} {G : JG} {Q : State → Prop} {nL cs ss pc : Nat} {lv : List (Nat × Value)} {st : List Value} {S : HS} {cc : ByteArray} {ret : Option FieldType} {fr lo mc ms : Nat} {a : Nat} {v : Int32} (hC : JC X G RX5 cc nL ret fr lo mc ms) (h : hK S a = 4) (hn : narrow .boolean (.int v) = .int v ∧ fits .boolean (.int v) = true) (d : decode cc pc = .ok (.putfield 118, 3)) (k : J X G Q nL cs ss (pc + 3) lv st (sI S 1 a v)) : J X G Q nL cs ss pc lv (.int v :: .ref a :: st) S := J_put hC (ref := "SkyPlan$Plan") inwX2 tyX2 tyX2_ok nmX2 (ci := 3) rfl 1 (by decide) (mG 148 (by decide +kernel) rfl) (fun _ h => h) rfl (ty := .boolean) rfl hn.1 hn.2 h rfl (by simp) (by rw [hob_of (show hK (sI S 1 a v) a = 4 from h)]; simp [hsh, hI_sI, hP_sI, hN_sI, hI_sP, hP_sP, hN_sP, va_rf]) (fun b hb => hob_sI hb) d k
theorem fg_X5_128 {X : JX} {G : JG} {Q : State → Prop} {nL cs ss pc : Nat} {lv : List (Nat × Value)} {st : List Value} {S : HS} {cc : ByteArray} {ret : Option FieldType} {fr lo mc ms : Nat} {a : Nat} (hC : JC X G RX5 cc nL ret fr lo mc ms) (h : hK S a = 6) (d : decode cc pc = .ok (.getfield 128, 3)) (k : J X G Q nL cs ss (pc + 3) lv (.int (hI S 7 a) :: st) S) : J X G Q nL cs ss pc lv (.ref a :: st) S := J_get hC (ref := "SkyPlan$Target") inwX4 (ci := 5) rfl 7 (by decide) (mG 538 (by decide +kernel) rfl) (fun _ h => h) h rfl rfl d k
theorem fp_X5_128 {X : JX} {G : JG} {Q : State → Prop} {nL cs ss pc : Nat} {lv : List (Nat × Value)} {st : List Value} {S : HS} {cc : ByteArray} {ret : Option FieldType} {fr lo mc ms : Nat} {a : Nat} {v : Int32} (hC : JC X G RX5 cc nL ret fr lo mc ms) (h : hK S a = 6) (d : decode cc pc = .ok (.putfield 128, 3)) (k : J X G Q nL cs ss (pc + 3) lv st (sI S 7 a v)) : J X G Q nL cs ss pc lv (.int v :: .ref a :: st) S := J_put hC (ref := "SkyPlan$Target") inwX4 tyX4 tyX4_ok nmX4 (ci := 5) rfl 7 (by decide) (mG 538 (by decide +kernel) rfl) (fun _ h => h) rfl (ty := .int) rfl rfl rfl h rfl (by simp) (by rw [hob_of (show hK (sI S 7 a v) a = 6 from h)]; simp [hsh, hI_sI, hP_sI, hN_sI, hI_sP, hP_sP, hN_sP, va_rf]) (fun b hb => hob_sI hb) d k
theorem fg_X5_131 {X : JX} {G : JG} {Q : State → Prop} {nL cs ss pc : Nat} {lv : List (Nat × Value)} {st : List Value} {S : HS} {cc : ByteArray} {ret : Option FieldType} {fr lo mc ms : Nat} {a : Nat} (hC : JC X G RX5 cc nL ret fr lo mc ms) (h : hK S a = 6) (d : decode cc pc = .ok (.getfield 131, 3)) (k : J X G Q nL cs ss (pc + 3) lv (.int (hI S 6 a) :: st) S) : J X G Q nL cs ss pc lv (.ref a :: st) S := J_get hC (ref := "SkyPlan$Target") inwX4 (ci := 5) rfl 6 (by decide) (mG 536 (by decide +kernel) rfl) (fun _ h => h) h rfl rfl d k
theorem fp_X5_131 {X : JX} {G : JG} {Q : State → Prop} {nL cs ss pc : Nat} {lv : List (Nat × Value)} {st : List Value} {S : HS} {cc : ByteArray} {ret : Option FieldType} {fr lo mc ms : Nat} {a : Nat} {v : Int32} (hC : JC X G RX5 cc nL ret fr lo mc ms) (h : hK S a = 6) (d : decode cc pc = .ok (.putfield 131, 3)) (k : J X G Q nL cs ss (pc + 3) lv st (sI S 6 a v)) : J X G Q nL cs ss pc lv (.int v :: .ref a :: st) S := J_put hC (ref := "SkyPlan$Target") inwX4 tyX4 tyX4_ok nmX4 (ci := 5) rfl 6 (by decide) (mG 536 (by decide +kernel) rfl) (fun _ h => h) rfl (ty := .int) rfl rfl rfl h rfl (by simp) (by rw [hob_of (show hK (sI S 6 a v) a = 6 from h)]; simp [hsh, hI_sI, hP_sI, hN_sI, hI_sP, hP_sP, hN_sP, va_rf]) (fun b hb => hob_sI hb) d k
theorem fp_X5_134 {X : JX} {G : JG} {Q : State → Prop} {nL cs ss pc : Nat} {lv : List (Nat × Value)} {st : List Value} {S : HS} {cc : ByteArray} {ret : Option FieldType} {fr lo mc ms : Nat} {a : Nat} {v : Int32} (hC : JC X G RX5 cc nL ret fr lo mc ms) (h : hK S a = 6) (d : decode cc pc = .ok (.putfield 134, 3)) (k : J X G Q nL cs ss (pc + 3) lv st (sI S 8 a v)) : J X G Q nL cs ss pc lv (.int v :: .ref a :: st) S := J_put hC (ref := "SkyPlan$Target") inwX4 tyX4 tyX4_ok nmX4 (ci := 5) rfl 8 (by decide) (mG 540 (by decide +kernel) rfl) (fun _ h => h) rfl (ty := .int) rfl rfl rfl h rfl (by simp) (by rw [hob_of (show hK (sI S 8 a v) a = 6 from h)]; simp [hsh, hI_sI, hP_sI, hN_sI, hI_sP, hP_sP, hN_sP, va_rf]) (fun b hb => hob_sI hb) d k
theorem fg_X5_137 {X : JX} {G : JG} {Q : State → Prop} {nL cs ss pc : Nat} {lv : List (Nat × Value)} {st : List Value} {S : HS} {cc : ByteArray} {ret : Option FieldType} {fr lo mc ms : Nat} {a b : Nat} (hC : JC X G RX5 cc nL ret fr lo mc ms) (h : hK S a = 6) (hb : hP S 5 a = some b) (d : decode cc pc = .ok (.getfield 137, 3)) (k : J X G Q nL cs ss (pc + 3) lv (.ref b :: st) S) : J X G Q nL cs ss pc lv (.ref a :: st) S := J_get hC (ref := "SkyPlan$Target") inwX4 (ci := 5) rfl 5 (by decide) (mG 534 (by decide +kernel) rfl) (fun _ h => h) h rfl (show some (va_rf (hP S 5 a)) = _ by rw [hb]; rfl) d k
theorem fg_X5_141 {X : JX} {G : JG} {Q : State → Prop} {nL cs ss pc : Nat} {lv : List (Nat × Value)} {st : List Value} {S : HS} {cc : ByteArray} {ret : Option FieldType} {fr lo mc ms : Nat} {a : Nat} (hC : JC X G RX5 cc nL ret fr lo mc ms) (h : hK S a = 3) (d : decode cc pc = .ok (.getfield 141, 3)) (k : J X G Q nL cs ss (pc + 3) lv (.int (hI S 1 a) :: st) S) : J X G Q nL cs ss pc lv (.ref a :: st) S := J_get hC (ref := "SkyPlan$Outlook") inwX1 (ci := 2) rfl 1 (by decide) (mG 497 (by decide +kernel) rfl) (fun _ h => h) h rfl rfl d k
theorem fp_X5_141 {X : JX} {G : JG} {Q : State → Prop} {nL cs ss pc : Nat} {lv : List (Nat × Value)} {st : List Value} {S : HS} {cc : ByteArray} {ret : Option FieldType} {fr lo mc ms : Nat} {a : Nat} {v : Int32} (hC : JC X G RX5 cc nL ret fr lo mc ms) (h : hK S a = 3) (hn : narrow .boolean (.int v) = .int v ∧ fits .boolean (.int v) = true) (d : decode cc pc = .ok (.putfield 141, 3)) (k : J X G Q nL cs ss (pc + 3) lv st (sI S 1 a v)) : J X G Q nL cs ss pc lv (.int v :: .ref a :: st) S := J_put hC (ref := "SkyPlan$Outlook") inwX1 tyX1 tyX1_ok nmX1 (ci := 2) rfl 1 (by decide) (mG 497 (by decide +kernel) rfl) (fun _ h => h) rfl (ty := .boolean) rfl hn.1 hn.2 h rfl (by simp) (by rw [hob_of (show hK (sI S 1 a v) a = 3 from h)]; simp [hsh, hI_sI, hP_sI, hN_sI, hI_sP, hP_sP, hN_sP, va_rf]) (fun b hb => hob_sI hb) d k
theorem fg_X5_154 {X : JX} {G : JG} {Q : State → Prop} {nL cs ss pc : Nat} {lv : List (Nat × Value)} {st : List Value} {S : HS} {cc : ByteArray} {ret : Option FieldType} {fr lo mc ms : Nat} {a b : Nat} (hC : JC X G RX5 cc nL ret fr lo mc ms) (h : hK S a = 6) (hb : hP S 1 a = some b) (d : decode cc pc = .ok (.getfield 154, 3)) (k : J X G Q nL cs ss (pc + 3) lv (.ref b :: st) S) : J X G Q nL cs ss pc lv (.ref a :: st) S := J_get hC (ref := "SkyPlan$Target") inwX4 (ci := 5) rfl 1 (by decide) (mG 525 (by decide +kernel) rfl) (fun _ h => h) h rfl (show some (va_rf (hP S 1 a)) = _ by rw [hb]; rfl) d k
theorem fg_X5_174 {X : JX} {G : JG} {Q : State → Prop} {nL cs ss pc : Nat} {lv : List (Nat × Value)} {st : List Value} {S : HS} {cc : ByteArray} {ret : Option FieldType} {fr lo mc ms : Nat} {a : Nat} (hC : JC X G RX5 cc nL ret fr lo mc ms) (h : hK S a = 7) (d : decode cc pc = .ok (.getfield 174, 3)) (k : J X G Q nL cs ss (pc + 3) lv (.int (hI S 4 a) :: st) S) : J X G Q nL cs ss pc lv (.ref a :: st) S := J_get hC (ref := "SkyPlan") inwX5 (ci := 6) rfl 4 (by decide) (mG 169 (by decide +kernel) rfl) (fun _ h => h) h rfl rfl d k
theorem fp_X5_174 {X : JX} {G : JG} {Q : State → Prop} {nL cs ss pc : Nat} {lv : List (Nat × Value)} {st : List Value} {S : HS} {cc : ByteArray} {ret : Option FieldType} {fr lo mc ms : Nat} {a : Nat} {v : Int32} (hC : JC X G RX5 cc nL ret fr lo mc ms) (h : hK S a = 7) (d : decode cc pc = .ok (.putfield 174, 3)) (k : J X G Q nL cs ss (pc + 3) lv st (sI S 4 a v)) : J X G Q nL cs ss pc lv (.int v :: .ref a :: st) S := J_put hC (ref := "SkyPlan") inwX5 tyX5 tyX5_ok nmX5 (ci := 6) rfl 4 (by decide) (mG 169 (by decide +kernel) rfl) (fun _ h => h) rfl (ty := .int) rfl rfl rfl h rfl (by simp) (by rw [hob_of (show hK (sI S 4 a v) a = 7 from h)]; simp [hsh, hI_sI, hP_sI, hN_sI, hI_sP, hP_sP, hN_sP, va_rf]) (fun b hb => hob_sI hb) d k
theorem fg_X5_192 {X : JX} {G : JG} {Q : State → Prop} {nL cs ss pc : Nat} {lv : List (Nat × Value)} {st : List Value} {S : HS} {cc : ByteArray} {ret : Option FieldType} {fr lo mc ms : Nat} {a : Nat} (hC : JC X G RX5 cc nL ret fr lo mc ms) (h : hK S a = 4) (d : decode cc pc = .ok (.getfield 192, 3)) (k : J X G Q nL cs ss (pc + 3) lv (.int (hI S 2 a) :: st) S) : J X G Q nL cs ss pc lv (.ref a :: st) S := J_get hC (ref := "SkyPlan$Plan") inwX2 (ci := 3) rfl 2 (by decide) (mG 150 (by decide +kernel) rfl) (fun _ h => h) h rfl rfl d k
theorem fg_X5_199 {X : JX} {G : JG} {Q : State → Prop} {nL cs ss pc : Nat} {lv : List (Nat × Value)} {st : List Value} {S : HS} {cc : ByteArray} {ret : Option FieldType} {fr lo mc ms : Nat} {a b : Nat} (hC : JC X G RX5 cc nL ret fr lo mc ms) (h : hK S a = 4) (hb : hP S 0 a = some b) (d : decode cc pc = .ok (.getfield 199, 3)) (k : J X G Q nL cs ss (pc + 3) lv (.ref b :: st) S) : J X G Q nL cs ss pc lv (.ref a :: st) S := J_get hC (ref := "SkyPlan$Plan") inwX2 (ci := 3) rfl 0 (by decide) (mG 147 (by decide +kernel) rfl) (fun _ h => h) h rfl (show some (va_rf (hP S 0 a)) = _ by rw [hb]; rfl) d k
theorem fg_X5_203 {X : JX} {G : JG} {Q : State → Prop} {nL cs ss pc : Nat} {lv : List (Nat × Value)} {st : List Value} {S : HS} {cc : ByteArray} {ret : Option FieldType} {fr lo mc ms : Nat} {a : Nat} (hC : JC X G RX5 cc nL ret fr lo mc ms) (h : hK S a = 4) (d : decode cc pc = .ok (.getfield 203, 3)) (k : J X G Q nL cs ss (pc + 3) lv (.int (hI S 3 a) :: st) S) : J X G Q nL cs ss pc lv (.ref a :: st) S := J_get hC (ref := "SkyPlan$Plan") inwX2 (ci := 3) rfl 3 (by decide) (mG 152 (by decide +kernel) rfl) (fun _ h => h) h rfl rfl d k
theorem fg_X5_222 {X : JX} {G : JG} {Q : State → Prop} {nL cs ss pc : Nat} {lv : List (Nat × Value)} {st : List Value} {S : HS} {cc : ByteArray} {ret : Option FieldType} {fr lo mc ms : Nat} {a : Nat} (hC : JC X G RX5 cc nL ret fr lo mc ms) (h : hK S a = 5) (d : decode cc pc = .ok (.getfield 222, 3)) (k : J X G Q nL cs ss (pc + 3) lv (.int (hI S 0 a) :: st) S) : J X G Q nL cs ss pc lv (.ref a :: st) S := J_get hC (ref := "SkyPlan$Point") inwX3 (ci := 4) rfl 0 (by decide) (mG 77 (by decide +kernel) rfl) (fun _ h => h) h rfl rfl d k
theorem fg_X5_239 {X : JX} {G : JG} {Q : State → Prop} {nL cs ss pc : Nat} {lv : List (Nat × Value)} {st : List Value} {S : HS} {cc : ByteArray} {ret : Option FieldType} {fr lo mc ms : Nat} {a : Nat} (hC : JC X G RX5 cc nL ret fr lo mc ms) (h : hK S a = 5) (d : decode cc pc = .ok (.getfield 239, 3)) (k : J X G Q nL cs ss (pc + 3) lv (.int (hI S 2 a) :: st) S) : J X G Q nL cs ss pc lv (.ref a :: st) S := J_get hC (ref := "SkyPlan$Point") inwX3 (ci := 4) rfl 2 (by decide) (mG 82 (by decide +kernel) rfl) (fun _ h => h) h rfl rfl d k
theorem fg_X5_242 {X : JX} {G : JG} {Q : State → Prop} {nL cs ss pc : Nat} {lv : List (Nat × Value)} {st : List Value} {S : HS} {cc : ByteArray} {ret : Option FieldType} {fr lo mc ms : Nat} {a : Nat} (hC : JC X G RX5 cc nL ret fr lo mc ms) (h : hK S a = 5) (d : decode cc pc = .ok (.getfield 242, 3)) (k : J X G Q nL cs ss (pc + 3) lv (.int (hI S 3 a) :: st) S) : J X G Q nL cs ss pc lv (.ref a :: st) S := J_get hC (ref := "SkyPlan$Point") inwX3 (ci := 4) rfl 3 (by decide) (mG 84 (by decide +kernel) rfl) (fun _ h => h) h rfl rfl d k
theorem fg_X5_263 {X : JX} {G : JG} {Q : State → Prop} {nL cs ss pc : Nat} {lv : List (Nat × Value)} {st : List Value} {S : HS} {cc : ByteArray} {ret : Option FieldType} {fr lo mc ms : Nat} {a : Nat} (hC : JC X G RX5 cc nL ret fr lo mc ms) (h : hK S a = 6) (d : decode cc pc = .ok (.getfield 263, 3)) (k : J X G Q nL cs ss (pc + 3) lv (.int (hI S 4 a) :: st) S) : J X G Q nL cs ss pc lv (.ref a :: st) S := J_get hC (ref := "SkyPlan$Target") inwX4 (ci := 5) rfl 4 (by decide) (mG 532 (by decide +kernel) rfl) (fun _ h => h) h rfl rfl d k
theorem fg_X5_268 {X : JX} {G : JG} {Q : State → Prop} {nL cs ss pc : Nat} {lv : List (Nat × Value)} {st : List Value} {S : HS} {cc : ByteArray} {ret : Option FieldType} {fr lo mc ms : Nat} {a : Nat} (hC : JC X G RX5 cc nL ret fr lo mc ms) (h : hK S a = 6) (d : decode cc pc = .ok (.getfield 268, 3)) (k : J X G Q nL cs ss (pc + 3) lv (.int (hI S 9 a) :: st) S) : J X G Q nL cs ss pc lv (.ref a :: st) S := J_get hC (ref := "SkyPlan$Target") inwX4 (ci := 5) rfl 9 (by decide) (mG 542 (by decide +kernel) rfl) (fun _ h => h) h rfl rfl d k
theorem fg_X5_272 {X : JX} {G : JG} {Q : State → Prop} {nL cs ss pc : Nat} {lv : List (Nat × Value)} {st : List Value} {S : HS} {cc : ByteArray} {ret : Option FieldType} {fr lo mc ms : Nat} {a : Nat} (hC : JC X G RX5 cc nL ret fr lo mc ms) (h : hK S a = 6) (d : decode cc pc = .ok (.getfield 272, 3)) (k : J X G Q nL cs ss (pc + 3) lv (.int (hI S 11 a) :: st) S) : J X G Q nL cs ss pc lv (.ref a :: st) S := J_get hC (ref := "SkyPlan$Target") inwX4 (ci := 5) rfl 11 (by decide) (mG 546 (by decide +kernel) rfl) (fun _ h => h) h rfl rfl d k
theorem fp_X5_272 {X : JX} {G : JG} {Q : State → Prop} {nL cs ss pc : Nat} {lv : List (Nat × Value)} {st : List Value} {S : HS} {cc : ByteArray} {ret : Option FieldType} {fr lo mc ms : Nat} {a : Nat} {v : Int32} (hC : JC X G RX5 cc nL ret fr lo mc ms) (h : hK S a = 6) (hn : narrow .boolean (.int v) = .int v ∧ fits .boolean (.int v) = true) (d : decode cc pc = .ok (.putfield 272, 3)) (k : J X G Q nL cs ss (pc + 3) lv st (sI S 11 a v)) : J X G Q nL cs ss pc lv (.int v :: .ref a :: st) S := J_put hC (ref := "SkyPlan$Target") inwX4 tyX4 tyX4_ok nmX4 (ci := 5) rfl 11 (by decide) (mG 546 (by decide +kernel) rfl) (fun _ h => h) rfl (ty := .boolean) rfl hn.1 hn.2 h rfl (by simp) (by rw [hob_of (show hK (sI S 11 a v) a = 6 from h)]; simp [hsh, hI_sI, hP_sI, hN_sI, hI_sP, hP_sP, hN_sP, va_rf]) (fun b hb => hob_sI hb) d k
theorem fg_X5_296 {X : JX} {G : JG} {Q : State → Prop} {nL cs ss pc : Nat} {lv : List (Nat × Value)} {st : List Value} {S : HS} {cc : ByteArray} {ret : Option FieldType} {fr lo mc ms : Nat} {a : Nat} (hC : JC X G RX5 cc nL ret fr lo mc ms) (h : hK S a = 6) (d : decode cc pc = .ok (.getfield 296, 3)) (k : J X G Q nL cs ss (pc + 3) lv (.int (hI S 3 a) :: st) S) : J X G Q nL cs ss pc lv (.ref a :: st) S := J_get hC (ref := "SkyPlan$Target") inwX4 (ci := 5) rfl 3 (by decide) (mG 529 (by decide +kernel) rfl) (fun _ h => h) h rfl rfl d k
theorem fg_X0_9 {X : JX} {G : JG} {Q : State → Prop} {nL cs ss pc : Nat} {lv : List (Nat × Value)} {st : List Value} {S : HS} {cc : ByteArray} {ret : Option FieldType} {fr lo mc ms : Nat} {a b : Nat} (hC : JC X G RX0 cc nL ret fr lo mc ms) (h : hK S a = 2) (hb : hP S 0 a = some b) (d : decode cc pc = .ok (.getfield 9, 3)) (k : J X G Q nL cs ss (pc + 3) lv (.ref b :: st) S) : J X G Q nL cs ss pc lv (.ref a :: st) S := J_get hC (ref := "SkyPlan$Clouds") inwX0 (ci := 1) rfl 0 (by decide) (mG 100 (by decide +kernel) rfl) (fun _ h => h) h rfl (show some (va_rf (hP S 0 a)) = _ by rw [hb]; rfl) d k
theorem fp_X0_9 {X : JX} {G : JG} {Q : State → Prop} {nL cs ss pc : Nat} {lv : List (Nat × Value)} {st : List Value} {S : HS} {cc : ByteArray} {ret : Option FieldType} {fr lo mc ms : Nat} {a v : Nat} (hC : JC X G RX0 cc nL ret fr lo mc ms) (hin2 : (xt X).name = "<init>") (h : hK S a = 2) (d : decode cc pc = .ok (.putfield 9, 3)) (k : J X G Q nL cs ss (pc + 3) lv st (sP S 0 a (some v))) : J X G Q nL cs ss pc lv (.ref v :: .ref a :: st) S := J_putF hC hin2 (ref := "SkyPlan$Clouds") inwX0 tyX0 tyX0_ok nmX0 (ci := 1) rfl 0 (by decide) (mG 100 (by decide +kernel) rfl) (fun _ h => h) rfl rfl (ty := (tyX0 0)) rfl rfl rfl h rfl (by simp) (by rw [hob_of (show hK (sP S 0 a (some v)) a = 2 from h)]; simp [hsh, hI_sI, hP_sI, hN_sI, hI_sP, hP_sP, hN_sP, va_rf]) (fun b hb => hob_sP hb) d k
theorem fg_X0_15 {X : JX} {G : JG} {Q : State → Prop} {nL cs ss pc : Nat} {lv : List (Nat × Value)} {st : List Value} {S : HS} {cc : ByteArray} {ret : Option FieldType} {fr lo mc ms : Nat} {a b : Nat} (hC : JC X G RX0 cc nL ret fr lo mc ms) (h : hK S a = 2) (hb : hP S 1 a = some b) (d : decode cc pc = .ok (.getfield 15, 3)) (k : J X G Q nL cs ss (pc + 3) lv (.ref b :: st) S) : J X G Q nL cs ss pc lv (.ref a :: st) S := J_get hC (ref := "SkyPlan$Clouds") inwX0 (ci := 1) rfl 1 (by decide) (mG 101 (by decide +kernel) rfl) (fun _ h => h) h rfl (show some (va_rf (hP S 1 a)) = _ by rw [hb]; rfl) d k
theorem fp_X0_15 {X : JX} {G : JG} {Q : State → Prop} {nL cs ss pc : Nat} {lv : List (Nat × Value)} {st : List Value} {S : HS} {cc : ByteArray} {ret : Option FieldType} {fr lo mc ms : Nat} {a v : Nat} (hC : JC X G RX0 cc nL ret fr lo mc ms) (hin2 : (xt X).name = "<init>") (h : hK S a = 2) (d : decode cc pc = .ok (.putfield 15, 3)) (k : J X G Q nL cs ss (pc + 3) lv st (sP S 1 a (some v))) : J X G Q nL cs ss pc lv (.ref v :: .ref a :: st) S := J_putF hC hin2 (ref := "SkyPlan$Clouds") inwX0 tyX0 tyX0_ok nmX0 (ci := 1) rfl 1 (by decide) (mG 101 (by decide +kernel) rfl) (fun _ h => h) rfl rfl (ty := (tyX0 1)) rfl rfl rfl h rfl (by simp) (by rw [hob_of (show hK (sP S 1 a (some v)) a = 2 from h)]; simp [hsh, hI_sI, hP_sI, hN_sI, hI_sP, hP_sP, hN_sP, va_rf]) (fun b hb => hob_sP hb) d k
theorem fg_X0_18 {X : JX} {G : JG} {Q : State → Prop} {nL cs ss pc : Nat} {lv : List (Nat × Value)} {st : List Value} {S : HS} {cc : ByteArray} {ret : Option FieldType} {fr lo mc ms : Nat} {a : Nat} (hC : JC X G RX0 cc nL ret fr lo mc ms) (h : hK S a = 2) (d : decode cc pc = .ok (.getfield 18, 3)) (k : J X G Q nL cs ss (pc + 3) lv (.int (hI S 2 a) :: st) S) : J X G Q nL cs ss pc lv (.ref a :: st) S := J_get hC (ref := "SkyPlan$Clouds") inwX0 (ci := 1) rfl 2 (by decide) (mG 102 (by decide +kernel) rfl) (fun _ h => h) h rfl rfl d k
theorem fp_X0_18 {X : JX} {G : JG} {Q : State → Prop} {nL cs ss pc : Nat} {lv : List (Nat × Value)} {st : List Value} {S : HS} {cc : ByteArray} {ret : Option FieldType} {fr lo mc ms : Nat} {a : Nat} {v : Int32} (hC : JC X G RX0 cc nL ret fr lo mc ms) (h : hK S a = 2) (d : decode cc pc = .ok (.putfield 18, 3)) (k : J X G Q nL cs ss (pc + 3) lv st (sI S 2 a v)) : J X G Q nL cs ss pc lv (.int v :: .ref a :: st) S := J_put hC (ref := "SkyPlan$Clouds") inwX0 tyX0 tyX0_ok nmX0 (ci := 1) rfl 2 (by decide) (mG 102 (by decide +kernel) rfl) (fun _ h => h) rfl (ty := .int) rfl rfl rfl h rfl (by simp) (by rw [hob_of (show hK (sI S 2 a v) a = 2 from h)]; simp [hsh, hI_sI, hP_sI, hN_sI, hI_sP, hP_sP, hN_sP, va_rf]) (fun b hb => hob_sI hb) d k
theorem fg_X1_9 {X : JX} {G : JG} {Q : State → Prop} {nL cs ss pc : Nat} {lv : List (Nat × Value)} {st : List Value} {S : HS} {cc : ByteArray} {ret : Option FieldType} {fr lo mc ms : Nat} {a b : Nat} (hC : JC X G RX1 cc nL ret fr lo mc ms) (h : hK S a = 3) (hb : hP S 0 a = some b) (d : decode cc pc = .ok (.getfield 9, 3)) (k : J X G Q nL cs ss (pc + 3) lv (.ref b :: st) S) : J X G Q nL cs ss pc lv (.ref a :: st) S := J_get hC (ref := "SkyPlan$Outlook") inwX1 (ci := 2) rfl 0 (by decide) (mG 496 (by decide +kernel) rfl) (fun _ h => h) h rfl (show some (va_rf (hP S 0 a)) = _ by rw [hb]; rfl) d k
theorem fp_X1_9 {X : JX} {G : JG} {Q : State → Prop} {nL cs ss pc : Nat} {lv : List (Nat × Value)} {st : List Value} {S : HS} {cc : ByteArray} {ret : Option FieldType} {fr lo mc ms : Nat} {a v : Nat} (hC : JC X G RX1 cc nL ret fr lo mc ms) (hin2 : (xt X).name = "<init>") (h : hK S a = 3) (d : decode cc pc = .ok (.putfield 9, 3)) (k : J X G Q nL cs ss (pc + 3) lv st (sP S 0 a (some v))) : J X G Q nL cs ss pc lv (.ref v :: .ref a :: st) S := J_putF hC hin2 (ref := "SkyPlan$Outlook") inwX1 tyX1 tyX1_ok nmX1 (ci := 2) rfl 0 (by decide) (mG 496 (by decide +kernel) rfl) (fun _ h => h) rfl rfl (ty := (tyX1 0)) rfl rfl rfl h rfl (by simp) (by rw [hob_of (show hK (sP S 0 a (some v)) a = 3 from h)]; simp [hsh, hI_sI, hP_sI, hN_sI, hI_sP, hP_sP, hN_sP, va_rf]) (fun b hb => hob_sP hb) d k
theorem fg_X1_21 {X : JX} {G : JG} {Q : State → Prop} {nL cs ss pc : Nat} {lv : List (Nat × Value)} {st : List Value} {S : HS} {cc : ByteArray} {ret : Option FieldType} {fr lo mc ms : Nat} {a : Nat} (hC : JC X G RX1 cc nL ret fr lo mc ms) (h : hK S a = 3) (d : decode cc pc = .ok (.getfield 21, 3)) (k : J X G Q nL cs ss (pc + 3) lv (.int (hI S 2 a) :: st) S) : J X G Q nL cs ss pc lv (.ref a :: st) S := J_get hC (ref := "SkyPlan$Outlook") inwX1 (ci := 2) rfl 2 (by decide) (mG 498 (by decide +kernel) rfl) (fun _ h => h) h rfl rfl d k
theorem fp_X1_21 {X : JX} {G : JG} {Q : State → Prop} {nL cs ss pc : Nat} {lv : List (Nat × Value)} {st : List Value} {S : HS} {cc : ByteArray} {ret : Option FieldType} {fr lo mc ms : Nat} {a : Nat} {v : Int32} (hC : JC X G RX1 cc nL ret fr lo mc ms) (h : hK S a = 3) (d : decode cc pc = .ok (.putfield 21, 3)) (k : J X G Q nL cs ss (pc + 3) lv st (sI S 2 a v)) : J X G Q nL cs ss pc lv (.int v :: .ref a :: st) S := J_put hC (ref := "SkyPlan$Outlook") inwX1 tyX1 tyX1_ok nmX1 (ci := 2) rfl 2 (by decide) (mG 498 (by decide +kernel) rfl) (fun _ h => h) rfl (ty := .int) rfl rfl rfl h rfl (by simp) (by rw [hob_of (show hK (sI S 2 a v) a = 3 from h)]; simp [hsh, hI_sI, hP_sI, hN_sI, hI_sP, hP_sP, hN_sP, va_rf]) (fun b hb => hob_sI hb) d k
theorem fg_X1_25 {X : JX} {G : JG} {Q : State → Prop} {nL cs ss pc : Nat} {lv : List (Nat × Value)} {st : List Value} {S : HS} {cc : ByteArray} {ret : Option FieldType} {fr lo mc ms : Nat} {a : Nat} (hC : JC X G RX1 cc nL ret fr lo mc ms) (h : hK S a = 3) (d : decode cc pc = .ok (.getfield 25, 3)) (k : J X G Q nL cs ss (pc + 3) lv (.int (hI S 3 a) :: st) S) : J X G Q nL cs ss pc lv (.ref a :: st) S := J_get hC (ref := "SkyPlan$Outlook") inwX1 (ci := 2) rfl 3 (by decide) (mG 499 (by decide +kernel) rfl) (fun _ h => h) h rfl rfl d k
theorem fp_X1_25 {X : JX} {G : JG} {Q : State → Prop} {nL cs ss pc : Nat} {lv : List (Nat × Value)} {st : List Value} {S : HS} {cc : ByteArray} {ret : Option FieldType} {fr lo mc ms : Nat} {a : Nat} {v : Int32} (hC : JC X G RX1 cc nL ret fr lo mc ms) (h : hK S a = 3) (d : decode cc pc = .ok (.putfield 25, 3)) (k : J X G Q nL cs ss (pc + 3) lv st (sI S 3 a v)) : J X G Q nL cs ss pc lv (.int v :: .ref a :: st) S := J_put hC (ref := "SkyPlan$Outlook") inwX1 tyX1 tyX1_ok nmX1 (ci := 2) rfl 3 (by decide) (mG 499 (by decide +kernel) rfl) (fun _ h => h) rfl (ty := .int) rfl rfl rfl h rfl (by simp) (by rw [hob_of (show hK (sI S 3 a v) a = 3 from h)]; simp [hsh, hI_sI, hP_sI, hN_sI, hI_sP, hP_sP, hN_sP, va_rf]) (fun b hb => hob_sI hb) d k
theorem fg_X1_28 {X : JX} {G : JG} {Q : State → Prop} {nL cs ss pc : Nat} {lv : List (Nat × Value)} {st : List Value} {S : HS} {cc : ByteArray} {ret : Option FieldType} {fr lo mc ms : Nat} {a : Nat} (hC : JC X G RX1 cc nL ret fr lo mc ms) (h : hK S a = 3) (d : decode cc pc = .ok (.getfield 28, 3)) (k : J X G Q nL cs ss (pc + 3) lv (.int (hI S 4 a) :: st) S) : J X G Q nL cs ss pc lv (.ref a :: st) S := J_get hC (ref := "SkyPlan$Outlook") inwX1 (ci := 2) rfl 4 (by decide) (mG 500 (by decide +kernel) rfl) (fun _ h => h) h rfl rfl d k
theorem fp_X1_28 {X : JX} {G : JG} {Q : State → Prop} {nL cs ss pc : Nat} {lv : List (Nat × Value)} {st : List Value} {S : HS} {cc : ByteArray} {ret : Option FieldType} {fr lo mc ms : Nat} {a : Nat} {v : Int32} (hC : JC X G RX1 cc nL ret fr lo mc ms) (h : hK S a = 3) (d : decode cc pc = .ok (.putfield 28, 3)) (k : J X G Q nL cs ss (pc + 3) lv st (sI S 4 a v)) : J X G Q nL cs ss pc lv (.int v :: .ref a :: st) S := J_put hC (ref := "SkyPlan$Outlook") inwX1 tyX1 tyX1_ok nmX1 (ci := 2) rfl 4 (by decide) (mG 500 (by decide +kernel) rfl) (fun _ h => h) rfl (ty := .int) rfl rfl rfl h rfl (by simp) (by rw [hob_of (show hK (sI S 4 a v) a = 3 from h)]; simp [hsh, hI_sI, hP_sI, hN_sI, hI_sP, hP_sP, hN_sP, va_rf]) (fun b hb => hob_sI hb) d k
theorem fg_X1_31 {X : JX} {G : JG} {Q : State → Prop} {nL cs ss pc : Nat} {lv : List (Nat × Value)} {st : List Value} {S : HS} {cc : ByteArray} {ret : Option FieldType} {fr lo mc ms : Nat} {a : Nat} (hC : JC X G RX1 cc nL ret fr lo mc ms) (h : hK S a = 3) (d : decode cc pc = .ok (.getfield 31, 3)) (k : J X G Q nL cs ss (pc + 3) lv (.int (hI S 5 a) :: st) S) : J X G Q nL cs ss pc lv (.ref a :: st) S := J_get hC (ref := "SkyPlan$Outlook") inwX1 (ci := 2) rfl 5 (by decide) (mG 501 (by decide +kernel) rfl) (fun _ h => h) h rfl rfl d k
theorem fp_X1_31 {X : JX} {G : JG} {Q : State → Prop} {nL cs ss pc : Nat} {lv : List (Nat × Value)} {st : List Value} {S : HS} {cc : ByteArray} {ret : Option FieldType} {fr lo mc ms : Nat} {a : Nat} {v : Int32} (hC : JC X G RX1 cc nL ret fr lo mc ms) (h : hK S a = 3) (d : decode cc pc = .ok (.putfield 31, 3)) (k : J X G Q nL cs ss (pc + 3) lv st (sI S 5 a v)) : J X G Q nL cs ss pc lv (.int v :: .ref a :: st) S := J_put hC (ref := "SkyPlan$Outlook") inwX1 tyX1 tyX1_ok nmX1 (ci := 2) rfl 5 (by decide) (mG 501 (by decide +kernel) rfl) (fun _ h => h) rfl (ty := .int) rfl rfl rfl h rfl (by simp) (by rw [hob_of (show hK (sI S 5 a v) a = 3 from h)]; simp [hsh, hI_sI, hP_sI, hN_sI, hI_sP, hP_sP, hN_sP, va_rf]) (fun b hb => hob_sI hb) d k
theorem fg_X1_34 {X : JX} {G : JG} {Q : State → Prop} {nL cs ss pc : Nat} {lv : List (Nat × Value)} {st : List Value} {S : HS} {cc : ByteArray} {ret : Option FieldType} {fr lo mc ms : Nat} {a : Nat} (hC : JC X G RX1 cc nL ret fr lo mc ms) (h : hK S a = 3) (d : decode cc pc = .ok (.getfield 34, 3)) (k : J X G Q nL cs ss (pc + 3) lv (.int (hI S 6 a) :: st) S) : J X G Q nL cs ss pc lv (.ref a :: st) S := J_get hC (ref := "SkyPlan$Outlook") inwX1 (ci := 2) rfl 6 (by decide) (mG 502 (by decide +kernel) rfl) (fun _ h => h) h rfl rfl d k
theorem fp_X1_34 {X : JX} {G : JG} {Q : State → Prop} {nL cs ss pc : Nat} {lv : List (Nat × Value)} {st : List Value} {S : HS} {cc : ByteArray} {ret : Option FieldType} {fr lo mc ms : Nat} {a : Nat} {v : Int32} (hC : JC X G RX1 cc nL ret fr lo mc ms) (h : hK S a = 3) (d : decode cc pc = .ok (.putfield 34, 3)) (k : J X G Q nL cs ss (pc + 3) lv st (sI S 6 a v)) : J X G Q nL cs ss pc lv (.int v :: .ref a :: st) S := J_put hC (ref := "SkyPlan$Outlook") inwX1 tyX1 tyX1_ok nmX1 (ci := 2) rfl 6 (by decide) (mG 502 (by decide +kernel) rfl) (fun _ h => h) rfl (ty := .int) rfl rfl rfl h rfl (by simp) (by rw [hob_of (show hK (sI S 6 a v) a = 3 from h)]; simp [hsh, hI_sI, hP_sI, hN_sI, hI_sP, hP_sP, hN_sP, va_rf]) (fun b hb => hob_sI hb) d k
theorem fg_X1_37 {X : JX} {G : JG} {Q : State → Prop} {nL cs ss pc : Nat} {lv : List (Nat × Value)} {st : List Value} {S : HS} {cc : ByteArray} {ret : Option FieldType} {fr lo mc ms : Nat} {a : Nat} (hC : JC X G RX1 cc nL ret fr lo mc ms) (h : hK S a = 3) (d : decode cc pc = .ok (.getfield 37, 3)) (k : J X G Q nL cs ss (pc + 3) lv (.int (hI S 7 a) :: st) S) : J X G Q nL cs ss pc lv (.ref a :: st) S := J_get hC (ref := "SkyPlan$Outlook") inwX1 (ci := 2) rfl 7 (by decide) (mG 503 (by decide +kernel) rfl) (fun _ h => h) h rfl rfl d k
theorem fp_X1_37 {X : JX} {G : JG} {Q : State → Prop} {nL cs ss pc : Nat} {lv : List (Nat × Value)} {st : List Value} {S : HS} {cc : ByteArray} {ret : Option FieldType} {fr lo mc ms : Nat} {a : Nat} {v : Int32} (hC : JC X G RX1 cc nL ret fr lo mc ms) (h : hK S a = 3) (d : decode cc pc = .ok (.putfield 37, 3)) (k : J X G Q nL cs ss (pc + 3) lv st (sI S 7 a v)) : J X G Q nL cs ss pc lv (.int v :: .ref a :: st) S := J_put hC (ref := "SkyPlan$Outlook") inwX1 tyX1 tyX1_ok nmX1 (ci := 2) rfl 7 (by decide) (mG 503 (by decide +kernel) rfl) (fun _ h => h) rfl (ty := .int) rfl rfl rfl h rfl (by simp) (by rw [hob_of (show hK (sI S 7 a v) a = 3 from h)]; simp [hsh, hI_sI, hP_sI, hN_sI, hI_sP, hP_sP, hN_sP, va_rf]) (fun b hb => hob_sI hb) d k
theorem fg_X2_11 {X : JX} {G : JG} {Q : State → Prop} {nL cs ss pc : Nat} {lv : List (Nat × Value)} {st : List Value} {S : HS} {cc : ByteArray} {ret : Option FieldType} {fr lo mc ms : Nat} {a b : Nat} (hC : JC X G RX2 cc nL ret fr lo mc ms) (h : hK S a = 4) (hb : hP S 0 a = some b) (d : decode cc pc = .ok (.getfield 11, 3)) (k : J X G Q nL cs ss (pc + 3) lv (.ref b :: st) S) : J X G Q nL cs ss pc lv (.ref a :: st) S := J_get hC (ref := "SkyPlan$Plan") inwX2 (ci := 3) rfl 0 (by decide) (mG 146 (by decide +kernel) rfl) (fun _ h => h) h rfl (show some (va_rf (hP S 0 a)) = _ by rw [hb]; rfl) d k
theorem fp_X2_11 {X : JX} {G : JG} {Q : State → Prop} {nL cs ss pc : Nat} {lv : List (Nat × Value)} {st : List Value} {S : HS} {cc : ByteArray} {ret : Option FieldType} {fr lo mc ms : Nat} {a v : Nat} (hC : JC X G RX2 cc nL ret fr lo mc ms) (hin2 : (xt X).name = "<init>") (h : hK S a = 4) (d : decode cc pc = .ok (.putfield 11, 3)) (k : J X G Q nL cs ss (pc + 3) lv st (sP S 0 a (some v))) : J X G Q nL cs ss pc lv (.ref v :: .ref a :: st) S := J_putF hC hin2 (ref := "SkyPlan$Plan") inwX2 tyX2 tyX2_ok nmX2 (ci := 3) rfl 0 (by decide) (mG 146 (by decide +kernel) rfl) (fun _ h => h) rfl rfl (ty := (tyX2 0)) rfl rfl rfl h rfl (by simp) (by rw [hob_of (show hK (sP S 0 a (some v)) a = 4 from h)]; simp [hsh, hI_sI, hP_sI, hN_sI, hI_sP, hP_sP, hN_sP, va_rf]) (fun b hb => hob_sP hb) d k
theorem fg_X2_16 {X : JX} {G : JG} {Q : State → Prop} {nL cs ss pc : Nat} {lv : List (Nat × Value)} {st : List Value} {S : HS} {cc : ByteArray} {ret : Option FieldType} {fr lo mc ms : Nat} {a : Nat} (hC : JC X G RX2 cc nL ret fr lo mc ms) (h : hK S a = 4) (d : decode cc pc = .ok (.getfield 16, 3)) (k : J X G Q nL cs ss (pc + 3) lv (.int (hI S 2 a) :: st) S) : J X G Q nL cs ss pc lv (.ref a :: st) S := J_get hC (ref := "SkyPlan$Plan") inwX2 (ci := 3) rfl 2 (by decide) (mG 149 (by decide +kernel) rfl) (fun _ h => h) h rfl rfl d k
theorem fp_X2_16 {X : JX} {G : JG} {Q : State → Prop} {nL cs ss pc : Nat} {lv : List (Nat × Value)} {st : List Value} {S : HS} {cc : ByteArray} {ret : Option FieldType} {fr lo mc ms : Nat} {a : Nat} {v : Int32} (hC : JC X G RX2 cc nL ret fr lo mc ms) (h : hK S a = 4) (d : decode cc pc = .ok (.putfield 16, 3)) (k : J X G Q nL cs ss (pc + 3) lv st (sI S 2 a v)) : J X G Q nL cs ss pc lv (.int v :: .ref a :: st) S := J_put hC (ref := "SkyPlan$Plan") inwX2 tyX2 tyX2_ok nmX2 (ci := 3) rfl 2 (by decide) (mG 149 (by decide +kernel) rfl) (fun _ h => h) rfl (ty := .int) rfl rfl rfl h rfl (by simp) (by rw [hob_of (show hK (sI S 2 a v) a = 4 from h)]; simp [hsh, hI_sI, hP_sI, hN_sI, hI_sP, hP_sP, hN_sP, va_rf]) (fun b hb => hob_sI hb) d k
theorem fg_X2_20 {X : JX} {G : JG} {Q : State → Prop} {nL cs ss pc : Nat} {lv : List (Nat × Value)} {st : List Value} {S : HS} {cc : ByteArray} {ret : Option FieldType} {fr lo mc ms : Nat} {a : Nat} (hC : JC X G RX2 cc nL ret fr lo mc ms) (h : hK S a = 4) (d : decode cc pc = .ok (.getfield 20, 3)) (k : J X G Q nL cs ss (pc + 3) lv (.int (hI S 3 a) :: st) S) : J X G Q nL cs ss pc lv (.ref a :: st) S := J_get hC (ref := "SkyPlan$Plan") inwX2 (ci := 3) rfl 3 (by decide) (mG 151 (by decide +kernel) rfl) (fun _ h => h) h rfl rfl d k
theorem fp_X2_20 {X : JX} {G : JG} {Q : State → Prop} {nL cs ss pc : Nat} {lv : List (Nat × Value)} {st : List Value} {S : HS} {cc : ByteArray} {ret : Option FieldType} {fr lo mc ms : Nat} {a : Nat} {v : Int32} (hC : JC X G RX2 cc nL ret fr lo mc ms) (h : hK S a = 4) (d : decode cc pc = .ok (.putfield 20, 3)) (k : J X G Q nL cs ss (pc + 3) lv st (sI S 3 a v)) : J X G Q nL cs ss pc lv (.int v :: .ref a :: st) S := J_put hC (ref := "SkyPlan$Plan") inwX2 tyX2 tyX2_ok nmX2 (ci := 3) rfl 3 (by decide) (mG 151 (by decide +kernel) rfl) (fun _ h => h) rfl (ty := .int) rfl rfl rfl h rfl (by simp) (by rw [hob_of (show hK (sI S 3 a v) a = 4 from h)]; simp [hsh, hI_sI, hP_sI, hN_sI, hI_sP, hP_sP, hN_sP, va_rf]) (fun b hb => hob_sI hb) d k
theorem fg_X2_23 {X : JX} {G : JG} {Q : State → Prop} {nL cs ss pc : Nat} {lv : List (Nat × Value)} {st : List Value} {S : HS} {cc : ByteArray} {ret : Option FieldType} {fr lo mc ms : Nat} {a b : Nat} (hC : JC X G RX2 cc nL ret fr lo mc ms) (h : hK S a = 4) (hb : hP S 4 a = some b) (d : decode cc pc = .ok (.getfield 23, 3)) (k : J X G Q nL cs ss (pc + 3) lv (.ref b :: st) S) : J X G Q nL cs ss pc lv (.ref a :: st) S := J_get hC (ref := "SkyPlan$Plan") inwX2 (ci := 3) rfl 4 (by decide) (mG 153 (by decide +kernel) rfl) (fun _ h => h) h rfl (show some (va_rf (hP S 4 a)) = _ by rw [hb]; rfl) d k
theorem fgn_X2_23 {X : JX} {G : JG} {Q : State → Prop} {nL cs ss pc : Nat} {lv : List (Nat × Value)} {st : List Value} {S : HS} {cc : ByteArray} {ret : Option FieldType} {fr lo mc ms : Nat} {a : Nat} (hC : JC X G RX2 cc nL ret fr lo mc ms) (h : hK S a = 4) (hb : hP S 4 a = none) (d : decode cc pc = .ok (.getfield 23, 3)) (k : J X G Q nL cs ss (pc + 3) lv (.null :: st) S) : J X G Q nL cs ss pc lv (.ref a :: st) S := J_get hC (ref := "SkyPlan$Plan") inwX2 (ci := 3) rfl 4 (by decide) (mG 153 (by decide +kernel) rfl) (fun _ h => h) h rfl (show some (va_rf (hP S 4 a)) = _ by rw [hb]; rfl) d k
theorem fp_X2_23 {X : JX} {G : JG} {Q : State → Prop} {nL cs ss pc : Nat} {lv : List (Nat × Value)} {st : List Value} {S : HS} {cc : ByteArray} {ret : Option FieldType} {fr lo mc ms : Nat} {a v : Nat} (hC : JC X G RX2 cc nL ret fr lo mc ms) (h : hK S a = 4) (d : decode cc pc = .ok (.putfield 23, 3)) (k : J X G Q nL cs ss (pc + 3) lv st (sP S 4 a (some v))) : J X G Q nL cs ss pc lv (.ref v :: .ref a :: st) S := J_put hC (ref := "SkyPlan$Plan") inwX2 tyX2 tyX2_ok nmX2 (ci := 3) rfl 4 (by decide) (mG 153 (by decide +kernel) rfl) (fun _ h => h) rfl (ty := (tyX2 4)) rfl rfl rfl h rfl (by simp) (by rw [hob_of (show hK (sP S 4 a (some v)) a = 4 from h)]; simp [hsh, hI_sI, hP_sI, hN_sI, hI_sP, hP_sP, hN_sP, va_rf]) (fun b hb => hob_sP hb) d k
theorem fpn_X2_23 {X : JX} {G : JG} {Q : State → Prop} {nL cs ss pc : Nat} {lv : List (Nat × Value)} {st : List Value} {S : HS} {cc : ByteArray} {ret : Option FieldType} {fr lo mc ms : Nat} {a : Nat} (hC : JC X G RX2 cc nL ret fr lo mc ms) (h : hK S a = 4) (d : decode cc pc = .ok (.putfield 23, 3)) (k : J X G Q nL cs ss (pc + 3) lv st (sP S 4 a none)) : J X G Q nL cs ss pc lv (.null :: .ref a :: st) S := J_put hC (ref := "SkyPlan$Plan") inwX2 tyX2 tyX2_ok nmX2 (ci := 3) rfl 4 (by decide) (mG 153 (by decide +kernel) rfl) (fun _ h => h) rfl (ty := (tyX2 4)) rfl rfl rfl h rfl (by simp) (by rw [hob_of (show hK (sP S 4 a none) a = 4 from h)]; simp [hsh, hI_sI, hP_sI, hN_sI, hI_sP, hP_sP, hN_sP, va_rf]) (fun b hb => hob_sP hb) d k
theorem fg_X2_27 {X : JX} {G : JG} {Q : State → Prop} {nL cs ss pc : Nat} {lv : List (Nat × Value)} {st : List Value} {S : HS} {cc : ByteArray} {ret : Option FieldType} {fr lo mc ms : Nat} {a : Nat} (hC : JC X G RX2 cc nL ret fr lo mc ms) (h : hK S a = 6) (d : decode cc pc = .ok (.getfield 27, 3)) (k : J X G Q nL cs ss (pc + 3) lv (.int (hI S 2 a) :: st) S) : J X G Q nL cs ss pc lv (.ref a :: st) S := J_get hC (ref := "SkyPlan$Target") inwX4 (ci := 5) rfl 2 (by decide) (mG 527 (by decide +kernel) rfl) (fun _ h => h) h rfl rfl d k
theorem fg_X2_32 {X : JX} {G : JG} {Q : State → Prop} {nL cs ss pc : Nat} {lv : List (Nat × Value)} {st : List Value} {S : HS} {cc : ByteArray} {ret : Option FieldType} {fr lo mc ms : Nat} {a b : Nat} (hC : JC X G RX2 cc nL ret fr lo mc ms) (h : hK S a = 6) (hb : hP S 1 a = some b) (d : decode cc pc = .ok (.getfield 32, 3)) (k : J X G Q nL cs ss (pc + 3) lv (.ref b :: st) S) : J X G Q nL cs ss pc lv (.ref a :: st) S := J_get hC (ref := "SkyPlan$Target") inwX4 (ci := 5) rfl 1 (by decide) (mG 524 (by decide +kernel) rfl) (fun _ h => h) h rfl (show some (va_rf (hP S 1 a)) = _ by rw [hb]; rfl) d k
theorem fg_X2_44 {X : JX} {G : JG} {Q : State → Prop} {nL cs ss pc : Nat} {lv : List (Nat × Value)} {st : List Value} {S : HS} {cc : ByteArray} {ret : Option FieldType} {fr lo mc ms : Nat} {a : Nat} (hC : JC X G RX2 cc nL ret fr lo mc ms) (h : hK S a = 6) (d : decode cc pc = .ok (.getfield 44, 3)) (k : J X G Q nL cs ss (pc + 3) lv (.int (hI S 0 a) :: st) S) : J X G Q nL cs ss pc lv (.ref a :: st) S := J_get hC (ref := "SkyPlan$Target") inwX4 (ci := 5) rfl 0 (by decide) (mG 522 (by decide +kernel) rfl) (fun _ h => h) h rfl rfl d k
theorem fg_X2_47 {X : JX} {G : JG} {Q : State → Prop} {nL cs ss pc : Nat} {lv : List (Nat × Value)} {st : List Value} {S : HS} {cc : ByteArray} {ret : Option FieldType} {fr lo mc ms : Nat} {a : Nat} (hC : JC X G RX2 cc nL ret fr lo mc ms) (h : hK S a = 6) (d : decode cc pc = .ok (.getfield 47, 3)) (k : J X G Q nL cs ss (pc + 3) lv (.int (hI S 4 a) :: st) S) : J X G Q nL cs ss pc lv (.ref a :: st) S := J_get hC (ref := "SkyPlan$Target") inwX4 (ci := 5) rfl 4 (by decide) (mG 531 (by decide +kernel) rfl) (fun _ h => h) h rfl rfl d k
theorem fp_X2_48 {X : JX} {G : JG} {Q : State → Prop} {nL cs ss pc : Nat} {lv : List (Nat × Value)} {st : List Value} {S : HS} {cc : ByteArray} {ret : Option FieldType} {fr lo mc ms : Nat} {a : Nat} {v : Int32} (hC : JC X G RX2 cc nL ret fr lo mc ms) (h : hK S a = 6) (hn : narrow .boolean (.int v) = .int v ∧ fits .boolean (.int v) = true) (d : decode cc pc = .ok (.putfield 48, 3)) (k : J X G Q nL cs ss (pc + 3) lv st (sI S 11 a v)) : J X G Q nL cs ss pc lv (.int v :: .ref a :: st) S := J_put hC (ref := "SkyPlan$Target") inwX4 tyX4 tyX4_ok nmX4 (ci := 5) rfl 11 (by decide) (mG 545 (by decide +kernel) rfl) (fun _ h => h) rfl (ty := .boolean) rfl hn.1 hn.2 h rfl (by simp) (by rw [hob_of (show hK (sI S 11 a v) a = 6 from h)]; simp [hsh, hI_sI, hP_sI, hN_sI, hI_sP, hP_sP, hN_sP, va_rf]) (fun b hb => hob_sI hb) d k
theorem fp_X3_7 {X : JX} {G : JG} {Q : State → Prop} {nL cs ss pc : Nat} {lv : List (Nat × Value)} {st : List Value} {S : HS} {cc : ByteArray} {ret : Option FieldType} {fr lo mc ms : Nat} {a : Nat} {v : Int32} (hC : JC X G RX3 cc nL ret fr lo mc ms) (hin2 : (xt X).name = "<init>") (h : hK S a = 5) (d : decode cc pc = .ok (.putfield 7, 3)) (k : J X G Q nL cs ss (pc + 3) lv st (sI S 0 a v)) : J X G Q nL cs ss pc lv (.int v :: .ref a :: st) S := J_putF hC hin2 (ref := "SkyPlan$Point") inwX3 tyX3 tyX3_ok nmX3 (ci := 4) rfl 0 (by decide) (mG 75 (by decide +kernel) rfl) (fun _ h => h) rfl rfl (ty := .int) rfl rfl rfl h rfl (by simp) (by rw [hob_of (show hK (sI S 0 a v) a = 5 from h)]; simp [hsh, hI_sI, hP_sI, hN_sI, hI_sP, hP_sP, hN_sP, va_rf]) (fun b hb => hob_sI hb) d k
theorem fp_X3_13 {X : JX} {G : JG} {Q : State → Prop} {nL cs ss pc : Nat} {lv : List (Nat × Value)} {st : List Value} {S : HS} {cc : ByteArray} {ret : Option FieldType} {fr lo mc ms : Nat} {a : Nat} {v : Int32} (hC : JC X G RX3 cc nL ret fr lo mc ms) (hin2 : (xt X).name = "<init>") (h : hK S a = 5) (d : decode cc pc = .ok (.putfield 13, 3)) (k : J X G Q nL cs ss (pc + 3) lv st (sI S 1 a v)) : J X G Q nL cs ss pc lv (.int v :: .ref a :: st) S := J_putF hC hin2 (ref := "SkyPlan$Point") inwX3 tyX3 tyX3_ok nmX3 (ci := 4) rfl 1 (by decide) (mG 78 (by decide +kernel) rfl) (fun _ h => h) rfl rfl (ty := .int) rfl rfl rfl h rfl (by simp) (by rw [hob_of (show hK (sI S 1 a v) a = 5 from h)]; simp [hsh, hI_sI, hP_sI, hN_sI, hI_sP, hP_sP, hN_sP, va_rf]) (fun b hb => hob_sI hb) d k
theorem fp_X3_22 {X : JX} {G : JG} {Q : State → Prop} {nL cs ss pc : Nat} {lv : List (Nat × Value)} {st : List Value} {S : HS} {cc : ByteArray} {ret : Option FieldType} {fr lo mc ms : Nat} {a : Nat} {v : Int32} (hC : JC X G RX3 cc nL ret fr lo mc ms) (hin2 : (xt X).name = "<init>") (h : hK S a = 5) (d : decode cc pc = .ok (.putfield 22, 3)) (k : J X G Q nL cs ss (pc + 3) lv st (sI S 2 a v)) : J X G Q nL cs ss pc lv (.int v :: .ref a :: st) S := J_putF hC hin2 (ref := "SkyPlan$Point") inwX3 tyX3 tyX3_ok nmX3 (ci := 4) rfl 2 (by decide) (mG 81 (by decide +kernel) rfl) (fun _ h => h) rfl rfl (ty := .int) rfl rfl rfl h rfl (by simp) (by rw [hob_of (show hK (sI S 2 a v) a = 5 from h)]; simp [hsh, hI_sI, hP_sI, hN_sI, hI_sP, hP_sP, hN_sP, va_rf]) (fun b hb => hob_sI hb) d k
theorem fp_X3_25 {X : JX} {G : JG} {Q : State → Prop} {nL cs ss pc : Nat} {lv : List (Nat × Value)} {st : List Value} {S : HS} {cc : ByteArray} {ret : Option FieldType} {fr lo mc ms : Nat} {a : Nat} {v : Int32} (hC : JC X G RX3 cc nL ret fr lo mc ms) (hin2 : (xt X).name = "<init>") (h : hK S a = 5) (d : decode cc pc = .ok (.putfield 25, 3)) (k : J X G Q nL cs ss (pc + 3) lv st (sI S 3 a v)) : J X G Q nL cs ss pc lv (.int v :: .ref a :: st) S := J_putF hC hin2 (ref := "SkyPlan$Point") inwX3 tyX3 tyX3_ok nmX3 (ci := 4) rfl 3 (by decide) (mG 83 (by decide +kernel) rfl) (fun _ h => h) rfl rfl (ty := .int) rfl rfl rfl h rfl (by simp) (by rw [hob_of (show hK (sI S 3 a v) a = 5 from h)]; simp [hsh, hI_sI, hP_sI, hN_sI, hI_sP, hP_sP, hN_sP, va_rf]) (fun b hb => hob_sI hb) d k
theorem fp_X4_10 {X : JX} {G : JG} {Q : State → Prop} {nL cs ss pc : Nat} {lv : List (Nat × Value)} {st : List Value} {S : HS} {cc : ByteArray} {ret : Option FieldType} {fr lo mc ms : Nat} {a v : Nat} (hC : JC X G RX4 cc nL ret fr lo mc ms) (hin2 : (xt X).name = "<init>") (h : hK S a = 6) (d : decode cc pc = .ok (.putfield 10, 3)) (k : J X G Q nL cs ss (pc + 3) lv st (sP S 5 a (some v))) : J X G Q nL cs ss pc lv (.ref v :: .ref a :: st) S := J_putF hC hin2 (ref := "SkyPlan$Target") inwX4 tyX4 tyX4_ok nmX4 (ci := 5) rfl 5 (by decide) (mG 533 (by decide +kernel) rfl) (fun _ h => h) rfl rfl (ty := (tyX4 5)) rfl rfl rfl h rfl (by simp) (by rw [hob_of (show hK (sP S 5 a (some v)) a = 6 from h)]; simp [hsh, hI_sI, hP_sI, hN_sI, hI_sP, hP_sP, hN_sP, va_rf]) (fun b hb => hob_sP hb) d k
theorem fg_X4_16 {X : JX} {G : JG} {Q : State → Prop} {nL cs ss pc : Nat} {lv : List (Nat × Value)} {st : List Value} {S : HS} {cc : ByteArray} {ret : Option FieldType} {fr lo mc ms : Nat} {a : Nat} (hC : JC X G RX4 cc nL ret fr lo mc ms) (h : hK S a = 6) (d : decode cc pc = .ok (.getfield 16, 3)) (k : J X G Q nL cs ss (pc + 3) lv (.int (hI S 6 a) :: st) S) : J X G Q nL cs ss pc lv (.ref a :: st) S := J_get hC (ref := "SkyPlan$Target") inwX4 (ci := 5) rfl 6 (by decide) (mG 535 (by decide +kernel) rfl) (fun _ h => h) h rfl rfl d k
theorem fp_X4_16 {X : JX} {G : JG} {Q : State → Prop} {nL cs ss pc : Nat} {lv : List (Nat × Value)} {st : List Value} {S : HS} {cc : ByteArray} {ret : Option FieldType} {fr lo mc ms : Nat} {a : Nat} {v : Int32} (hC : JC X G RX4 cc nL ret fr lo mc ms) (h : hK S a = 6) (d : decode cc pc = .ok (.putfield 16, 3)) (k : J X G Q nL cs ss (pc + 3) lv st (sI S 6 a v)) : J X G Q nL cs ss pc lv (.int v :: .ref a :: st) S := J_put hC (ref := "SkyPlan$Target") inwX4 tyX4 tyX4_ok nmX4 (ci := 5) rfl 6 (by decide) (mG 535 (by decide +kernel) rfl) (fun _ h => h) rfl (ty := .int) rfl rfl rfl h rfl (by simp) (by rw [hob_of (show hK (sI S 6 a v) a = 6 from h)]; simp [hsh, hI_sI, hP_sI, hN_sI, hI_sP, hP_sP, hN_sP, va_rf]) (fun b hb => hob_sI hb) d k
theorem fg_X4_20 {X : JX} {G : JG} {Q : State → Prop} {nL cs ss pc : Nat} {lv : List (Nat × Value)} {st : List Value} {S : HS} {cc : ByteArray} {ret : Option FieldType} {fr lo mc ms : Nat} {a : Nat} (hC : JC X G RX4 cc nL ret fr lo mc ms) (h : hK S a = 6) (d : decode cc pc = .ok (.getfield 20, 3)) (k : J X G Q nL cs ss (pc + 3) lv (.int (hI S 7 a) :: st) S) : J X G Q nL cs ss pc lv (.ref a :: st) S := J_get hC (ref := "SkyPlan$Target") inwX4 (ci := 5) rfl 7 (by decide) (mG 537 (by decide +kernel) rfl) (fun _ h => h) h rfl rfl d k
theorem fp_X4_20 {X : JX} {G : JG} {Q : State → Prop} {nL cs ss pc : Nat} {lv : List (Nat × Value)} {st : List Value} {S : HS} {cc : ByteArray} {ret : Option FieldType} {fr lo mc ms : Nat} {a : Nat} {v : Int32} (hC : JC X G RX4 cc nL ret fr lo mc ms) (h : hK S a = 6) (d : decode cc pc = .ok (.putfield 20, 3)) (k : J X G Q nL cs ss (pc + 3) lv st (sI S 7 a v)) : J X G Q nL cs ss pc lv (.int v :: .ref a :: st) S := J_put hC (ref := "SkyPlan$Target") inwX4 tyX4 tyX4_ok nmX4 (ci := 5) rfl 7 (by decide) (mG 537 (by decide +kernel) rfl) (fun _ h => h) rfl (ty := .int) rfl rfl rfl h rfl (by simp) (by rw [hob_of (show hK (sI S 7 a v) a = 6 from h)]; simp [hsh, hI_sI, hP_sI, hN_sI, hI_sP, hP_sP, hN_sP, va_rf]) (fun b hb => hob_sI hb) d k
theorem fg_X4_23 {X : JX} {G : JG} {Q : State → Prop} {nL cs ss pc : Nat} {lv : List (Nat × Value)} {st : List Value} {S : HS} {cc : ByteArray} {ret : Option FieldType} {fr lo mc ms : Nat} {a : Nat} (hC : JC X G RX4 cc nL ret fr lo mc ms) (h : hK S a = 6) (d : decode cc pc = .ok (.getfield 23, 3)) (k : J X G Q nL cs ss (pc + 3) lv (.int (hI S 8 a) :: st) S) : J X G Q nL cs ss pc lv (.ref a :: st) S := J_get hC (ref := "SkyPlan$Target") inwX4 (ci := 5) rfl 8 (by decide) (mG 539 (by decide +kernel) rfl) (fun _ h => h) h rfl rfl d k
theorem fp_X4_23 {X : JX} {G : JG} {Q : State → Prop} {nL cs ss pc : Nat} {lv : List (Nat × Value)} {st : List Value} {S : HS} {cc : ByteArray} {ret : Option FieldType} {fr lo mc ms : Nat} {a : Nat} {v : Int32} (hC : JC X G RX4 cc nL ret fr lo mc ms) (h : hK S a = 6) (d : decode cc pc = .ok (.putfield 23, 3)) (k : J X G Q nL cs ss (pc + 3) lv st (sI S 8 a v)) : J X G Q nL cs ss pc lv (.int v :: .ref a :: st) S := J_put hC (ref := "SkyPlan$Target") inwX4 tyX4 tyX4_ok nmX4 (ci := 5) rfl 8 (by decide) (mG 539 (by decide +kernel) rfl) (fun _ h => h) rfl (ty := .int) rfl rfl rfl h rfl (by simp) (by rw [hob_of (show hK (sI S 8 a v) a = 6 from h)]; simp [hsh, hI_sI, hP_sI, hN_sI, hI_sP, hP_sP, hN_sP, va_rf]) (fun b hb => hob_sI hb) d k
theorem fg_X4_26 {X : JX} {G : JG} {Q : State → Prop} {nL cs ss pc : Nat} {lv : List (Nat × Value)} {st : List Value} {S : HS} {cc : ByteArray} {ret : Option FieldType} {fr lo mc ms : Nat} {a : Nat} (hC : JC X G RX4 cc nL ret fr lo mc ms) (h : hK S a = 6) (d : decode cc pc = .ok (.getfield 26, 3)) (k : J X G Q nL cs ss (pc + 3) lv (.int (hI S 10 a) :: st) S) : J X G Q nL cs ss pc lv (.ref a :: st) S := J_get hC (ref := "SkyPlan$Target") inwX4 (ci := 5) rfl 10 (by decide) (mG 543 (by decide +kernel) rfl) (fun _ h => h) h rfl rfl d k
theorem fp_X4_26 {X : JX} {G : JG} {Q : State → Prop} {nL cs ss pc : Nat} {lv : List (Nat × Value)} {st : List Value} {S : HS} {cc : ByteArray} {ret : Option FieldType} {fr lo mc ms : Nat} {a : Nat} {v : Int32} (hC : JC X G RX4 cc nL ret fr lo mc ms) (h : hK S a = 6) (d : decode cc pc = .ok (.putfield 26, 3)) (k : J X G Q nL cs ss (pc + 3) lv st (sI S 10 a v)) : J X G Q nL cs ss pc lv (.int v :: .ref a :: st) S := J_put hC (ref := "SkyPlan$Target") inwX4 tyX4 tyX4_ok nmX4 (ci := 5) rfl 10 (by decide) (mG 543 (by decide +kernel) rfl) (fun _ h => h) rfl (ty := .int) rfl rfl rfl h rfl (by simp) (by rw [hob_of (show hK (sI S 10 a v) a = 6 from h)]; simp [hsh, hI_sI, hP_sI, hN_sI, hI_sP, hP_sP, hN_sP, va_rf]) (fun b hb => hob_sI hb) d k
theorem fp_X4_29 {X : JX} {G : JG} {Q : State → Prop} {nL cs ss pc : Nat} {lv : List (Nat × Value)} {st : List Value} {S : HS} {cc : ByteArray} {ret : Option FieldType} {fr lo mc ms : Nat} {a : Nat} {v : Int32} (hC : JC X G RX4 cc nL ret fr lo mc ms) (hin2 : (xt X).name = "<init>") (h : hK S a = 6) (d : decode cc pc = .ok (.putfield 29, 3)) (k : J X G Q nL cs ss (pc + 3) lv st (sI S 0 a v)) : J X G Q nL cs ss pc lv (.int v :: .ref a :: st) S := J_putF hC hin2 (ref := "SkyPlan$Target") inwX4 tyX4 tyX4_ok nmX4 (ci := 5) rfl 0 (by decide) (mG 521 (by decide +kernel) rfl) (fun _ h => h) rfl rfl (ty := .int) rfl rfl rfl h rfl (by simp) (by rw [hob_of (show hK (sI S 0 a v) a = 6 from h)]; simp [hsh, hI_sI, hP_sI, hN_sI, hI_sP, hP_sP, hN_sP, va_rf]) (fun b hb => hob_sI hb) d k
theorem fg_X4_32 {X : JX} {G : JG} {Q : State → Prop} {nL cs ss pc : Nat} {lv : List (Nat × Value)} {st : List Value} {S : HS} {cc : ByteArray} {ret : Option FieldType} {fr lo mc ms : Nat} {a b : Nat} (hC : JC X G RX4 cc nL ret fr lo mc ms) (h : hK S a = 6) (hb : hP S 1 a = some b) (d : decode cc pc = .ok (.getfield 32, 3)) (k : J X G Q nL cs ss (pc + 3) lv (.ref b :: st) S) : J X G Q nL cs ss pc lv (.ref a :: st) S := J_get hC (ref := "SkyPlan$Target") inwX4 (ci := 5) rfl 1 (by decide) (mG 523 (by decide +kernel) rfl) (fun _ h => h) h rfl (show some (va_rf (hP S 1 a)) = _ by rw [hb]; rfl) d k
theorem fp_X4_32 {X : JX} {G : JG} {Q : State → Prop} {nL cs ss pc : Nat} {lv : List (Nat × Value)} {st : List Value} {S : HS} {cc : ByteArray} {ret : Option FieldType} {fr lo mc ms : Nat} {a v : Nat} (hC : JC X G RX4 cc nL ret fr lo mc ms) (hin2 : (xt X).name = "<init>") (h : hK S a = 6) (d : decode cc pc = .ok (.putfield 32, 3)) (k : J X G Q nL cs ss (pc + 3) lv st (sP S 1 a (some v))) : J X G Q nL cs ss pc lv (.ref v :: .ref a :: st) S := J_putF hC hin2 (ref := "SkyPlan$Target") inwX4 tyX4 tyX4_ok nmX4 (ci := 5) rfl 1 (by decide) (mG 523 (by decide +kernel) rfl) (fun _ h => h) rfl rfl (ty := (tyX4 1)) rfl rfl rfl h rfl (by simp) (by rw [hob_of (show hK (sP S 1 a (some v)) a = 6 from h)]; simp [hsh, hI_sI, hP_sI, hN_sI, hI_sP, hP_sP, hN_sP, va_rf]) (fun b hb => hob_sP hb) d k
theorem fg_X4_36 {X : JX} {G : JG} {Q : State → Prop} {nL cs ss pc : Nat} {lv : List (Nat × Value)} {st : List Value} {S : HS} {cc : ByteArray} {ret : Option FieldType} {fr lo mc ms : Nat} {a : Nat} (hC : JC X G RX4 cc nL ret fr lo mc ms) (h : hK S a = 6) (d : decode cc pc = .ok (.getfield 36, 3)) (k : J X G Q nL cs ss (pc + 3) lv (.int (hI S 2 a) :: st) S) : J X G Q nL cs ss pc lv (.ref a :: st) S := J_get hC (ref := "SkyPlan$Target") inwX4 (ci := 5) rfl 2 (by decide) (mG 526 (by decide +kernel) rfl) (fun _ h => h) h rfl rfl d k
theorem fp_X4_36 {X : JX} {G : JG} {Q : State → Prop} {nL cs ss pc : Nat} {lv : List (Nat × Value)} {st : List Value} {S : HS} {cc : ByteArray} {ret : Option FieldType} {fr lo mc ms : Nat} {a : Nat} {v : Int32} (hC : JC X G RX4 cc nL ret fr lo mc ms) (hin2 : (xt X).name = "<init>") (h : hK S a = 6) (d : decode cc pc = .ok (.putfield 36, 3)) (k : J X G Q nL cs ss (pc + 3) lv st (sI S 2 a v)) : J X G Q nL cs ss pc lv (.int v :: .ref a :: st) S := J_putF hC hin2 (ref := "SkyPlan$Target") inwX4 tyX4 tyX4_ok nmX4 (ci := 5) rfl 2 (by decide) (mG 526 (by decide +kernel) rfl) (fun _ h => h) rfl rfl (ty := .int) rfl rfl rfl h rfl (by simp) (by rw [hob_of (show hK (sI S 2 a v) a = 6 from h)]; simp [hsh, hI_sI, hP_sI, hN_sI, hI_sP, hP_sP, hN_sP, va_rf]) (fun b hb => hob_sI hb) d k
theorem fg_X4_39 {X : JX} {G : JG} {Q : State → Prop} {nL cs ss pc : Nat} {lv : List (Nat × Value)} {st : List Value} {S : HS} {cc : ByteArray} {ret : Option FieldType} {fr lo mc ms : Nat} {a : Nat} (hC : JC X G RX4 cc nL ret fr lo mc ms) (h : hK S a = 6) (d : decode cc pc = .ok (.getfield 39, 3)) (k : J X G Q nL cs ss (pc + 3) lv (.int (hI S 3 a) :: st) S) : J X G Q nL cs ss pc lv (.ref a :: st) S := J_get hC (ref := "SkyPlan$Target") inwX4 (ci := 5) rfl 3 (by decide) (mG 528 (by decide +kernel) rfl) (fun _ h => h) h rfl rfl d k
theorem fp_X4_39 {X : JX} {G : JG} {Q : State → Prop} {nL cs ss pc : Nat} {lv : List (Nat × Value)} {st : List Value} {S : HS} {cc : ByteArray} {ret : Option FieldType} {fr lo mc ms : Nat} {a : Nat} {v : Int32} (hC : JC X G RX4 cc nL ret fr lo mc ms) (hin2 : (xt X).name = "<init>") (h : hK S a = 6) (d : decode cc pc = .ok (.putfield 39, 3)) (k : J X G Q nL cs ss (pc + 3) lv st (sI S 3 a v)) : J X G Q nL cs ss pc lv (.int v :: .ref a :: st) S := J_putF hC hin2 (ref := "SkyPlan$Target") inwX4 tyX4 tyX4_ok nmX4 (ci := 5) rfl 3 (by decide) (mG 528 (by decide +kernel) rfl) (fun _ h => h) rfl rfl (ty := .int) rfl rfl rfl h rfl (by simp) (by rw [hob_of (show hK (sI S 3 a v) a = 6 from h)]; simp [hsh, hI_sI, hP_sI, hN_sI, hI_sP, hP_sP, hN_sP, va_rf]) (fun b hb => hob_sI hb) d k
theorem fg_X4_42 {X : JX} {G : JG} {Q : State → Prop} {nL cs ss pc : Nat} {lv : List (Nat × Value)} {st : List Value} {S : HS} {cc : ByteArray} {ret : Option FieldType} {fr lo mc ms : Nat} {a : Nat} (hC : JC X G RX4 cc nL ret fr lo mc ms) (h : hK S a = 6) (d : decode cc pc = .ok (.getfield 42, 3)) (k : J X G Q nL cs ss (pc + 3) lv (.int (hI S 4 a) :: st) S) : J X G Q nL cs ss pc lv (.ref a :: st) S := J_get hC (ref := "SkyPlan$Target") inwX4 (ci := 5) rfl 4 (by decide) (mG 530 (by decide +kernel) rfl) (fun _ h => h) h rfl rfl d k
theorem fp_X4_42 {X : JX} {G : JG} {Q : State → Prop} {nL cs ss pc : Nat} {lv : List (Nat × Value)} {st : List Value} {S : HS} {cc : ByteArray} {ret : Option FieldType} {fr lo mc ms : Nat} {a : Nat} {v : Int32} (hC : JC X G RX4 cc nL ret fr lo mc ms) (hin2 : (xt X).name = "<init>") (h : hK S a = 6) (d : decode cc pc = .ok (.putfield 42, 3)) (k : J X G Q nL cs ss (pc + 3) lv st (sI S 4 a v)) : J X G Q nL cs ss pc lv (.int v :: .ref a :: st) S := J_putF hC hin2 (ref := "SkyPlan$Target") inwX4 tyX4 tyX4_ok nmX4 (ci := 5) rfl 4 (by decide) (mG 530 (by decide +kernel) rfl) (fun _ h => h) rfl rfl (ty := .int) rfl rfl rfl h rfl (by simp) (by rw [hob_of (show hK (sI S 4 a v) a = 6 from h)]; simp [hsh, hI_sI, hP_sI, hN_sI, hI_sP, hP_sP, hN_sP, va_rf]) (fun b hb => hob_sI hb) d k
theorem fg_X4_45 {X : JX} {G : JG} {Q : State → Prop} {nL cs ss pc : Nat} {lv : List (Nat × Value)} {st : List Value} {S : HS} {cc : ByteArray} {ret : Option FieldType} {fr lo mc ms : Nat} {a : Nat} (hC : JC X G RX4 cc nL ret fr lo mc ms) (h : hK S a = 6) (d : decode cc pc = .ok (.getfield 45, 3)) (k : J X G Q nL cs ss (pc + 3) lv (.int (hI S 9 a) :: st) S) : J X G Q nL cs ss pc lv (.ref a :: st) S := J_get hC (ref := "SkyPlan$Target") inwX4 (ci := 5) rfl 9 (by decide) (mG 541 (by decide +kernel) rfl) (fun _ h => h) h rfl rfl d k
theorem fp_X4_45 {X : JX} {G : JG} {Q : State → Prop} {nL cs ss pc : Nat} {lv : List (Nat × Value)} {st : List Value} {S : HS} {cc : ByteArray} {ret : Option FieldType} {fr lo mc ms : Nat} {a : Nat} {v : Int32} (hC : JC X G RX4 cc nL ret fr lo mc ms) (h : hK S a = 6) (d : decode cc pc = .ok (.putfield 45, 3)) (k : J X G Q nL cs ss (pc + 3) lv st (sI S 9 a v)) : J X G Q nL cs ss pc lv (.int v :: .ref a :: st) S := J_put hC (ref := "SkyPlan$Target") inwX4 tyX4 tyX4_ok nmX4 (ci := 5) rfl 9 (by decide) (mG 541 (by decide +kernel) rfl) (fun _ h => h) rfl (ty := .int) rfl rfl rfl h rfl (by simp) (by rw [hob_of (show hK (sI S 9 a v) a = 6 from h)]; simp [hsh, hI_sI, hP_sI, hN_sI, hI_sP, hP_sP, hN_sP, va_rf]) (fun b hb => hob_sI hb) d k
theorem fg_X4_48 {X : JX} {G : JG} {Q : State → Prop} {nL cs ss pc : Nat} {lv : List (Nat × Value)} {st : List Value} {S : HS} {cc : ByteArray} {ret : Option FieldType} {fr lo mc ms : Nat} {a : Nat} (hC : JC X G RX4 cc nL ret fr lo mc ms) (h : hK S a = 6) (d : decode cc pc = .ok (.getfield 48, 3)) (k : J X G Q nL cs ss (pc + 3) lv (.int (hI S 11 a) :: st) S) : J X G Q nL cs ss pc lv (.ref a :: st) S := J_get hC (ref := "SkyPlan$Target") inwX4 (ci := 5) rfl 11 (by decide) (mG 544 (by decide +kernel) rfl) (fun _ h => h) h rfl rfl d k
theorem fg_X4_52 {X : JX} {G : JG} {Q : State → Prop} {nL cs ss pc : Nat} {lv : List (Nat × Value)} {st : List Value} {S : HS} {cc : ByteArray} {ret : Option FieldType} {fr lo mc ms : Nat} {a : Nat} (hC : JC X G RX4 cc nL ret fr lo mc ms) (h : hK S a = 5) (d : decode cc pc = .ok (.getfield 52, 3)) (k : J X G Q nL cs ss (pc + 3) lv (.int (hI S 0 a) :: st) S) : J X G Q nL cs ss pc lv (.ref a :: st) S := J_get hC (ref := "SkyPlan$Point") inwX3 (ci := 4) rfl 0 (by decide) (mG 76 (by decide +kernel) rfl) (fun _ h => h) h rfl rfl d k
theorem fg_X4_57 {X : JX} {G : JG} {Q : State → Prop} {nL cs ss pc : Nat} {lv : List (Nat × Value)} {st : List Value} {S : HS} {cc : ByteArray} {ret : Option FieldType} {fr lo mc ms : Nat} {a : Nat} (hC : JC X G RX4 cc nL ret fr lo mc ms) (h : hK S a = 5) (d : decode cc pc = .ok (.getfield 57, 3)) (k : J X G Q nL cs ss (pc + 3) lv (.int (hI S 1 a) :: st) S) : J X G Q nL cs ss pc lv (.ref a :: st) S := J_get hC (ref := "SkyPlan$Point") inwX3 (ci := 4) rfl 1 (by decide) (mG 80 (by decide +kernel) rfl) (fun _ h => h) h rfl rfl d k
theorem fg_X6_7 {X : JX} {G : JG} {Q : State → Prop} {nL cs ss pc : Nat} {lv : List (Nat × Value)} {st : List Value} {S : HS} {cc : ByteArray} {ret : Option FieldType} {fr lo mc ms : Nat} {a : Nat} (hC : JC X G RX6 cc nL ret fr lo mc ms) (h : hK S a = 17) (d : decode cc pc = .ok (.getfield 7, 3)) (k : J X G Q nL cs ss (pc + 3) lv (.int (hI S 2 a) :: st) S) : J X G Q nL cs ss pc lv (.ref a :: st) S := J_get hC (ref := "SkyPlanModel") inwX6 (ci := 7) rfl 2 (by decide) (mG 773 (by decide +kernel) rfl) (fun _ h => h) h rfl rfl d k
theorem fp_X6_7 {X : JX} {G : JG} {Q : State → Prop} {nL cs ss pc : Nat} {lv : List (Nat × Value)} {st : List Value} {S : HS} {cc : ByteArray} {ret : Option FieldType} {fr lo mc ms : Nat} {a : Nat} {v : Int32} (hC : JC X G RX6 cc nL ret fr lo mc ms) (h : hK S a = 17) (d : decode cc pc = .ok (.putfield 7, 3)) (k : J X G Q nL cs ss (pc + 3) lv st (sI S 2 a v)) : J X G Q nL cs ss pc lv (.int v :: .ref a :: st) S := J_put hC (ref := "SkyPlanModel") inwX6 tyX6 tyX6_ok nmX6 (ci := 7) rfl 2 (by decide) (mG 773 (by decide +kernel) rfl) (fun _ h => h) rfl (ty := .int) rfl rfl rfl h rfl (by simp) (by rw [hob_of (show hK (sI S 2 a v) a = 17 from h)]; simp [hsh, hI_sI, hP_sI, hN_sI, hI_sP, hP_sP, hN_sP, va_rf]) (fun b hb => hob_sI hb) d k
theorem fg_X6_13 {X : JX} {G : JG} {Q : State → Prop} {nL cs ss pc : Nat} {lv : List (Nat × Value)} {st : List Value} {S : HS} {cc : ByteArray} {ret : Option FieldType} {fr lo mc ms : Nat} {a : Nat} (hC : JC X G RX6 cc nL ret fr lo mc ms) (h : hK S a = 17) (d : decode cc pc = .ok (.getfield 13, 3)) (k : J X G Q nL cs ss (pc + 3) lv (.int (hI S 3 a) :: st) S) : J X G Q nL cs ss pc lv (.ref a :: st) S := J_get hC (ref := "SkyPlanModel") inwX6 (ci := 7) rfl 3 (by decide) (mG 774 (by decide +kernel) rfl) (fun _ h => h) h rfl rfl d k
theorem fp_X6_13 {X : JX} {G : JG} {Q : State → Prop} {nL cs ss pc : Nat} {lv : List (Nat × Value)} {st : List Value} {S : HS} {cc : ByteArray} {ret : Option FieldType} {fr lo mc ms : Nat} {a : Nat} {v : Int32} (hC : JC X G RX6 cc nL ret fr lo mc ms) (h : hK S a = 17) (d : decode cc pc = .ok (.putfield 13, 3)) (k : J X G Q nL cs ss (pc + 3) lv st (sI S 3 a v)) : J X G Q nL cs ss pc lv (.int v :: .ref a :: st) S := J_put hC (ref := "SkyPlanModel") inwX6 tyX6 tyX6_ok nmX6 (ci := 7) rfl 3 (by decide) (mG 774 (by decide +kernel) rfl) (fun _ h => h) rfl (ty := .int) rfl rfl rfl h rfl (by simp) (by rw [hob_of (show hK (sI S 3 a v) a = 17 from h)]; simp [hsh, hI_sI, hP_sI, hN_sI, hI_sP, hP_sP, hN_sP, va_rf]) (fun b hb => hob_sI hb) d k
theorem fg_X6_16 {X : JX} {G : JG} {Q : State → Prop} {nL cs ss pc : Nat} {lv : List (Nat × Value)} {st : List Value} {S : HS} {cc : ByteArray} {ret : Option FieldType} {fr lo mc ms : Nat} {a b : Nat} (hC : JC X G RX6 cc nL ret fr lo mc ms) (h : hK S a = 17) (hb : hP S 9 a = some b) (d : decode cc pc = .ok (.getfield 16, 3)) (k : J X G Q nL cs ss (pc + 3) lv (.ref b :: st) S) : J X G Q nL cs ss pc lv (.ref a :: st) S := J_get hC (ref := "SkyPlanModel") inwX6 (ci := 7) rfl 9 (by decide) (mG 780 (by decide +kernel) rfl) (fun _ h => h) h rfl (show some (va_rf (hP S 9 a)) = _ by rw [hb]; rfl) d k
theorem fp_X6_16 {X : JX} {G : JG} {Q : State → Prop} {nL cs ss pc : Nat} {lv : List (Nat × Value)} {st : List Value} {S : HS} {cc : ByteArray} {ret : Option FieldType} {fr lo mc ms : Nat} {a v : Nat} (hC : JC X G RX6 cc nL ret fr lo mc ms) (hin2 : (xt X).name = "<init>") (h : hK S a = 17) (d : decode cc pc = .ok (.putfield 16, 3)) (k : J X G Q nL cs ss (pc + 3) lv st (sP S 9 a (some v))) : J X G Q nL cs ss pc lv (.ref v :: .ref a :: st) S := J_putF hC hin2 (ref := "SkyPlanModel") inwX6 tyX6 tyX6_ok nmX6 (ci := 7) rfl 9 (by decide) (mG 780 (by decide +kernel) rfl) (fun _ h => h) rfl rfl (ty := (tyX6 9)) rfl rfl rfl h rfl (by simp) (by rw [hob_of (show hK (sP S 9 a (some v)) a = 17 from h)]; simp [hsh, hI_sI, hP_sI, hN_sI, hI_sP, hP_sP, hN_sP, va_rf]) (fun b hb => hob_sP hb) d k
theorem fg_X6_20 {X : JX} {G : JG} {Q : State → Prop} {nL cs ss pc : Nat} {lv : List (Nat × Value)} {st : List Value} {S : HS} {cc : ByteArray} {ret : Option FieldType} {fr lo mc ms : Nat} {a b : Nat} (hC : JC X G RX6 cc nL ret fr lo mc ms) (h : hK S a = 17) (hb : hP S 11 a = some b) (d : decode cc pc = .ok (.getfield 20, 3)) (k : J X G Q nL cs ss (pc + 3) lv (.ref b :: st) S) : J X G Q nL cs ss pc lv (.ref a :: st) S := J_get hC (ref := "SkyPlanModel") inwX6 (ci := 7) rfl 11 (by decide) (mG 782 (by decide +kernel) rfl) (fun _ h => h) h rfl (show some (va_rf (hP S 11 a)) = _ by rw [hb]; rfl) d k
theorem fp_X6_20 {X : JX} {G : JG} {Q : State → Prop} {nL cs ss pc : Nat} {lv : List (Nat × Value)} {st : List Value} {S : HS} {cc : ByteArray} {ret : Option FieldType} {fr lo mc ms : Nat} {a v : Nat} (hC : JC X G RX6 cc nL ret fr lo mc ms) (hin2 : (xt X).name = "<init>") (h : hK S a = 17) (d : decode cc pc = .ok (.putfield 20, 3)) (k : J X G Q nL cs ss (pc + 3) lv st (sP S 11 a (some v))) : J X G Q nL cs ss pc lv (.ref v :: .ref a :: st) S := J_putF hC hin2 (ref := "SkyPlanModel") inwX6 tyX6 tyX6_ok nmX6 (ci := 7) rfl 11 (by decide) (mG 782 (by decide +kernel) rfl) (fun _ h => h) rfl rfl (ty := (tyX6 11)) rfl rfl rfl h rfl (by simp) (by rw [hob_of (show hK (sP S 11 a (some v)) a = 17 from h)]; simp [hsh, hI_sI, hP_sI, hN_sI, hI_sP, hP_sP, hN_sP, va_rf]) (fun b hb => hob_sP hb) d k
theorem fg_X6_24 {X : JX} {G : JG} {Q : State → Prop} {nL cs ss pc : Nat} {lv : List (Nat × Value)} {st : List Value} {S : HS} {cc : ByteArray} {ret : Option FieldType} {fr lo mc ms : Nat} {a b : Nat} (hC : JC X G RX6 cc nL ret fr lo mc ms) (h : hK S a = 17) (hb : hP S 12 a = some b) (d : decode cc pc = .ok (.getfield 24, 3)) (k : J X G Q nL cs ss (pc + 3) lv (.ref b :: st) S) : J X G Q nL cs ss pc lv (.ref a :: st) S := J_get hC (ref := "SkyPlanModel") inwX6 (ci := 7) rfl 12 (by decide) (mG 783 (by decide +kernel) rfl) (fun _ h => h) h rfl (show some (va_rf (hP S 12 a)) = _ by rw [hb]; rfl) d k
theorem fp_X6_24 {X : JX} {G : JG} {Q : State → Prop} {nL cs ss pc : Nat} {lv : List (Nat × Value)} {st : List Value} {S : HS} {cc : ByteArray} {ret : Option FieldType} {fr lo mc ms : Nat} {a v : Nat} (hC : JC X G RX6 cc nL ret fr lo mc ms) (hin2 : (xt X).name = "<init>") (h : hK S a = 17) (d : decode cc pc = .ok (.putfield 24, 3)) (k : J X G Q nL cs ss (pc + 3) lv st (sP S 12 a (some v))) : J X G Q nL cs ss pc lv (.ref v :: .ref a :: st) S := J_putF hC hin2 (ref := "SkyPlanModel") inwX6 tyX6 tyX6_ok nmX6 (ci := 7) rfl 12 (by decide) (mG 783 (by decide +kernel) rfl) (fun _ h => h) rfl rfl (ty := (tyX6 12)) rfl rfl rfl h rfl (by simp) (by rw [hob_of (show hK (sP S 12 a (some v)) a = 17 from h)]; simp [hsh, hI_sI, hP_sI, hN_sI, hI_sP, hP_sP, hN_sP, va_rf]) (fun b hb => hob_sP hb) d k
theorem fg_X6_27 {X : JX} {G : JG} {Q : State → Prop} {nL cs ss pc : Nat} {lv : List (Nat × Value)} {st : List Value} {S : HS} {cc : ByteArray} {ret : Option FieldType} {fr lo mc ms : Nat} {a b : Nat} (hC : JC X G RX6 cc nL ret fr lo mc ms) (h : hK S a = 17) (hb : hP S 13 a = some b) (d : decode cc pc = .ok (.getfield 27, 3)) (k : J X G Q nL cs ss (pc + 3) lv (.ref b :: st) S) : J X G Q nL cs ss pc lv (.ref a :: st) S := J_get hC (ref := "SkyPlanModel") inwX6 (ci := 7) rfl 13 (by decide) (mG 784 (by decide +kernel) rfl) (fun _ h => h) h rfl (show some (va_rf (hP S 13 a)) = _ by rw [hb]; rfl) d k
theorem fp_X6_27 {X : JX} {G : JG} {Q : State → Prop} {nL cs ss pc : Nat} {lv : List (Nat × Value)} {st : List Value} {S : HS} {cc : ByteArray} {ret : Option FieldType} {fr lo mc ms : Nat} {a v : Nat} (hC : JC X G RX6 cc nL ret fr lo mc ms) (hin2 : (xt X).name = "<init>") (h : hK S a = 17) (d : decode cc pc = .ok (.putfield 27, 3)) (k : J X G Q nL cs ss (pc + 3) lv st (sP S 13 a (some v))) : J X G Q nL cs ss pc lv (.ref v :: .ref a :: st) S := J_putF hC hin2 (ref := "SkyPlanModel") inwX6 tyX6 tyX6_ok nmX6 (ci := 7) rfl 13 (by decide) (mG 784 (by decide +kernel) rfl) (fun _ h => h) rfl rfl (ty := (tyX6 13)) rfl rfl rfl h rfl (by simp) (by rw [hob_of (show hK (sP S 13 a (some v)) a = 17 from h)]; simp [hsh, hI_sI, hP_sI, hN_sI, hI_sP, hP_sP, hN_sP, va_rf]) (fun b hb => hob_sP hb) d k
theorem fg_X6_30 {X : JX} {G : JG} {Q : State → Prop} {nL cs ss pc : Nat} {lv : List (Nat × Value)} {st : List Value} {S : HS} {cc : ByteArray} {ret : Option FieldType} {fr lo mc ms : Nat} {a b : Nat} (hC : JC X G RX6 cc nL ret fr lo mc ms) (h : hK S a = 17) (hb : hP S 14 a = some b) (d : decode cc pc = .ok (.getfield 30, 3)) (k : J X G Q nL cs ss (pc + 3) lv (.ref b :: st) S) : J X G Q nL cs ss pc lv (.ref a :: st) S := J_get hC (ref := "SkyPlanModel") inwX6 (ci := 7) rfl 14 (by decide) (mG 785 (by decide +kernel) rfl) (fun _ h => h) h rfl (show some (va_rf (hP S 14 a)) = _ by rw [hb]; rfl) d k
theorem fp_X6_30 {X : JX} {G : JG} {Q : State → Prop} {nL cs ss pc : Nat} {lv : List (Nat × Value)} {st : List Value} {S : HS} {cc : ByteArray} {ret : Option FieldType} {fr lo mc ms : Nat} {a v : Nat} (hC : JC X G RX6 cc nL ret fr lo mc ms) (hin2 : (xt X).name = "<init>") (h : hK S a = 17) (d : decode cc pc = .ok (.putfield 30, 3)) (k : J X G Q nL cs ss (pc + 3) lv st (sP S 14 a (some v))) : J X G Q nL cs ss pc lv (.ref v :: .ref a :: st) S := J_putF hC hin2 (ref := "SkyPlanModel") inwX6 tyX6 tyX6_ok nmX6 (ci := 7) rfl 14 (by decide) (mG 785 (by decide +kernel) rfl) (fun _ h => h) rfl rfl (ty := (tyX6 14)) rfl rfl rfl h rfl (by simp) (by rw [hob_of (show hK (sP S 14 a (some v)) a = 17 from h)]; simp [hsh, hI_sI, hP_sI, hN_sI, hI_sP, hP_sP, hN_sP, va_rf]) (fun b hb => hob_sP hb) d k
theorem fg_X6_33 {X : JX} {G : JG} {Q : State → Prop} {nL cs ss pc : Nat} {lv : List (Nat × Value)} {st : List Value} {S : HS} {cc : ByteArray} {ret : Option FieldType} {fr lo mc ms : Nat} {a b : Nat} (hC : JC X G RX6 cc nL ret fr lo mc ms) (h : hK S a = 17) (hb : hP S 15 a = some b) (d : decode cc pc = .ok (.getfield 33, 3)) (k : J X G Q nL cs ss (pc + 3) lv (.ref b :: st) S) : J X G Q nL cs ss pc lv (.ref a :: st) S := J_get hC (ref := "SkyPlanModel") inwX6 (ci := 7) rfl 15 (by decide) (mG 786 (by decide +kernel) rfl) (fun _ h => h) h rfl (show some (va_rf (hP S 15 a)) = _ by rw [hb]; rfl) d k
theorem fp_X6_33 {X : JX} {G : JG} {Q : State → Prop} {nL cs ss pc : Nat} {lv : List (Nat × Value)} {st : List Value} {S : HS} {cc : ByteArray} {ret : Option FieldType} {fr lo mc ms : Nat} {a v : Nat} (hC : JC X G RX6 cc nL ret fr lo mc ms) (hin2 : (xt X).name = "<init>") (h : hK S a = 17) (d : decode cc pc = .ok (.putfield 33, 3)) (k : J X G Q nL cs ss (pc + 3) lv st (sP S 15 a (some v))) : J X G Q nL cs ss pc lv (.ref v :: .ref a :: st) S := J_putF hC hin2 (ref := "SkyPlanModel") inwX6 tyX6 tyX6_ok nmX6 (ci := 7) rfl 15 (by decide) (mG 786 (by decide +kernel) rfl) (fun _ h => h) rfl rfl (ty := (tyX6 15)) rfl rfl rfl h rfl (by simp) (by rw [hob_of (show hK (sP S 15 a (some v)) a = 17 from h)]; simp [hsh, hI_sI, hP_sI, hN_sI, hI_sP, hP_sP, hN_sP, va_rf]) (fun b hb => hob_sP hb) d k
theorem fg_X6_36 {X : JX} {G : JG} {Q : State → Prop} {nL cs ss pc : Nat} {lv : List (Nat × Value)} {st : List Value} {S : HS} {cc : ByteArray} {ret : Option FieldType} {fr lo mc ms : Nat} {a b : Nat} (hC : JC X G RX6 cc nL ret fr lo mc ms) (h : hK S a = 17) (hb : hP S 16 a = some b) (d : decode cc pc = .ok (.getfield 36, 3)) (k : J X G Q nL cs ss (pc + 3) lv (.ref b :: st) S) : J X G Q nL cs ss pc lv (.ref a :: st) S := J_get hC (ref := "SkyPlanModel") inwX6 (ci := 7) rfl 16 (by decide) (mG 787 (by decide +kernel) rfl) (fun _ h => h) h rfl (show some (va_rf (hP S 16 a)) = _ by rw [hb]; rfl) d k
theorem fp_X6_36 {X : JX} {G : JG} {Q : State → Prop} {nL cs ss pc : Nat} {lv : List (Nat × Value)} {st : List Value} {S : HS} {cc : ByteArray} {ret : Option FieldType} {fr lo mc ms : Nat} {a v : Nat} (hC : JC X G RX6 cc nL ret fr lo mc ms) (hin2 : (xt X).name = "<init>") (h : hK S a = 17) (d : decode cc pc = .ok (.putfield 36, 3)) (k : J X G Q nL cs ss (pc + 3) lv st (sP S 16 a (some v))) : J X G Q nL cs ss pc lv (.ref v :: .ref a :: st) S := J_putF hC hin2 (ref := "SkyPlanModel") inwX6 tyX6 tyX6_ok nmX6 (ci := 7) rfl 16 (by decide) (mG 787 (by decide +kernel) rfl) (fun _ h => h) rfl rfl (ty := (tyX6 16)) rfl rfl rfl h rfl (by simp) (by rw [hob_of (show hK (sP S 16 a (some v)) a = 17 from h)]; simp [hsh, hI_sI, hP_sI, hN_sI, hI_sP, hP_sP, hN_sP, va_rf]) (fun b hb => hob_sP hb) d k
theorem fg_X6_39 {X : JX} {G : JG} {Q : State → Prop} {nL cs ss pc : Nat} {lv : List (Nat × Value)} {st : List Value} {S : HS} {cc : ByteArray} {ret : Option FieldType} {fr lo mc ms : Nat} {a b : Nat} (hC : JC X G RX6 cc nL ret fr lo mc ms) (h : hK S a = 17) (hb : hP S 17 a = some b) (d : decode cc pc = .ok (.getfield 39, 3)) (k : J X G Q nL cs ss (pc + 3) lv (.ref b :: st) S) : J X G Q nL cs ss pc lv (.ref a :: st) S := J_get hC (ref := "SkyPlanModel") inwX6 (ci := 7) rfl 17 (by decide) (mG 788 (by decide +kernel) rfl) (fun _ h => h) h rfl (show some (va_rf (hP S 17 a)) = _ by rw [hb]; rfl) d k
theorem fp_X6_39 {X : JX} {G : JG} {Q : State → Prop} {nL cs ss pc : Nat} {lv : List (Nat × Value)} {st : List Value} {S : HS} {cc : ByteArray} {ret : Option FieldType} {fr lo mc ms : Nat} {a v : Nat} (hC : JC X G RX6 cc nL ret fr lo mc ms) (hin2 : (xt X).name = "<init>") (h : hK S a = 17) (d : decode cc pc = .ok (.putfield 39, 3)) (k : J X G Q nL cs ss (pc + 3) lv st (sP S 17 a (some v))) : J X G Q nL cs ss pc lv (.ref v :: .ref a :: st) S := J_putF hC hin2 (ref := "SkyPlanModel") inwX6 tyX6 tyX6_ok nmX6 (ci := 7) rfl 17 (by decide) (mG 788 (by decide +kernel) rfl) (fun _ h => h) rfl rfl (ty := (tyX6 17)) rfl rfl rfl h rfl (by simp) (by rw [hob_of (show hK (sP S 17 a (some v)) a = 17 from h)]; simp [hsh, hI_sI, hP_sI, hN_sI, hI_sP, hP_sP, hN_sP, va_rf]) (fun b hb => hob_sP hb) d k
theorem fg_X6_42 {X : JX} {G : JG} {Q : State → Prop} {nL cs ss pc : Nat} {lv : List (Nat × Value)} {st : List Value} {S : HS} {cc : ByteArray} {ret : Option FieldType} {fr lo mc ms : Nat} {a b : Nat} (hC : JC X G RX6 cc nL ret fr lo mc ms) (h : hK S a = 17) (hb : hP S 18 a = some b) (d : decode cc pc = .ok (.getfield 42, 3)) (k : J X G Q nL cs ss (pc + 3) lv (.ref b :: st) S) : J X G Q nL cs ss pc lv (.ref a :: st) S := J_get hC (ref := "SkyPlanModel") inwX6 (ci := 7) rfl 18 (by decide) (mG 789 (by decide +kernel) rfl) (fun _ h => h) h rfl (show some (va_rf (hP S 18 a)) = _ by rw [hb]; rfl) d k
theorem fp_X6_42 {X : JX} {G : JG} {Q : State → Prop} {nL cs ss pc : Nat} {lv : List (Nat × Value)} {st : List Value} {S : HS} {cc : ByteArray} {ret : Option FieldType} {fr lo mc ms : Nat} {a v : Nat} (hC : JC X G RX6 cc nL ret fr lo mc ms) (hin2 : (xt X).name = "<init>") (h : hK S a = 17) (d : decode cc pc = .ok (.putfield 42, 3)) (k : J X G Q nL cs ss (pc + 3) lv st (sP S 18 a (some v))) : J X G Q nL cs ss pc lv (.ref v :: .ref a :: st) S := J_putF hC hin2 (ref := "SkyPlanModel") inwX6 tyX6 tyX6_ok nmX6 (ci := 7) rfl 18 (by decide) (mG 789 (by decide +kernel) rfl) (fun _ h => h) rfl rfl (ty := (tyX6 18)) rfl rfl rfl h rfl (by simp) (by rw [hob_of (show hK (sP S 18 a (some v)) a = 17 from h)]; simp [hsh, hI_sI, hP_sI, hN_sI, hI_sP, hP_sP, hN_sP, va_rf]) (fun b hb => hob_sP hb) d k
theorem fg_X6_45 {X : JX} {G : JG} {Q : State → Prop} {nL cs ss pc : Nat} {lv : List (Nat × Value)} {st : List Value} {S : HS} {cc : ByteArray} {ret : Option FieldType} {fr lo mc ms : Nat} {a b : Nat} (hC : JC X G RX6 cc nL ret fr lo mc ms) (h : hK S a = 17) (hb : hP S 19 a = some b) (d : decode cc pc = .ok (.getfield 45, 3)) (k : J X G Q nL cs ss (pc + 3) lv (.ref b :: st) S) : J X G Q nL cs ss pc lv (.ref a :: st) S := J_get hC (ref := "SkyPlanModel") inwX6 (ci := 7) rfl 19 (by decide) (mG 790 (by decide +kernel) rfl) (fun _ h => h) h rfl (show some (va_rf (hP S 19 a)) = _ by rw [hb]; rfl) d k
theorem fp_X6_45 {X : JX} {G : JG} {Q : State → Prop} {nL cs ss pc : Nat} {lv : List (Nat × Value)} {st : List Value} {S : HS} {cc : ByteArray} {ret : Option FieldType} {fr lo mc ms : Nat} {a v : Nat} (hC : JC X G RX6 cc nL ret fr lo mc ms) (hin2 : (xt X).name = "<init>") (h : hK S a = 17) (d : decode cc pc = .ok (.putfield 45, 3)) (k : J X G Q nL cs ss (pc + 3) lv st (sP S 19 a (some v))) : J X G Q nL cs ss pc lv (.ref v :: .ref a :: st) S := J_putF hC hin2 (ref := "SkyPlanModel") inwX6 tyX6 tyX6_ok nmX6 (ci := 7) rfl 19 (by decide) (mG 790 (by decide +kernel) rfl) (fun _ h => h) rfl rfl (ty := (tyX6 19)) rfl rfl rfl h rfl (by simp) (by rw [hob_of (show hK (sP S 19 a (some v)) a = 17 from h)]; simp [hsh, hI_sI, hP_sI, hN_sI, hI_sP, hP_sP, hN_sP, va_rf]) (fun b hb => hob_sP hb) d k
theorem fg_X6_48 {X : JX} {G : JG} {Q : State → Prop} {nL cs ss pc : Nat} {lv : List (Nat × Value)} {st : List Value} {S : HS} {cc : ByteArray} {ret : Option FieldType} {fr lo mc ms : Nat} {a b : Nat} (hC : JC X G RX6 cc nL ret fr lo mc ms) (h : hK S a = 17) (hb : hP S 20 a = some b) (d : decode cc pc = .ok (.getfield 48, 3)) (k : J X G Q nL cs ss (pc + 3) lv (.ref b :: st) S) : J X G Q nL cs ss pc lv (.ref a :: st) S := J_get hC (ref := "SkyPlanModel") inwX6 (ci := 7) rfl 20 (by decide) (mG 791 (by decide +kernel) rfl) (fun _ h => h) h rfl (show some (va_rf (hP S 20 a)) = _ by rw [hb]; rfl) d k
theorem fp_X6_48 {X : JX} {G : JG} {Q : State → Prop} {nL cs ss pc : Nat} {lv : List (Nat × Value)} {st : List Value} {S : HS} {cc : ByteArray} {ret : Option FieldType} {fr lo mc ms : Nat} {a v : Nat} (hC : JC X G RX6 cc nL ret fr lo mc ms) (hin2 : (xt X).name = "<init>") (h : hK S a = 17) (d : decode cc pc = .ok (.putfield 48, 3)) (k : J X G Q nL cs ss (pc + 3) lv st (sP S 20 a (some v))) : J X G Q nL cs ss pc lv (.ref v :: .ref a :: st) S := J_putF hC hin2 (ref := "SkyPlanModel") inwX6 tyX6 tyX6_ok nmX6 (ci := 7) rfl 20 (by decide) (mG 791 (by decide +kernel) rfl) (fun _ h => h) rfl rfl (ty := (tyX6 20)) rfl rfl rfl h rfl (by simp) (by rw [hob_of (show hK (sP S 20 a (some v)) a = 17 from h)]; simp [hsh, hI_sI, hP_sI, hN_sI, hI_sP, hP_sP, hN_sP, va_rf]) (fun b hb => hob_sP hb) d k
theorem fg_X6_51 {X : JX} {G : JG} {Q : State → Prop} {nL cs ss pc : Nat} {lv : List (Nat × Value)} {st : List Value} {S : HS} {cc : ByteArray} {ret : Option FieldType} {fr lo mc ms : Nat} {a b : Nat} (hC : JC X G RX6 cc nL ret fr lo mc ms) (h : hK S a = 17) (hb : hP S 22 a = some b) (d : decode cc pc = .ok (.getfield 51, 3)) (k : J X G Q nL cs ss (pc + 3) lv (.ref b :: st) S) : J X G Q nL cs ss pc lv (.ref a :: st) S := J_get hC (ref := "SkyPlanModel") inwX6 (ci := 7) rfl 22 (by decide) (mG 793 (by decide +kernel) rfl) (fun _ h => h) h rfl (show some (va_rf (hP S 22 a)) = _ by rw [hb]; rfl) d k
theorem fp_X6_51 {X : JX} {G : JG} {Q : State → Prop} {nL cs ss pc : Nat} {lv : List (Nat × Value)} {st : List Value} {S : HS} {cc : ByteArray} {ret : Option FieldType} {fr lo mc ms : Nat} {a v : Nat} (hC : JC X G RX6 cc nL ret fr lo mc ms) (hin2 : (xt X).name = "<init>") (h : hK S a = 17) (d : decode cc pc = .ok (.putfield 51, 3)) (k : J X G Q nL cs ss (pc + 3) lv st (sP S 22 a (some v))) : J X G Q nL cs ss pc lv (.ref v :: .ref a :: st) S := J_putF hC hin2 (ref := "SkyPlanModel") inwX6 tyX6 tyX6_ok nmX6 (ci := 7) rfl 22 (by decide) (mG 793 (by decide +kernel) rfl) (fun _ h => h) rfl rfl (ty := (tyX6 22)) rfl rfl rfl h rfl (by simp) (by rw [hob_of (show hK (sP S 22 a (some v)) a = 17 from h)]; simp [hsh, hI_sI, hP_sI, hN_sI, hI_sP, hP_sP, hN_sP, va_rf]) (fun b hb => hob_sP hb) d k
theorem fg_X6_54 {X : JX} {G : JG} {Q : State → Prop} {nL cs ss pc : Nat} {lv : List (Nat × Value)} {st : List Value} {S : HS} {cc : ByteArray} {ret : Option FieldType} {fr lo mc ms : Nat} {a b : Nat} (hC : JC X G RX6 cc nL ret fr lo mc ms) (h : hK S a = 17) (hb : hP S 23 a = some b) (d : decode cc pc = .ok (.getfield 54, 3)) (k : J X G Q nL cs ss (pc + 3) lv (.ref b :: st) S) : J X G Q nL cs ss pc lv (.ref a :: st) S := J_get hC (ref := "SkyPlanModel") inwX6 (ci := 7) rfl 23 (by decide) (mG 794 (by decide +kernel) rfl) (fun _ h => h) h rfl (show some (va_rf (hP S 23 a)) = _ by rw [hb]; rfl) d k
theorem fp_X6_54 {X : JX} {G : JG} {Q : State → Prop} {nL cs ss pc : Nat} {lv : List (Nat × Value)} {st : List Value} {S : HS} {cc : ByteArray} {ret : Option FieldType} {fr lo mc ms : Nat} {a v : Nat} (hC : JC X G RX6 cc nL ret fr lo mc ms) (hin2 : (xt X).name = "<init>") (h : hK S a = 17) (d : decode cc pc = .ok (.putfield 54, 3)) (k : J X G Q nL cs ss (pc + 3) lv st (sP S 23 a (some v))) : J X G Q nL cs ss pc lv (.ref v :: .ref a :: st) S := J_putF hC hin2 (ref := "SkyPlanModel") inwX6 tyX6 tyX6_ok nmX6 (ci := 7) rfl 23 (by decide) (mG 794 (by decide +kernel) rfl) (fun _ h => h) rfl rfl (ty := (tyX6 23)) rfl rfl rfl h rfl (by simp) (by rw [hob_of (show hK (sP S 23 a (some v)) a = 17 from h)]; simp [hsh, hI_sI, hP_sI, hN_sI, hI_sP, hP_sP, hN_sP, va_rf]) (fun b hb => hob_sP hb) d k
theorem fg_X6_57 {X : JX} {G : JG} {Q : State → Prop} {nL cs ss pc : Nat} {lv : List (Nat × Value)} {st : List Value} {S : HS} {cc : ByteArray} {ret : Option FieldType} {fr lo mc ms : Nat} {a b : Nat} (hC : JC X G RX6 cc nL ret fr lo mc ms) (h : hK S a = 17) (hb : hP S 25 a = some b) (d : decode cc pc = .ok (.getfield 57, 3)) (k : J X G Q nL cs ss (pc + 3) lv (.ref b :: st) S) : J X G Q nL cs ss pc lv (.ref a :: st) S := J_get hC (ref := "SkyPlanModel") inwX6 (ci := 7) rfl 25 (by decide) (mG 796 (by decide +kernel) rfl) (fun _ h => h) h rfl (show some (va_rf (hP S 25 a)) = _ by rw [hb]; rfl) d k
theorem fp_X6_57 {X : JX} {G : JG} {Q : State → Prop} {nL cs ss pc : Nat} {lv : List (Nat × Value)} {st : List Value} {S : HS} {cc : ByteArray} {ret : Option FieldType} {fr lo mc ms : Nat} {a v : Nat} (hC : JC X G RX6 cc nL ret fr lo mc ms) (hin2 : (xt X).name = "<init>") (h : hK S a = 17) (d : decode cc pc = .ok (.putfield 57, 3)) (k : J X G Q nL cs ss (pc + 3) lv st (sP S 25 a (some v))) : J X G Q nL cs ss pc lv (.ref v :: .ref a :: st) S := J_putF hC hin2 (ref := "SkyPlanModel") inwX6 tyX6 tyX6_ok nmX6 (ci := 7) rfl 25 (by decide) (mG 796 (by decide +kernel) rfl) (fun _ h => h) rfl rfl (ty := (tyX6 25)) rfl rfl rfl h rfl (by simp) (by rw [hob_of (show hK (sP S 25 a (some v)) a = 17 from h)]; simp [hsh, hI_sI, hP_sI, hN_sI, hI_sP, hP_sP, hN_sP, va_rf]) (fun b hb => hob_sP hb) d k
theorem fg_X6_60 {X : JX} {G : JG} {Q : State → Prop} {nL cs ss pc : Nat} {lv : List (Nat × Value)} {st : List Value} {S : HS} {cc : ByteArray} {ret : Option FieldType} {fr lo mc ms : Nat} {a : Nat} (hC : JC X G RX6 cc nL ret fr lo mc ms) (h : hK S a = 17) (d : decode cc pc = .ok (.getfield 60, 3)) (k : J X G Q nL cs ss (pc + 3) lv (.int (hI S 0 a) :: st) S) : J X G Q nL cs ss pc lv (.ref a :: st) S := J_get hC (ref := "SkyPlanModel") inwX6 (ci := 7) rfl 0 (by decide) (mG 771 (by decide +kernel) rfl) (fun _ h => h) h rfl rfl d k
theorem fp_X6_60 {X : JX} {G : JG} {Q : State → Prop} {nL cs ss pc : Nat} {lv : List (Nat × Value)} {st : List Value} {S : HS} {cc : ByteArray} {ret : Option FieldType} {fr lo mc ms : Nat} {a : Nat} {v : Int32} (hC : JC X G RX6 cc nL ret fr lo mc ms) (h : hK S a = 17) (d : decode cc pc = .ok (.putfield 60, 3)) (k : J X G Q nL cs ss (pc + 3) lv st (sI S 0 a v)) : J X G Q nL cs ss pc lv (.int v :: .ref a :: st) S := J_put hC (ref := "SkyPlanModel") inwX6 tyX6 tyX6_ok nmX6 (ci := 7) rfl 0 (by decide) (mG 771 (by decide +kernel) rfl) (fun _ h => h) rfl (ty := .int) rfl rfl rfl h rfl (by simp) (by rw [hob_of (show hK (sI S 0 a v) a = 17 from h)]; simp [hsh, hI_sI, hP_sI, hN_sI, hI_sP, hP_sP, hN_sP, va_rf]) (fun b hb => hob_sI hb) d k
theorem fg_X6_63 {X : JX} {G : JG} {Q : State → Prop} {nL cs ss pc : Nat} {lv : List (Nat × Value)} {st : List Value} {S : HS} {cc : ByteArray} {ret : Option FieldType} {fr lo mc ms : Nat} {a : Nat} (hC : JC X G RX6 cc nL ret fr lo mc ms) (h : hK S a = 17) (d : decode cc pc = .ok (.getfield 63, 3)) (k : J X G Q nL cs ss (pc + 3) lv (.int (hI S 10 a) :: st) S) : J X G Q nL cs ss pc lv (.ref a :: st) S := J_get hC (ref := "SkyPlanModel") inwX6 (ci := 7) rfl 10 (by decide) (mG 781 (by decide +kernel) rfl) (fun _ h => h) h rfl rfl d k
theorem fp_X6_63 {X : JX} {G : JG} {Q : State → Prop} {nL cs ss pc : Nat} {lv : List (Nat × Value)} {st : List Value} {S : HS} {cc : ByteArray} {ret : Option FieldType} {fr lo mc ms : Nat} {a : Nat} {v : Int32} (hC : JC X G RX6 cc nL ret fr lo mc ms) (h : hK S a = 17) (d : decode cc pc = .ok (.putfield 63, 3)) (k : J X G Q nL cs ss (pc + 3) lv st (sI S 10 a v)) : J X G Q nL cs ss pc lv (.int v :: .ref a :: st) S := J_put hC (ref := "SkyPlanModel") inwX6 tyX6 tyX6_ok nmX6 (ci := 7) rfl 10 (by decide) (mG 781 (by decide +kernel) rfl) (fun _ h => h) rfl (ty := .int) rfl rfl rfl h rfl (by simp) (by rw [hob_of (show hK (sI S 10 a v) a = 17 from h)]; simp [hsh, hI_sI, hP_sI, hN_sI, hI_sP, hP_sP, hN_sP, va_rf]) (fun b hb => hob_sI hb) d k
theorem fg_X6_84 {X : JX} {G : JG} {Q : State → Prop} {nL cs ss pc : Nat} {lv : List (Nat × Value)} {st : List Value} {S : HS} {cc : ByteArray} {ret : Option FieldType} {fr lo mc ms : Nat} {a : Nat} (hC : JC X G RX6 cc nL ret fr lo mc ms) (h : hK S a = 17) (d : decode cc pc = .ok (.getfield 84, 3)) (k : J X G Q nL cs ss (pc + 3) lv (.int (hI S 4 a) :: st) S) : J X G Q nL cs ss pc lv (.ref a :: st) S := J_get hC (ref := "SkyPlanModel") inwX6 (ci := 7) rfl 4 (by decide) (mG 775 (by decide +kernel) rfl) (fun _ h => h) h rfl rfl d k
theorem fp_X6_84 {X : JX} {G : JG} {Q : State → Prop} {nL cs ss pc : Nat} {lv : List (Nat × Value)} {st : List Value} {S : HS} {cc : ByteArray} {ret : Option FieldType} {fr lo mc ms : Nat} {a : Nat} {v : Int32} (hC : JC X G RX6 cc nL ret fr lo mc ms) (h : hK S a = 17) (d : decode cc pc = .ok (.putfield 84, 3)) (k : J X G Q nL cs ss (pc + 3) lv st (sI S 4 a v)) : J X G Q nL cs ss pc lv (.int v :: .ref a :: st) S := J_put hC (ref := "SkyPlanModel") inwX6 tyX6 tyX6_ok nmX6 (ci := 7) rfl 4 (by decide) (mG 775 (by decide +kernel) rfl) (fun _ h => h) rfl (ty := .int) rfl rfl rfl h rfl (by simp) (by rw [hob_of (show hK (sI S 4 a v) a = 17 from h)]; simp [hsh, hI_sI, hP_sI, hN_sI, hI_sP, hP_sP, hN_sP, va_rf]) (fun b hb => hob_sI hb) d k
theorem fg_X6_87 {X : JX} {G : JG} {Q : State → Prop} {nL cs ss pc : Nat} {lv : List (Nat × Value)} {st : List Value} {S : HS} {cc : ByteArray} {ret : Option FieldType} {fr lo mc ms : Nat} {a : Nat} (hC : JC X G RX6 cc nL ret fr lo mc ms) (h : hK S a = 17) (d : decode cc pc = .ok (.getfield 87, 3)) (k : J X G Q nL cs ss (pc + 3) lv (.int (hI S 1 a) :: st) S) : J X G Q nL cs ss pc lv (.ref a :: st) S := J_get hC (ref := "SkyPlanModel") inwX6 (ci := 7) rfl 1 (by decide) (mG 772 (by decide +kernel) rfl) (fun _ h => h) h rfl rfl d k
theorem fp_X6_87 {X : JX} {G : JG} {Q : State → Prop} {nL cs ss pc : Nat} {lv : List (Nat × Value)} {st : List Value} {S : HS} {cc : ByteArray} {ret : Option FieldType} {fr lo mc ms : Nat} {a : Nat} {v : Int32} (hC : JC X G RX6 cc nL ret fr lo mc ms) (h : hK S a = 17) (d : decode cc pc = .ok (.putfield 87, 3)) (k : J X G Q nL cs ss (pc + 3) lv st (sI S 1 a v)) : J X G Q nL cs ss pc lv (.int v :: .ref a :: st) S := J_put hC (ref := "SkyPlanModel") inwX6 tyX6 tyX6_ok nmX6 (ci := 7) rfl 1 (by decide) (mG 772 (by decide +kernel) rfl) (fun _ h => h) rfl (ty := .int) rfl rfl rfl h rfl (by simp) (by rw [hob_of (show hK (sI S 1 a v) a = 17 from h)]; simp [hsh, hI_sI, hP_sI, hN_sI, hI_sP, hP_sP, hN_sP, va_rf]) (fun b hb => hob_sI hb) d k
theorem fg_X6_97 {X : JX} {G : JG} {Q : State → Prop} {nL cs ss pc : Nat} {lv : List (Nat × Value)} {st : List Value} {S : HS} {cc : ByteArray} {ret : Option FieldType} {fr lo mc ms : Nat} {a : Nat} (hC : JC X G RX6 cc nL ret fr lo mc ms) (h : hK S a = 17) (d : decode cc pc = .ok (.getfield 97, 3)) (k : J X G Q nL cs ss (pc + 3) lv (.int (hI S 7 a) :: st) S) : J X G Q nL cs ss pc lv (.ref a :: st) S := J_get hC (ref := "SkyPlanModel") inwX6 (ci := 7) rfl 7 (by decide) (mG 778 (by decide +kernel) rfl) (fun _ h => h) h rfl rfl d k
theorem fp_X6_97 {X : JX} {G : JG} {Q : State → Prop} {nL cs ss pc : Nat} {lv : List (Nat × Value)} {st : List Value} {S : HS} {cc : ByteArray} {ret : Option FieldType} {fr lo mc ms : Nat} {a : Nat} {v : Int32} (hC : JC X G RX6 cc nL ret fr lo mc ms) (h : hK S a = 17) (d : decode cc pc = .ok (.putfield 97, 3)) (k : J X G Q nL cs ss (pc + 3) lv st (sI S 7 a v)) : J X G Q nL cs ss pc lv (.int v :: .ref a :: st) S := J_put hC (ref := "SkyPlanModel") inwX6 tyX6 tyX6_ok nmX6 (ci := 7) rfl 7 (by decide) (mG 778 (by decide +kernel) rfl) (fun _ h => h) rfl (ty := .int) rfl rfl rfl h rfl (by simp) (by rw [hob_of (show hK (sI S 7 a v) a = 17 from h)]; simp [hsh, hI_sI, hP_sI, hN_sI, hI_sP, hP_sP, hN_sP, va_rf]) (fun b hb => hob_sI hb) d k
theorem fg_X6_100 {X : JX} {G : JG} {Q : State → Prop} {nL cs ss pc : Nat} {lv : List (Nat × Value)} {st : List Value} {S : HS} {cc : ByteArray} {ret : Option FieldType} {fr lo mc ms : Nat} {a : Nat} (hC : JC X G RX6 cc nL ret fr lo mc ms) (h : hK S a = 17) (d : decode cc pc = .ok (.getfield 100, 3)) (k : J X G Q nL cs ss (pc + 3) lv (.int (hI S 5 a) :: st) S) : J X G Q nL cs ss pc lv (.ref a :: st) S := J_get hC (ref := "SkyPlanModel") inwX6 (ci := 7) rfl 5 (by decide) (mG 776 (by decide +kernel) rfl) (fun _ h => h) h rfl rfl d k
theorem fp_X6_100 {X : JX} {G : JG} {Q : State → Prop} {nL cs ss pc : Nat} {lv : List (Nat × Value)} {st : List Value} {S : HS} {cc : ByteArray} {ret : Option FieldType} {fr lo mc ms : Nat} {a : Nat} {v : Int32} (hC : JC X G RX6 cc nL ret fr lo mc ms) (h : hK S a = 17) (d : decode cc pc = .ok (.putfield 100, 3)) (k : J X G Q nL cs ss (pc + 3) lv st (sI S 5 a v)) : J X G Q nL cs ss pc lv (.int v :: .ref a :: st) S := J_put hC (ref := "SkyPlanModel") inwX6 tyX6 tyX6_ok nmX6 (ci := 7) rfl 5 (by decide) (mG 776 (by decide +kernel) rfl) (fun _ h => h) rfl (ty := .int) rfl rfl rfl h rfl (by simp) (by rw [hob_of (show hK (sI S 5 a v) a = 17 from h)]; simp [hsh, hI_sI, hP_sI, hN_sI, hI_sP, hP_sP, hN_sP, va_rf]) (fun b hb => hob_sI hb) d k
theorem fg_X6_103 {X : JX} {G : JG} {Q : State → Prop} {nL cs ss pc : Nat} {lv : List (Nat × Value)} {st : List Value} {S : HS} {cc : ByteArray} {ret : Option FieldType} {fr lo mc ms : Nat} {a : Nat} (hC : JC X G RX6 cc nL ret fr lo mc ms) (h : hK S a = 17) (d : decode cc pc = .ok (.getfield 103, 3)) (k : J X G Q nL cs ss (pc + 3) lv (.int (hI S 6 a) :: st) S) : J X G Q nL cs ss pc lv (.ref a :: st) S := J_get hC (ref := "SkyPlanModel") inwX6 (ci := 7) rfl 6 (by decide) (mG 777 (by decide +kernel) rfl) (fun _ h => h) h rfl rfl d k
theorem fp_X6_103 {X : JX} {G : JG} {Q : State → Prop} {nL cs ss pc : Nat} {lv : List (Nat × Value)} {st : List Value} {S : HS} {cc : ByteArray} {ret : Option FieldType} {fr lo mc ms : Nat} {a : Nat} {v : Int32} (hC : JC X G RX6 cc nL ret fr lo mc ms) (h : hK S a = 17) (d : decode cc pc = .ok (.putfield 103, 3)) (k : J X G Q nL cs ss (pc + 3) lv st (sI S 6 a v)) : J X G Q nL cs ss pc lv (.int v :: .ref a :: st) S := J_put hC (ref := "SkyPlanModel") inwX6 tyX6 tyX6_ok nmX6 (ci := 7) rfl 6 (by decide) (mG 777 (by decide +kernel) rfl) (fun _ h => h) rfl (ty := .int) rfl rfl rfl h rfl (by simp) (by rw [hob_of (show hK (sI S 6 a v) a = 17 from h)]; simp [hsh, hI_sI, hP_sI, hN_sI, hI_sP, hP_sP, hN_sP, va_rf]) (fun b hb => hob_sI hb) d k
theorem fg_X6_123 {X : JX} {G : JG} {Q : State → Prop} {nL cs ss pc : Nat} {lv : List (Nat × Value)} {st : List Value} {S : HS} {cc : ByteArray} {ret : Option FieldType} {fr lo mc ms : Nat} {a : Nat} (hC : JC X G RX6 cc nL ret fr lo mc ms) (h : hK S a = 17) (d : decode cc pc = .ok (.getfield 123, 3)) (k : J X G Q nL cs ss (pc + 3) lv (.int (hI S 21 a) :: st) S) : J X G Q nL cs ss pc lv (.ref a :: st) S := J_get hC (ref := "SkyPlanModel") inwX6 (ci := 7) rfl 21 (by decide) (mG 792 (by decide +kernel) rfl) (fun _ h => h) h rfl rfl d k
theorem fp_X6_123 {X : JX} {G : JG} {Q : State → Prop} {nL cs ss pc : Nat} {lv : List (Nat × Value)} {st : List Value} {S : HS} {cc : ByteArray} {ret : Option FieldType} {fr lo mc ms : Nat} {a : Nat} {v : Int32} (hC : JC X G RX6 cc nL ret fr lo mc ms) (h : hK S a = 17) (hn : narrow .boolean (.int v) = .int v ∧ fits .boolean (.int v) = true) (d : decode cc pc = .ok (.putfield 123, 3)) (k : J X G Q nL cs ss (pc + 3) lv st (sI S 21 a v)) : J X G Q nL cs ss pc lv (.int v :: .ref a :: st) S := J_put hC (ref := "SkyPlanModel") inwX6 tyX6 tyX6_ok nmX6 (ci := 7) rfl 21 (by decide) (mG 792 (by decide +kernel) rfl) (fun _ h => h) rfl (ty := .boolean) rfl hn.1 hn.2 h rfl (by simp) (by rw [hob_of (show hK (sI S 21 a v) a = 17 from h)]; simp [hsh, hI_sI, hP_sI, hN_sI, hI_sP, hP_sP, hN_sP, va_rf]) (fun b hb => hob_sI hb) d k
theorem fg_X6_133 {X : JX} {G : JG} {Q : State → Prop} {nL cs ss pc : Nat} {lv : List (Nat × Value)} {st : List Value} {S : HS} {cc : ByteArray} {ret : Option FieldType} {fr lo mc ms : Nat} {a : Nat} (hC : JC X G RX6 cc nL ret fr lo mc ms) (h : hK S a = 17) (d : decode cc pc = .ok (.getfield 133, 3)) (k : J X G Q nL cs ss (pc + 3) lv (.int (hI S 24 a) :: st) S) : J X G Q nL cs ss pc lv (.ref a :: st) S := J_get hC (ref := "SkyPlanModel") inwX6 (ci := 7) rfl 24 (by decide) (mG 795 (by decide +kernel) rfl) (fun _ h => h) h rfl rfl d k
theorem fp_X6_133 {X : JX} {G : JG} {Q : State → Prop} {nL cs ss pc : Nat} {lv : List (Nat × Value)} {st : List Value} {S : HS} {cc : ByteArray} {ret : Option FieldType} {fr lo mc ms : Nat} {a : Nat} {v : Int32} (hC : JC X G RX6 cc nL ret fr lo mc ms) (h : hK S a = 17) (d : decode cc pc = .ok (.putfield 133, 3)) (k : J X G Q nL cs ss (pc + 3) lv st (sI S 24 a v)) : J X G Q nL cs ss pc lv (.int v :: .ref a :: st) S := J_put hC (ref := "SkyPlanModel") inwX6 tyX6 tyX6_ok nmX6 (ci := 7) rfl 24 (by decide) (mG 795 (by decide +kernel) rfl) (fun _ h => h) rfl (ty := .int) rfl rfl rfl h rfl (by simp) (by rw [hob_of (show hK (sI S 24 a v) a = 17 from h)]; simp [hsh, hI_sI, hP_sI, hN_sI, hI_sP, hP_sP, hN_sP, va_rf]) (fun b hb => hob_sI hb) d k
theorem fg_X6_159 {X : JX} {G : JG} {Q : State → Prop} {nL cs ss pc : Nat} {lv : List (Nat × Value)} {st : List Value} {S : HS} {cc : ByteArray} {ret : Option FieldType} {fr lo mc ms : Nat} {a : Nat} (hC : JC X G RX6 cc nL ret fr lo mc ms) (h : hK S a = 17) (d : decode cc pc = .ok (.getfield 159, 3)) (k : J X G Q nL cs ss (pc + 3) lv (.int (hI S 8 a) :: st) S) : J X G Q nL cs ss pc lv (.ref a :: st) S := J_get hC (ref := "SkyPlanModel") inwX6 (ci := 7) rfl 8 (by decide) (mG 779 (by decide +kernel) rfl) (fun _ h => h) h rfl rfl d k
theorem fp_X6_159 {X : JX} {G : JG} {Q : State → Prop} {nL cs ss pc : Nat} {lv : List (Nat × Value)} {st : List Value} {S : HS} {cc : ByteArray} {ret : Option FieldType} {fr lo mc ms : Nat} {a : Nat} {v : Int32} (hC : JC X G RX6 cc nL ret fr lo mc ms) (h : hK S a = 17) (d : decode cc pc = .ok (.putfield 159, 3)) (k : J X G Q nL cs ss (pc + 3) lv st (sI S 8 a v)) : J X G Q nL cs ss pc lv (.int v :: .ref a :: st) S := J_put hC (ref := "SkyPlanModel") inwX6 tyX6 tyX6_ok nmX6 (ci := 7) rfl 8 (by decide) (mG 779 (by decide +kernel) rfl) (fun _ h => h) rfl (ty := .int) rfl rfl rfl h rfl (by simp) (by rw [hob_of (show hK (sI S 8 a v) a = 17 from h)]; simp [hsh, hI_sI, hP_sI, hN_sI, hI_sP, hP_sP, hN_sP, va_rf]) (fun b hb => hob_sI hb) d k
theorem fp_Jxc12de_7 {X : JX} {G : JG} {Q : State → Prop} {nL cs ss pc : Nat} {lv : List (Nat × Value)} {st : List Value} {S : HS} {cc : ByteArray} {ret : Option FieldType} {fr lo mc ms : Nat} {a : Nat} {v : Int32} (hC : JC X G RJxc12de cc nL ret fr lo mc ms) (h : hK S a = 1) (d : decode cc pc = .ok (.putfield 7, 3)) (k : J X G Q nL cs ss (pc + 3) lv st (sI S 0 a v)) : J X G Q nL cs ss pc lv (.int v :: .ref a :: st) S := J_put hC (ref := "java/util/AbstractList") inwJx4a65c tyJx4a65c tyJx4a65c_ok nmJx4a65c (ci := 0) rfl 0 (by decide) (mG 128 (by decide +kernel) rfl) (fun _ h => h) rfl (ty := .int) rfl rfl rfl h rfl (by simp) (by rw [hob_of (show hK (sI S 0 a v) a = 1 from h)]; simp [hsh, hI_sI, hP_sI, hN_sI, hI_sP, hP_sP, hN_sP, va_rf]) (fun b hb => hob_sI hb) d k
theorem fg_Jx4a65c_9 {X : JX} {G : JG} {Q : State → Prop} {nL cs ss pc : Nat} {lv : List (Nat × Value)} {st : List Value} {S : HS} {cc : ByteArray} {ret : Option FieldType} {fr lo mc ms : Nat} {a b : Nat} (hC : JC X G RJx4a65c cc nL ret fr lo mc ms) (h : hK S a = 1) (hb : hP S 1 a = some b) (d : decode cc pc = .ok (.getfield 9, 3)) (k : J X G Q nL cs ss (pc + 3) lv (.ref b :: st) S) : J X G Q nL cs ss pc lv (.ref a :: st) S := J_get hC (ref := "java/util/ArrayList") inwJx4a65c (ci := 0) rfl 1 (by decide) (mG 126 (by decide +kernel) rfl) (fun _ h => h) h rfl (show some (va_rf (hP S 1 a)) = _ by rw [hb]; rfl) d k
theorem fp_Jx4a65c_9 {X : JX} {G : JG} {Q : State → Prop} {nL cs ss pc : Nat} {lv : List (Nat × Value)} {st : List Value} {S : HS} {cc : ByteArray} {ret : Option FieldType} {fr lo mc ms : Nat} {a v : Nat} (hC : JC X G RJx4a65c cc nL ret fr lo mc ms) (h : hK S a = 1) (d : decode cc pc = .ok (.putfield 9, 3)) (k : J X G Q nL cs ss (pc + 3) lv st (sP S 1 a (some v))) : J X G Q nL cs ss pc lv (.ref v :: .ref a :: st) S := J_put hC (ref := "java/util/ArrayList") inwJx4a65c tyJx4a65c tyJx4a65c_ok nmJx4a65c (ci := 0) rfl 1 (by decide) (mG 126 (by decide +kernel) rfl) (fun _ h => h) rfl (ty := (tyJx4a65c 1)) rfl rfl rfl h rfl (by simp) (by rw [hob_of (show hK (sP S 1 a (some v)) a = 1 from h)]; simp [hsh, hI_sI, hP_sI, hN_sI, hI_sP, hP_sP, hN_sP, va_rf]) (fun b hb => hob_sP hb) d k
theorem fg_Jx4a65c_48 {X : JX} {G : JG} {Q : State → Prop} {nL cs ss pc : Nat} {lv : List (Nat × Value)} {st : List Value} {S : HS} {cc : ByteArray} {ret : Option FieldType} {fr lo mc ms : Nat} {a : Nat} (hC : JC X G RJx4a65c cc nL ret fr lo mc ms) (h : hK S a = 1) (d : decode cc pc = .ok (.getfield 48, 3)) (k : J X G Q nL cs ss (pc + 3) lv (.int (hI S 2 a) :: st) S) : J X G Q nL cs ss pc lv (.ref a :: st) S := J_get hC (ref := "java/util/ArrayList") inwJx4a65c (ci := 0) rfl 2 (by decide) (mG 127 (by decide +kernel) rfl) (fun _ h => h) h rfl rfl d k
theorem fp_Jx4a65c_48 {X : JX} {G : JG} {Q : State → Prop} {nL cs ss pc : Nat} {lv : List (Nat × Value)} {st : List Value} {S : HS} {cc : ByteArray} {ret : Option FieldType} {fr lo mc ms : Nat} {a : Nat} {v : Int32} (hC : JC X G RJx4a65c cc nL ret fr lo mc ms) (h : hK S a = 1) (d : decode cc pc = .ok (.putfield 48, 3)) (k : J X G Q nL cs ss (pc + 3) lv st (sI S 2 a v)) : J X G Q nL cs ss pc lv (.int v :: .ref a :: st) S := J_put hC (ref := "java/util/ArrayList") inwJx4a65c tyJx4a65c tyJx4a65c_ok nmJx4a65c (ci := 0) rfl 2 (by decide) (mG 127 (by decide +kernel) rfl) (fun _ h => h) rfl (ty := .int) rfl rfl rfl h rfl (by simp) (by rw [hob_of (show hK (sI S 2 a v) a = 1 from h)]; simp [hsh, hI_sI, hP_sI, hN_sI, hI_sP, hP_sP, hN_sP, va_rf]) (fun b hb => hob_sI hb) d k
theorem fg_Jx4a65c_63 {X : JX} {G : JG} {Q : State → Prop} {nL cs ss pc : Nat} {lv : List (Nat × Value)} {st : List Value} {S : HS} {cc : ByteArray} {ret : Option FieldType} {fr lo mc ms : Nat} {a : Nat} (hC : JC X G RJx4a65c cc nL ret fr lo mc ms) (h : hK S a = 1) (d : decode cc pc = .ok (.getfield 63, 3)) (k : J X G Q nL cs ss (pc + 3) lv (.int (hI S 0 a) :: st) S) : J X G Q nL cs ss pc lv (.ref a :: st) S := J_get hC (ref := "java/util/ArrayList") inwJx4a65c (ci := 0) rfl 0 (by decide) (mG 129 (by decide +kernel) rfl) (fun x h => u_same (hC.w (mG 130 (by decide +kernel) rfl)) x h) h rfl rfl d k
theorem fp_Jx4a65c_63 {X : JX} {G : JG} {Q : State → Prop} {nL cs ss pc : Nat} {lv : List (Nat × Value)} {st : List Value} {S : HS} {cc : ByteArray} {ret : Option FieldType} {fr lo mc ms : Nat} {a : Nat} {v : Int32} (hC : JC X G RJx4a65c cc nL ret fr lo mc ms) (h : hK S a = 1) (d : decode cc pc = .ok (.putfield 63, 3)) (k : J X G Q nL cs ss (pc + 3) lv st (sI S 0 a v)) : J X G Q nL cs ss pc lv (.int v :: .ref a :: st) S := J_put hC (ref := "java/util/ArrayList") inwJx4a65c tyJx4a65c tyJx4a65c_ok nmJx4a65c (ci := 0) rfl 0 (by decide) (mG 129 (by decide +kernel) rfl) (fun x h => u_same (hC.w (mG 130 (by decide +kernel) rfl)) x h) rfl (ty := .int) rfl rfl rfl h rfl (by simp) (by rw [hob_of (show hK (sI S 0 a v) a = 1 from h)]; simp [hsh, hI_sI, hP_sI, hN_sI, hI_sP, hP_sP, hN_sP, va_rf]) (fun b hb => hob_sI hb) d k
end
section
/-! the calls, the makings and the casts, one row a link: printed by wip/whole/mkcalls.py out of the claim's names and tables -/
abbrev rI (P : Int32 → HS → Prop) : Option Value → HS → Prop := fun v S => ∃ r : Int32, v = some (.int r) ∧ P r S
abbrev rL (P : Int64 → HS → Prop) : Option Value → HS → Prop := fun v S => ∃ r : Int64, v = some (.long r) ∧ P r S
abbrev rD (P : UInt64 → HS → Prop) : Option Value → HS → Prop := fun v S => ∃ r : UInt64, v = some (.double r) ∧ P r S
abbrev rA (P : Nat → HS → Prop) : Option Value → HS → Prop := fun v S => ∃ r : Nat, v = some (.ref r) ∧ P r S
abbrev rV (P : HS → Prop) : Option Value → HS → Prop := fun v S => v = none ∧ P S
theorem cl_X5_11 {X : JX} {G : JG} {Q : State → Prop} {nL cs ss pc : Nat} {lv : List (Nat × Value)} {st : List Value} {S : HS} {cc : ByteArray} {ret : Option FieldType} {fr lo mc ms : Nat} {fr' lo' mc' ms' : Nat} {b : Nat} {a0 : Int32} {a1 : Int32} {P : HS → Prop} (hC : JC X G RX5 cc nL ret fr lo mc ms) (hM : Ct G yX3_init cX3_init 3 none fr' lo' mc' ms' [.ref b, .int a0, .int a1] S (rV P) noX) (h8 : (st.map fun v => v.category).sum ≤ 8) (hr : rOK fr lo mc ms cs ss 3 fr' lo' mc' ms') (d : decode cc pc = .ok (.invokespecial 11, 3)) (kk : ∀ S' : HS, P S' → J X G Q nL (cs + mc') (ss + ms') (pc + 3) lv st S') : J X G Q nL cs ss pc lv (.int a1 :: .int a0 :: .ref b :: st) S := J_callI hC (n := 2) (as := [.int a0, .int a1]) hM (mG 67 (by decide +kernel) rfl) (mG 68 (by decide +kernel) rfl) (mG 36 (by decide +kernel) rfl) (mG 69 (by decide +kernel) rfl) ⟨by decide +kernel, by decide +kernel, by decide +kernel⟩ rfl rfl rfl h8 hr d (fun v S' h => by obtain ⟨rfl, h⟩ := h; exact kk S' h)
theorem cl_X5_29 {X : JX} {G : JG} {Q : State → Prop} {nL cs ss pc : Nat} {lv : List (Nat × Value)} {st : List Value} {S : HS} {cc : ByteArray} {ret : Option FieldType} {fr lo mc ms : Nat} {fr' lo' mc' ms' : Nat} {b : Nat}  {P : HS → Prop} (hC : JC X G RX5 cc nL ret fr lo mc ms) (hM : Ct G yX0_init cX0_init 1 none fr' lo' mc' ms' [.ref b] S (rV P) noX) (h8 : (st.map fun v => v.category).sum ≤ 8) (hr : rOK fr lo mc ms cs ss 1 fr' lo' mc' ms') (d : decode cc pc = .ok (.invokespecial 29, 3)) (kk : ∀ S' : HS, P S' → J X G Q nL (cs + mc') (ss + ms') (pc + 3) lv st S') : J X G Q nL cs ss pc lv (.ref b :: st) S := J_callIN hC (n := 0) (as := []) (host := "SkyPlan") hM (mN 96 (by decide +kernel) rfl) (mG 97 (by decide +kernel) rfl) (mG 37 (by decide +kernel) rfl) (mG 98 (by decide +kernel) rfl) ⟨by decide +kernel, by decide +kernel, by decide +kernel⟩ rfl rfl rfl h8 hr d (fun v S' h => by obtain ⟨rfl, h⟩ := h; exact kk S' h)
theorem cl_X5_36 {X : JX} {G : JG} {Q : State → Prop} {nL cs ss pc : Nat} {lv : List (Nat × Value)} {st : List Value} {S : HS} {cc : ByteArray} {ret : Option FieldType} {fr lo mc ms : Nat} {fr' lo' mc' ms' : Nat} {b : Nat}  {P : HS → Prop} (hC : JC X G RX5 cc nL ret fr lo mc ms) (hM : Ct G yJx4a65c_init_da8c8 cJx4a65c_init_da8c8 1 none fr' lo' mc' ms' [.ref b] S (rV P) noX) (h8 : (st.map fun v => v.category).sum ≤ 8) (hr : rOK fr lo mc ms cs ss 1 fr' lo' mc' ms') (d : decode cc pc = .ok (.invokespecial 36, 3)) (kk : ∀ S' : HS, P S' → J X G Q nL (cs + mc') (ss + ms') (pc + 3) lv st S') : J X G Q nL cs ss pc lv (.ref b :: st) S := J_callI hC (n := 0) (as := []) hM (mG 114 (by decide +kernel) rfl) (mG 115 (by decide +kernel) rfl) (mG 40 (by decide +kernel) rfl) (mG 116 (by decide +kernel) rfl) ⟨by decide +kernel, by decide +kernel, by decide +kernel⟩ rfl rfl rfl h8 hr d (fun v S' h => by obtain ⟨rfl, h⟩ := h; exact kk S' h)
theorem cl_X5_43 {X : JX} {G : JG} {Q : State → Prop} {nL cs ss pc : Nat} {lv : List (Nat × Value)} {st : List Value} {S : HS} {cc : ByteArray} {ret : Option FieldType} {fr lo mc ms : Nat} {fr' lo' mc' ms' : Nat} {b : Nat}  {P : HS → Prop} (hC : JC X G RX5 cc nL ret fr lo mc ms) (hM : Ct G yX2_init cX2_init 1 none fr' lo' mc' ms' [.ref b] S (rV P) noX) (h8 : (st.map fun v => v.category).sum ≤ 8) (hr : rOK fr lo mc ms cs ss 1 fr' lo' mc' ms') (d : decode cc pc = .ok (.invokespecial 43, 3)) (kk : ∀ S' : HS, P S' → J X G Q nL (cs + mc') (ss + ms') (pc + 3) lv st S') : J X G Q nL cs ss pc lv (.ref b :: st) S := J_callIN hC (n := 0) (as := []) (host := "SkyPlan") hM (mN 140 (by decide +kernel) rfl) (mG 141 (by decide +kernel) rfl) (mG 41 (by decide +kernel) rfl) (mG 142 (by decide +kernel) rfl) ⟨by decide +kernel, by decide +kernel, by decide +kernel⟩ rfl rfl rfl h8 hr d (fun v S' h => by obtain ⟨rfl, h⟩ := h; exact kk S' h)
theorem cl_X5_48 {X : JX} {G : JG} {Q : State → Prop} {nL cs ss pc : Nat} {lv : List (Nat × Value)} {st : List Value} {S : HS} {cc : ByteArray} {ret : Option FieldType} {fr lo mc ms : Nat} {fr' lo' mc' ms' : Nat} {a0 : Int32} {a1 : Int32} {a2 : Int32} {P : Int32 → HS → Prop} (hC : JC X G RX5 cc nL ret fr lo mc ms) (hM : Ct G yX5_isWithin cX5_isWithin 3 (some .boolean) fr' lo' mc' ms' [.int a0, .int a1, .int a2] S (rI P) noX) (h8 : (st.map fun v => v.category).sum ≤ 8) (hr : rOK fr lo mc ms cs ss 3 fr' lo' mc' ms') (d : decode cc pc = .ok (.invokestatic 48, 3)) (kk : ∀ (r : Int32) (S' : HS), P r S' → J X G Q nL (cs + mc') (ss + ms') (pc + 3) lv (.int r :: st) S') : J X G Q nL cs ss pc lv (.int a2 :: .int a1 :: .int a0 :: st) S := J_callS hC (n := 3) (as := [.int a0, .int a1, .int a2]) hM (mG 341 (by decide +kernel) rfl) (mG 342 (by decide +kernel) rfl) (mG 35 (by decide +kernel) rfl) (mG 343 (by decide +kernel) rfl) ⟨by decide +kernel, by decide +kernel, by decide +kernel⟩ rfl rfl h8 hr d (fun _ _ h => h.elim) (fun v S' h => by obtain ⟨r, rfl, h⟩ := h; exact kk r S' h)
theorem cl_X5_62 {X : JX} {G : JG} {Q : State → Prop} {nL cs ss pc : Nat} {lv : List (Nat × Value)} {st : List Value} {S : HS} {cc : ByteArray} {ret : Option FieldType} {fr lo mc ms : Nat} {fr' lo' mc' ms' : Nat} {b : Nat}  {P : HS → Prop} (hC : JC X G RX5 cc nL ret fr lo mc ms) (hM : Ct G yX5_forgetNight cX5_forgetNight 2 none fr' lo' mc' ms' [.ref b] S (rV P) noX) (hk : hK S b = 7) (h8 : (st.map fun v => v.category).sum ≤ 8) (hr : rOK fr lo mc ms cs ss 2 fr' lo' mc' ms') (d : decode cc pc = .ok (.invokevirtual 62, 3)) (kk : ∀ S' : HS, P S' → J X G Q nL (cs + mc') (ss + ms') (pc + 3) lv st S') : J X G Q nL cs ss pc lv (.ref b :: st) S := J_callV hC (r := (RX5, TX5, 8)) (n := 0) (ci := 6) (as := []) hM (mG 412 (by decide +kernel) rfl) (mG 414 (by decide +kernel) rfl) (mG 10 (by decide +kernel) rfl) (mG 35 (by decide +kernel) rfl) (mG 415 (by decide +kernel) rfl) ⟨by decide +kernel, by decide +kernel, by decide +kernel⟩ rfl rfl hk rfl rfl rfl h8 hr d (fun _ _ h => h.elim) (fun v S' h => by obtain ⟨rfl, h⟩ := h; exact kk S' h)
theorem cl_X5_67 {X : JX} {G : JG} {Q : State → Prop} {nL cs ss pc : Nat} {lv : List (Nat × Value)} {st : List Value} {S : HS} {cc : ByteArray} {ret : Option FieldType} {fr lo mc ms : Nat} {fr' lo' mc' ms' : Nat} {a0 : Int32} {a1 : Int32} {P : Int32 → HS → Prop} (hC : JC X G RX5 cc nL ret fr lo mc ms) (hM : Ct G yX5_isPoint cX5_isPoint 2 (some .boolean) fr' lo' mc' ms' [.int a0, .int a1] S (rI P) noX) (h8 : (st.map fun v => v.category).sum ≤ 8) (hr : rOK fr lo mc ms cs ss 2 fr' lo' mc' ms') (d : decode cc pc = .ok (.invokestatic 67, 3)) (kk : ∀ (r : Int32) (S' : HS), P r S' → J X G Q nL (cs + mc') (ss + ms') (pc + 3) lv (.int r :: st) S') : J X G Q nL cs ss pc lv (.int a1 :: .int a0 :: st) S := J_callS hC (n := 2) (as := [.int a0, .int a1]) hM (mG 431 (by decide +kernel) rfl) (mG 432 (by decide +kernel) rfl) (mG 35 (by decide +kernel) rfl) (mG 433 (by decide +kernel) rfl) ⟨by decide +kernel, by decide +kernel, by decide +kernel⟩ rfl rfl h8 hr d (fun _ _ h => h.elim) (fun v S' h => by obtain ⟨r, rfl, h⟩ := h; exact kk r S' h)
theorem cl_X5_76 {X : JX} {G : JG} {Q : State → Prop} {nL cs ss pc : Nat} {lv : List (Nat × Value)} {st : List Value} {S : HS} {cc : ByteArray} {ret : Option FieldType} {fr lo mc ms : Nat} {fr' lo' mc' ms' : Nat} {b : Nat}  {P : Int32 → HS → Prop} (hC : JC X G RX5 cc nL ret fr lo mc ms) (hM : Ct G yX5_moonLight cX5_moonLight 1 (some .int) fr' lo' mc' ms' [.ref b] S (rI P) noX) (hk : hK S b = 7) (h8 : (st.map fun v => v.category).sum ≤ 8) (hr : rOK fr lo mc ms cs ss 1 fr' lo' mc' ms') (d : decode cc pc = .ok (.invokevirtual 76, 3)) (kk : ∀ (r : Int32) (S' : HS), P r S' → J X G Q nL (cs + mc') (ss + ms') (pc + 3) lv (.int r :: st) S') : J X G Q nL cs ss pc lv (.ref b :: st) S := J_callV hC (r := (RX5, TX5, 8)) (n := 0) (ci := 6) (as := []) hM (mG 254 (by decide +kernel) rfl) (mG 256 (by decide +kernel) rfl) (mG 4 (by decide +kernel) rfl) (mG 35 (by decide +kernel) rfl) (mG 257 (by decide +kernel) rfl) ⟨by decide +kernel, by decide +kernel, by decide +kernel⟩ rfl rfl hk rfl rfl rfl h8 hr d (fun _ _ h => h.elim) (fun v S' h => by obtain ⟨r, rfl, h⟩ := h; exact kk r S' h)
theorem cl_X5_90 {X : JX} {G : JG} {Q : State → Prop} {nL cs ss pc : Nat} {lv : List (Nat × Value)} {st : List Value} {S : HS} {cc : ByteArray} {ret : Option FieldType} {fr lo mc ms : Nat} {fr' lo' mc' ms' : Nat} {b : Nat} {a0 : Int32} {a1 : Int32} {P : HS → Prop} (hC : JC X G RX5 cc nL ret fr lo mc ms) (hM : Ct G yX0_tell cX0_tell 3 none fr' lo' mc' ms' [.ref b, .int a0, .int a1] S (rV P) noX) (hk : hK S b = 2) (h8 : (st.map fun v => v.category).sum ≤ 8) (hr : rOK fr lo mc ms cs ss 3 fr' lo' mc' ms') (d : decode cc pc = .ok (.invokevirtual 90, 3)) (kk : ∀ S' : HS, P S' → J X G Q nL (cs + mc') (ss + ms') (pc + 3) lv st S') : J X G Q nL cs ss pc lv (.int a1 :: .int a0 :: .ref b :: st) S := J_callV hC (r := (RX0, TX0, 3)) (n := 2) (ci := 1) (as := [.int a0, .int a1]) hM (mG 460 (by decide +kernel) rfl) (mG 461 (by decide +kernel) rfl) (mG 462 (by decide +kernel) rfl) (mG 37 (by decide +kernel) rfl) (mG 463 (by decide +kernel) rfl) ⟨by decide +kernel, by decide +kernel, by decide +kernel⟩ rfl rfl hk rfl rfl rfl h8 hr d (fun _ _ h => h.elim) (fun v S' h => by obtain ⟨rfl, h⟩ := h; exact kk S' h)
theorem cl_X5_93 {X : JX} {G : JG} {Q : State → Prop} {nL cs ss pc : Nat} {lv : List (Nat × Value)} {st : List Value} {S : HS} {cc : ByteArray} {ret : Option FieldType} {fr lo mc ms : Nat} {fr' lo' mc' ms' : Nat} {b : Nat}  {P : Int32 → HS → Prop} (hC : JC X G RX5 cc nL ret fr lo mc ms) (hM : Ct G yX5_clearMinutes cX5_clearMinutes 3 (some .int) fr' lo' mc' ms' [.ref b] S (rI P) noX) (hk : hK S b = 7) (h8 : (st.map fun v => v.category).sum ≤ 8) (hr : rOK fr lo mc ms cs ss 3 fr' lo' mc' ms') (d : decode cc pc = .ok (.invokevirtual 93, 3)) (kk : ∀ (r : Int32) (S' : HS), P r S' → J X G Q nL (cs + mc') (ss + ms') (pc + 3) lv (.int r :: st) S') : J X G Q nL cs ss pc lv (.ref b :: st) S := J_callV hC (r := (RX5, TX5, 8)) (n := 0) (ci := 6) (as := []) hM (mG 464 (by decide +kernel) rfl) (mG 466 (by decide +kernel) rfl) (mG 11 (by decide +kernel) rfl) (mG 35 (by decide +kernel) rfl) (mG 467 (by decide +kernel) rfl) ⟨by decide +kernel, by decide +kernel, by decide +kernel⟩ rfl rfl hk rfl rfl rfl h8 hr d (fun _ _ h => h.elim) (fun v S' h => by obtain ⟨r, rfl, h⟩ := h; exact kk r S' h)
theorem cl_X5_98 {X : JX} {G : JG} {Q : State → Prop} {nL cs ss pc : Nat} {lv : List (Nat × Value)} {st : List Value} {S : HS} {cc : ByteArray} {ret : Option FieldType} {fr lo mc ms : Nat} {fr' lo' mc' ms' : Nat} {a0 : Int32} {P : Int32 → HS → Prop} (hC : JC X G RX5 cc nL ret fr lo mc ms) (hM : Ct G yX5_sineOf cX5_sineOf 6 (some .int) fr' lo' mc' ms' [.int a0] S (rI P) noX) (h8 : (st.map fun v => v.category).sum ≤ 8) (hr : rOK fr lo mc ms cs ss 6 fr' lo' mc' ms') (d : decode cc pc = .ok (.invokestatic 98, 3)) (kk : ∀ (r : Int32) (S' : HS), P r S' → J X G Q nL (cs + mc') (ss + ms') (pc + 3) lv (.int r :: st) S') : J X G Q nL cs ss pc lv (.int a0 :: st) S := J_callS hC (n := 1) (as := [.int a0]) hM (mG 236 (by decide +kernel) rfl) (mG 72 (by decide +kernel) rfl) (mG 35 (by decide +kernel) rfl) (mG 73 (by decide +kernel) rfl) ⟨by decide +kernel, by decide +kernel, by decide +kernel⟩ rfl rfl h8 hr d (fun _ _ h => h.elim) (fun v S' h => by obtain ⟨r, rfl, h⟩ := h; exact kk r S' h)
theorem cl_X5_104 {X : JX} {G : JG} {Q : State → Prop} {nL cs ss pc : Nat} {lv : List (Nat × Value)} {st : List Value} {S : HS} {cc : ByteArray} {ret : Option FieldType} {fr lo mc ms : Nat} {fr' lo' mc' ms' : Nat} {b : Nat}  {P : Int32 → HS → Prop} (hC : JC X G RX5 cc nL ret fr lo mc ms) (hM : Ct G yJx4a65c_size_8abf5 cJx4a65c_size_8abf5 1 (some .int) fr' lo' mc' ms' [.ref b] S (rI P) noX) (hk : hK S b = 1) (h8 : (st.map fun v => v.category).sum ≤ 8) (hr : rOK fr lo mc ms cs ss 1 fr' lo' mc' ms') (d : decode cc pc = .ok (.invokevirtual 104, 3)) (kk : ∀ (r : Int32) (S' : HS), P r S' → J X G Q nL (cs + mc') (ss + ms') (pc + 3) lv (.int r :: st) S') : J X G Q nL cs ss pc lv (.ref b :: st) S := J_callV hC (r := (RJx4a65c, TJx4a65c, 3)) (n := 0) (ci := 0) (as := []) hM (mG 202 (by decide +kernel) rfl) (mG 203 (by decide +kernel) rfl) (mG 204 (by decide +kernel) rfl) (mG 40 (by decide +kernel) rfl) (mG 205 (by decide +kernel) rfl) ⟨by decide +kernel, by decide +kernel, by decide +kernel⟩ rfl rfl hk rfl rfl rfl h8 hr d (fun _ _ h => h.elim) (fun v S' h => by obtain ⟨r, rfl, h⟩ := h; exact kk r S' h)
theorem cl_X5_111 {X : JX} {G : JG} {Q : State → Prop} {nL cs ss pc : Nat} {lv : List (Nat × Value)} {st : List Value} {S : HS} {cc : ByteArray} {ret : Option FieldType} {fr lo mc ms : Nat} {fr' lo' mc' ms' : Nat} {b : Nat} {a0 : Int32} {a1 : Nat} {a2 : Int32} {a3 : Int32} {a4 : Int32} {P : HS → Prop} (hC : JC X G RX5 cc nL ret fr lo mc ms) (hM : Ct G yX4_init cX4_init 6 none fr' lo' mc' ms' [.ref b, .int a0, .ref a1, .int a2, .int a3, .int a4] S (rV P) noX) (h8 : (st.map fun v => v.category).sum ≤ 8) (hr : rOK fr lo mc ms cs ss 6 fr' lo' mc' ms') (d : decode cc pc = .ok (.invokespecial 111, 3)) (kk : ∀ S' : HS, P S' → J X G Q nL (cs + mc') (ss + ms') (pc + 3) lv st S') : J X G Q nL cs ss pc lv (.int a4 :: .int a3 :: .int a2 :: .ref a1 :: .int a0 :: .ref b :: st) S := J_callI hC (n := 5) (as := [.int a0, .ref a1, .int a2, .int a3, .int a4]) hM (mG 486 (by decide +kernel) rfl) (mG 487 (by decide +kernel) rfl) (mG 51 (by decide +kernel) rfl) (mG 488 (by decide +kernel) rfl) ⟨by decide +kernel, by decide +kernel, by decide +kernel⟩ rfl rfl rfl h8 hr d (fun v S' h => by obtain ⟨rfl, h⟩ := h; exact kk S' h)
theorem cl_X5_114 {X : JX} {G : JG} {Q : State → Prop} {nL cs ss pc : Nat} {lv : List (Nat × Value)} {st : List Value} {S : HS} {cc : ByteArray} {ret : Option FieldType} {fr lo mc ms : Nat} {fr' lo' mc' ms' : Nat} {b : Nat} {a0 : Nat} {P : Int32 → HS → Prop} (hC : JC X G RX5 cc nL ret fr lo mc ms) (hM : Ct G yJx4a65c_add_9ea2d cJx4a65c_add_9ea2d 2 (some .boolean) fr' lo' mc' ms' [.ref b, .ref a0] S (rI P) noX) (hk : hK S b = 1) (h8 : (st.map fun v => v.category).sum ≤ 8) (hr : rOK fr lo mc ms cs ss 2 fr' lo' mc' ms') (d : decode cc pc = .ok (.invokevirtual 114, 3)) (kk : ∀ (r : Int32) (S' : HS), P r S' → J X G Q nL (cs + mc') (ss + ms') (pc + 3) lv (.int r :: st) S') : J X G Q nL cs ss pc lv (.ref a0 :: .ref b :: st) S := J_callV hC (r := (RJx4a65c, TJx4a65c, 3)) (n := 1) (ci := 0) (as := [.ref a0]) hM (mG 572 (by decide +kernel) rfl) (mG 573 (by decide +kernel) rfl) (mG 574 (by decide +kernel) rfl) (mG 40 (by decide +kernel) rfl) (mG 575 (by decide +kernel) rfl) ⟨by decide +kernel, by decide +kernel, by decide +kernel⟩ rfl rfl hk rfl rfl rfl h8 hr d (fun _ _ h => h.elim) (fun v S' h => by obtain ⟨r, rfl, h⟩ := h; exact kk r S' h)
theorem cl_X5_122 {X : JX} {G : JG} {Q : State → Prop} {nL cs ss pc : Nat} {lv : List (Nat × Value)} {st : List Value} {S : HS} {cc : ByteArray} {ret : Option FieldType} {fr lo mc ms : Nat} {fr' lo' mc' ms' : Nat} {b : Nat} {a0 : Int32} {P : Nat → HS → Prop} {RX : String → HS → Prop} (hC : JC X G RX5 cc nL ret fr lo mc ms) (hM : Ct G yX5_findTarget cX5_findTarget 2 (some (FieldType.object "SkyPlan$Target")) fr' lo' mc' ms' [.ref b, .int a0] S (rA P) RX) (hk : hK S b = 7) (h8 : (st.map fun v => v.category).sum ≤ 8) (hr : rOK fr lo mc ms cs ss 2 fr' lo' mc' ms') (d : decode cc pc = .ok (.invokevirtual 122, 3)) (kx : ∀ (E : String) (S' : HS), RX E S' → JT X G Q nL (cs + mc') (ss + ms') pc lv S' E) (kk : ∀ (r : Nat) (S' : HS), P r S' → J X G Q nL (cs + mc') (ss + ms') (pc + 3) lv (.ref r :: st) S') : J X G Q nL cs ss pc lv (.int a0 :: .ref b :: st) S := J_callV hC (r := (RX5, TX5, 8)) (n := 1) (ci := 6) (as := [.int a0]) hM (mG 636 (by decide +kernel) rfl) (mG 638 (by decide +kernel) rfl) (mG 15 (by decide +kernel) rfl) (mG 35 (by decide +kernel) rfl) (mG 639 (by decide +kernel) rfl) ⟨by decide +kernel, by decide +kernel, by decide +kernel⟩ rfl rfl hk rfl rfl rfl h8 hr d kx (fun v S' h => by obtain ⟨r, rfl, h⟩ := h; exact kk r S' h)
theorem cl_X5_144 {X : JX} {G : JG} {Q : State → Prop} {nL cs ss pc : Nat} {lv : List (Nat × Value)} {st : List Value} {S : HS} {cc : ByteArray} {ret : Option FieldType} {fr lo mc ms : Nat} {fr' lo' mc' ms' : Nat} {a0 : Int32} {a1 : Int32} {P : HS → Prop} {RX : String → HS → Prop} (hC : JC X G RX5 cc nL ret fr lo mc ms) (hM : Ct G yX5_checkWhat cX5_checkWhat 2 none fr' lo' mc' ms' [.int a0, .int a1] S (rV P) RX) (h8 : (st.map fun v => v.category).sum ≤ 8) (hr : rOK fr lo mc ms cs ss 2 fr' lo' mc' ms') (d : decode cc pc = .ok (.invokestatic 144, 3)) (kx : ∀ (E : String) (S' : HS), RX E S' → JT X G Q nL (cs + mc') (ss + ms') pc lv S' E) (kk : ∀ S' : HS, P S' → J X G Q nL (cs + mc') (ss + ms') (pc + 3) lv st S') : J X G Q nL cs ss pc lv (.int a1 :: .int a0 :: st) S := J_callS hC (n := 2) (as := [.int a0, .int a1]) hM (mG 664 (by decide +kernel) rfl) (mG 665 (by decide +kernel) rfl) (mG 35 (by decide +kernel) rfl) (mG 666 (by decide +kernel) rfl) ⟨by decide +kernel, by decide +kernel, by decide +kernel⟩ rfl rfl h8 hr d kx (fun v S' h => by obtain ⟨rfl, h⟩ := h; exact kk S' h)
theorem cl_X5_147 {X : JX} {G : JG} {Q : State → Prop} {nL cs ss pc : Nat} {lv : List (Nat × Value)} {st : List Value} {S : HS} {cc : ByteArray} {ret : Option FieldType} {fr lo mc ms : Nat} {fr' lo' mc' ms' : Nat} {b : Nat} {a0 : Int32} {P : Int32 → HS → Prop} (hC : JC X G RX5 cc nL ret fr lo mc ms) (hM : Ct G yX4_fact cX4_fact 2 (some .int) fr' lo' mc' ms' [.ref b, .int a0] S (rI P) noX) (hk : hK S b = 6) (h8 : (st.map fun v => v.category).sum ≤ 8) (hr : rOK fr lo mc ms cs ss 2 fr' lo' mc' ms') (d : decode cc pc = .ok (.invokevirtual 147, 3)) (kk : ∀ (r : Int32) (S' : HS), P r S' → J X G Q nL (cs + mc') (ss + ms') (pc + 3) lv (.int r :: st) S') : J X G Q nL cs ss pc lv (.int a0 :: .ref b :: st) S := J_callV hC (r := (RX4, TX4, 12)) (n := 1) (ci := 5) (as := [.int a0]) hM (mG 321 (by decide +kernel) rfl) (mG 322 (by decide +kernel) rfl) (mG 323 (by decide +kernel) rfl) (mG 51 (by decide +kernel) rfl) (mG 324 (by decide +kernel) rfl) ⟨by decide +kernel, by decide +kernel, by decide +kernel⟩ rfl rfl hk rfl rfl rfl h8 hr d (fun _ _ h => h.elim) (fun v S' h => by obtain ⟨r, rfl, h⟩ := h; exact kk r S' h)
theorem cl_X5_150 {X : JX} {G : JG} {Q : State → Prop} {nL cs ss pc : Nat} {lv : List (Nat × Value)} {st : List Value} {S : HS} {cc : ByteArray} {ret : Option FieldType} {fr lo mc ms : Nat} {fr' lo' mc' ms' : Nat} {b : Nat} {a0 : Int32} {P : HS → Prop} {RX : String → HS → Prop} (hC : JC X G RX5 cc nL ret fr lo mc ms) (hM : Ct G yX5_checkMinute cX5_checkMinute 2 none fr' lo' mc' ms' [.ref b, .int a0] S (rV P) RX) (hk : hK S b = 7) (h8 : (st.map fun v => v.category).sum ≤ 8) (hr : rOK fr lo mc ms cs ss 2 fr' lo' mc' ms') (d : decode cc pc = .ok (.invokevirtual 150, 3)) (kx : ∀ (E : String) (S' : HS), RX E S' → JT X G Q nL (cs + mc') (ss + ms') pc lv S' E) (kk : ∀ S' : HS, P S' → J X G Q nL (cs + mc') (ss + ms') (pc + 3) lv st S') : J X G Q nL cs ss pc lv (.int a0 :: .ref b :: st) S := J_callV hC (r := (RX5, TX5, 8)) (n := 1) (ci := 6) (as := [.int a0]) hM (mG 675 (by decide +kernel) rfl) (mG 677 (by decide +kernel) rfl) (mG 16 (by decide +kernel) rfl) (mG 35 (by decide +kernel) rfl) (mG 678 (by decide +kernel) rfl) ⟨by decide +kernel, by decide +kernel, by decide +kernel⟩ rfl rfl hk rfl rfl rfl h8 hr d kx (fun v S' h => by obtain ⟨rfl, h⟩ := h; exact kk S' h)
theorem cl_X5_157 {X : JX} {G : JG} {Q : State → Prop} {nL cs ss pc : Nat} {lv : List (Nat × Value)} {st : List Value} {S : HS} {cc : ByteArray} {ret : Option FieldType} {fr lo mc ms : Nat} {fr' lo' mc' ms' : Nat} {b : Nat} {a0 : Nat} {a1 : Int32} {P : Int32 → HS → Prop} (hC : JC X G RX5 cc nL ret fr lo mc ms) (hM : Ct G yX5_heightOf cX5_heightOf 5 (some .int) fr' lo' mc' ms' [.ref b, .ref a0, .int a1] S (rI P) noX) (hk : hK S b = 7) (h8 : (st.map fun v => v.category).sum ≤ 8) (hr : rOK fr lo mc ms cs ss 5 fr' lo' mc' ms') (d : decode cc pc = .ok (.invokevirtual 157, 3)) (kk : ∀ (r : Int32) (S' : HS), P r S' → J X G Q nL (cs + mc') (ss + ms') (pc + 3) lv (.int r :: st) S') : J X G Q nL cs ss pc lv (.int a1 :: .ref a0 :: .ref b :: st) S := J_callV hC (r := (RX5, TX5, 8)) (n := 2) (ci := 6) (as := [.ref a0, .int a1]) hM (mG 232 (by decide +kernel) rfl) (mG 234 (by decide +kernel) rfl) (mG 2 (by decide +kernel) rfl) (mG 35 (by decide +kernel) rfl) (mG 235 (by decide +kernel) rfl) ⟨by decide +kernel, by decide +kernel, by decide +kernel⟩ rfl rfl hk rfl rfl rfl h8 hr d (fun _ _ h => h.elim) (fun v S' h => by obtain ⟨r, rfl, h⟩ := h; exact kk r S' h)
theorem cl_X5_161 {X : JX} {G : JG} {Q : State → Prop} {nL cs ss pc : Nat} {lv : List (Nat × Value)} {st : List Value} {S : HS} {cc : ByteArray} {ret : Option FieldType} {fr lo mc ms : Nat} {fr' lo' mc' ms' : Nat} {a0 : Nat} {a1 : Nat} {P : Int32 → HS → Prop} (hC : JC X G RX5 cc nL ret fr lo mc ms) (hM : Ct G yX5_nearnessOf cX5_nearnessOf 3 (some .int) fr' lo' mc' ms' [.ref a0, .ref a1] S (rI P) noX) (h8 : (st.map fun v => v.category).sum ≤ 8) (hr : rOK fr lo mc ms cs ss 3 fr' lo' mc' ms') (d : decode cc pc = .ok (.invokestatic 161, 3)) (kk : ∀ (r : Int32) (S' : HS), P r S' → J X G Q nL (cs + mc') (ss + ms') (pc + 3) lv (.int r :: st) S') : J X G Q nL cs ss pc lv (.ref a1 :: .ref a0 :: st) S := J_callS hC (n := 2) (as := [.ref a0, .ref a1]) hM (mG 248 (by decide +kernel) rfl) (mG 249 (by decide +kernel) rfl) (mG 35 (by decide +kernel) rfl) (mG 250 (by decide +kernel) rfl) ⟨by decide +kernel, by decide +kernel, by decide +kernel⟩ rfl rfl h8 hr d (fun _ _ h => h.elim) (fun v S' h => by obtain ⟨r, rfl, h⟩ := h; exact kk r S' h)
theorem cl_X5_165 {X : JX} {G : JG} {Q : State → Prop} {nL cs ss pc : Nat} {lv : List (Nat × Value)} {st : List Value} {S : HS} {cc : ByteArray} {ret : Option FieldType} {fr lo mc ms : Nat} {fr' lo' mc' ms' : Nat} {b : Nat} {a0 : Nat} {a1 : Int32} {a2 : Int32} {P : Int32 → HS → Prop} (hC : JC X G RX5 cc nL ret fr lo mc ms) (hM : Ct G yX5_reasonAgainst cX5_reasonAgainst 5 (some .int) fr' lo' mc' ms' [.ref b, .ref a0, .int a1, .int a2] S (rI P) noX) (hk : hK S b = 7) (h8 : (st.map fun v => v.category).sum ≤ 8) (hr : rOK fr lo mc ms cs ss 5 fr' lo' mc' ms') (d : decode cc pc = .ok (.invokevirtual 165, 3)) (kk : ∀ (r : Int32) (S' : HS), P r S' → J X G Q nL (cs + mc') (ss + ms') (pc + 3) lv (.int r :: st) S') : J X G Q nL cs ss pc lv (.int a2 :: .int a1 :: .ref a0 :: .ref b :: st) S := J_callV hC (r := (RX5, TX5, 8)) (n := 3) (ci := 6) (as := [.ref a0, .int a1, .int a2]) hM (mG 240 (by decide +kernel) rfl) (mG 242 (by decide +kernel) rfl) (mG 3 (by decide +kernel) rfl) (mG 35 (by decide +kernel) rfl) (mG 243 (by decide +kernel) rfl) ⟨by decide +kernel, by decide +kernel, by decide +kernel⟩ rfl rfl hk rfl rfl rfl h8 hr d (fun _ _ h => h.elim) (fun v S' h => by obtain ⟨r, rfl, h⟩ := h; exact kk r S' h)
theorem cl_X5_169 {X : JX} {G : JG} {Q : State → Prop} {nL cs ss pc : Nat} {lv : List (Nat × Value)} {st : List Value} {S : HS} {cc : ByteArray} {ret : Option FieldType} {fr lo mc ms : Nat} {fr' lo' mc' ms' : Nat} {b : Nat} {a0 : Nat} {P : HS → Prop} (hC : JC X G RX5 cc nL ret fr lo mc ms) (hM : Ct G yX5_survey cX5_survey 5 none fr' lo' mc' ms' [.ref b, .ref a0] S (rV P) noX) (hk : hK S b = 7) (h8 : (st.map fun v => v.category).sum ≤ 8) (hr : rOK fr lo mc ms cs ss 5 fr' lo' mc' ms') (d : decode cc pc = .ok (.invokevirtual 169, 3)) (kk : ∀ S' : HS, P S' → J X G Q nL (cs + mc') (ss + ms') (pc + 3) lv st S') : J X G Q nL cs ss pc lv (.ref a0 :: .ref b :: st) S := J_callV hC (r := (RX5, TX5, 8)) (n := 1) (ci := 6) (as := [.ref a0]) hM (mG 221 (by decide +kernel) rfl) (mG 223 (by decide +kernel) rfl) (mG 1 (by decide +kernel) rfl) (mG 35 (by decide +kernel) rfl) (mG 224 (by decide +kernel) rfl) ⟨by decide +kernel, by decide +kernel, by decide +kernel⟩ rfl rfl hk rfl rfl rfl h8 hr d (fun _ _ h => h.elim) (fun v S' h => by obtain ⟨rfl, h⟩ := h; exact kk S' h)
theorem cl_X5_173 {X : JX} {G : JG} {Q : State → Prop} {nL cs ss pc : Nat} {lv : List (Nat × Value)} {st : List Value} {S : HS} {cc : ByteArray} {ret : Option FieldType} {fr lo mc ms : Nat} {fr' lo' mc' ms' : Nat} {b : Nat} {a0 : Int32} {P : Int32 → HS → Prop} (hC : JC X G RX5 cc nL ret fr lo mc ms) (hM : Ct G yX1_fact cX1_fact 2 (some .int) fr' lo' mc' ms' [.ref b, .int a0] S (rI P) noX) (hk : hK S b = 3) (h8 : (st.map fun v => v.category).sum ≤ 8) (hr : rOK fr lo mc ms cs ss 2 fr' lo' mc' ms') (d : decode cc pc = .ok (.invokevirtual 173, 3)) (kk : ∀ (r : Int32) (S' : HS), P r S' → J X G Q nL (cs + mc') (ss + ms') (pc + 3) lv (.int r :: st) S') : J X G Q nL cs ss pc lv (.int a0 :: .ref b :: st) S := J_callV hC (r := (RX1, TX1, 8)) (n := 1) (ci := 2) (as := [.int a0]) hM (mG 325 (by decide +kernel) rfl) (mG 326 (by decide +kernel) rfl) (mG 327 (by decide +kernel) rfl) (mG 52 (by decide +kernel) rfl) (mG 328 (by decide +kernel) rfl) ⟨by decide +kernel, by decide +kernel, by decide +kernel⟩ rfl rfl hk rfl rfl rfl h8 hr d (fun _ _ h => h.elim) (fun v S' h => by obtain ⟨r, rfl, h⟩ := h; exact kk r S' h)
theorem cl_X5_177 {X : JX} {G : JG} {Q : State → Prop} {nL cs ss pc : Nat} {lv : List (Nat × Value)} {st : List Value} {S : HS} {cc : ByteArray} {ret : Option FieldType} {fr lo mc ms : Nat} {fr' lo' mc' ms' : Nat} {b : Nat} {a0 : Int32} {P : Int32 → HS → Prop} (hC : JC X G RX5 cc nL ret fr lo mc ms) (hM : Ct G yX4_isOpenOn cX4_isOpenOn 2 (some .boolean) fr' lo' mc' ms' [.ref b, .int a0] S (rI P) noX) (hk : hK S b = 6) (h8 : (st.map fun v => v.category).sum ≤ 8) (hr : rOK fr lo mc ms cs ss 2 fr' lo' mc' ms') (d : decode cc pc = .ok (.invokevirtual 177, 3)) (kk : ∀ (r : Int32) (S' : HS), P r S' → J X G Q nL (cs + mc') (ss + ms') (pc + 3) lv (.int r :: st) S') : J X G Q nL cs ss pc lv (.int a0 :: .ref b :: st) S := J_callV hC (r := (RX4, TX4, 12)) (n := 1) (ci := 5) (as := [.int a0]) hM (mG 275 (by decide +kernel) rfl) (mG 276 (by decide +kernel) rfl) (mG 277 (by decide +kernel) rfl) (mG 51 (by decide +kernel) rfl) (mG 278 (by decide +kernel) rfl) ⟨by decide +kernel, by decide +kernel, by decide +kernel⟩ rfl rfl hk rfl rfl rfl h8 hr d (fun _ _ h => h.elim) (fun v S' h => by obtain ⟨r, rfl, h⟩ := h; exact kk r S' h)
theorem cl_X5_181 {X : JX} {G : JG} {Q : State → Prop} {nL cs ss pc : Nat} {lv : List (Nat × Value)} {st : List Value} {S : HS} {cc : ByteArray} {ret : Option FieldType} {fr lo mc ms : Nat} {fr' lo' mc' ms' : Nat} {b : Nat} {a0 : Int32} {P : Nat → HS → Prop} (hC : JC X G RX5 cc nL ret fr lo mc ms) (hM : Ct G yJx4a65c_get_915e3 cJx4a65c_get_915e3 2 (some (FieldType.object "java/lang/Object")) fr' lo' mc' ms' [.ref b, .int a0] S (rA P) noX) (hk : hK S b = 1) (h8 : (st.map fun v => v.category).sum ≤ 8) (hr : rOK fr lo mc ms cs ss 2 fr' lo' mc' ms') (d : decode cc pc = .ok (.invokevirtual 181, 3)) (kk : ∀ (r : Nat) (S' : HS), P r S' → J X G Q nL (cs + mc') (ss + ms') (pc + 3) lv (.ref r :: st) S') : J X G Q nL cs ss pc lv (.int a0 :: .ref b :: st) S := J_callV hC (r := (RJx4a65c, TJx4a65c, 3)) (n := 1) (ci := 0) (as := [.int a0]) hM (mG 206 (by decide +kernel) rfl) (mG 207 (by decide +kernel) rfl) (mG 208 (by decide +kernel) rfl) (mG 40 (by decide +kernel) rfl) (mG 209 (by decide +kernel) rfl) ⟨by decide +kernel, by decide +kernel, by decide +kernel⟩ rfl rfl hk rfl rfl rfl h8 hr d (fun _ _ h => h.elim) (fun v S' h => by obtain ⟨r, rfl, h⟩ := h; exact kk r S' h)
theorem cl_X5_185 {X : JX} {G : JG} {Q : State → Prop} {nL cs ss pc : Nat} {lv : List (Nat × Value)} {st : List Value} {S : HS} {cc : ByteArray} {ret : Option FieldType} {fr lo mc ms : Nat} {fr' lo' mc' ms' : Nat} {b : Nat} {a0 : Nat} {a1 : Int32} {P : Int32 → HS → Prop} (hC : JC X G RX5 cc nL ret fr lo mc ms) (hM : Ct G yX5_share cX5_share 3 (some .int) fr' lo' mc' ms' [.ref b, .ref a0, .int a1] S (rI P) noX) (hk : hK S b = 7) (h8 : (st.map fun v => v.category).sum ≤ 8) (hr : rOK fr lo mc ms cs ss 3 fr' lo' mc' ms') (d : decode cc pc = .ok (.invokevirtual 185, 3)) (kk : ∀ (r : Int32) (S' : HS), P r S' → J X G Q nL (cs + mc') (ss + ms') (pc + 3) lv (.int r :: st) S') : J X G Q nL cs ss pc lv (.int a1 :: .ref a0 :: .ref b :: st) S := J_callV hC (r := (RX5, TX5, 8)) (n := 2) (ci := 6) (as := [.ref a0, .int a1]) hM (mG 729 (by decide +kernel) rfl) (mG 731 (by decide +kernel) rfl) (mG 17 (by decide +kernel) rfl) (mG 35 (by decide +kernel) rfl) (mG 732 (by decide +kernel) rfl) ⟨by decide +kernel, by decide +kernel, by decide +kernel⟩ rfl rfl hk rfl rfl rfl h8 hr d (fun _ _ h => h.elim) (fun v S' h => by obtain ⟨r, rfl, h⟩ := h; exact kk r S' h)
theorem cl_X5_189 {X : JX} {G : JG} {Q : State → Prop} {nL cs ss pc : Nat} {lv : List (Nat × Value)} {st : List Value} {S : HS} {cc : ByteArray} {ret : Option FieldType} {fr lo mc ms : Nat} {fr' lo' mc' ms' : Nat} {b : Nat}  {P : HS → Prop} (hC : JC X G RX5 cc nL ret fr lo mc ms) (hM : Ct G yX5_settlePlan cX5_settlePlan 3 none fr' lo' mc' ms' [.ref b] S (rV P) noX) (hk : hK S b = 7) (h8 : (st.map fun v => v.category).sum ≤ 8) (hr : rOK fr lo mc ms cs ss 3 fr' lo' mc' ms') (d : decode cc pc = .ok (.invokevirtual 189, 3)) (kk : ∀ S' : HS, P S' → J X G Q nL (cs + mc') (ss + ms') (pc + 3) lv st S') : J X G Q nL cs ss pc lv (.ref b :: st) S := J_callV hC (r := (RX5, TX5, 8)) (n := 0) (ci := 6) (as := []) hM (mG 194 (by decide +kernel) rfl) (mG 196 (by decide +kernel) rfl) (mG 0 (by decide +kernel) rfl) (mG 35 (by decide +kernel) rfl) (mG 197 (by decide +kernel) rfl) ⟨by decide +kernel, by decide +kernel, by decide +kernel⟩ rfl rfl hk rfl rfl rfl h8 hr d (fun _ _ h => h.elim) (fun v S' h => by obtain ⟨rfl, h⟩ := h; exact kk S' h)
theorem cl_X5_208 {X : JX} {G : JG} {Q : State → Prop} {nL cs ss pc : Nat} {lv : List (Nat × Value)} {st : List Value} {S : HS} {cc : ByteArray} {ret : Option FieldType} {fr lo mc ms : Nat} {fr' lo' mc' ms' : Nat} {b : Nat} {a0 : Int32} {P : HS → Prop} (hC : JC X G RX5 cc nL ret fr lo mc ms) (hM : Ct G yX4_takeVisit cX4_takeVisit 2 none fr' lo' mc' ms' [.ref b, .int a0] S (rV P) noX) (hk : hK S b = 6) (h8 : (st.map fun v => v.category).sum ≤ 8) (hr : rOK fr lo mc ms cs ss 2 fr' lo' mc' ms') (d : decode cc pc = .ok (.invokevirtual 208, 3)) (kk : ∀ S' : HS, P S' → J X G Q nL (cs + mc') (ss + ms') (pc + 3) lv st S') : J X G Q nL cs ss pc lv (.int a0 :: .ref b :: st) S := J_callV hC (r := (RX4, TX4, 12)) (n := 1) (ci := 5) (as := [.int a0]) hM (mG 749 (by decide +kernel) rfl) (mG 750 (by decide +kernel) rfl) (mG 751 (by decide +kernel) rfl) (mG 51 (by decide +kernel) rfl) (mG 752 (by decide +kernel) rfl) ⟨by decide +kernel, by decide +kernel, by decide +kernel⟩ rfl rfl hk rfl rfl rfl h8 hr d (fun _ _ h => h.elim) (fun v S' h => by obtain ⟨rfl, h⟩ := h; exact kk S' h)
theorem cl_X5_211 {X : JX} {G : JG} {Q : State → Prop} {nL cs ss pc : Nat} {lv : List (Nat × Value)} {st : List Value} {S : HS} {cc : ByteArray} {ret : Option FieldType} {fr lo mc ms : Nat} {fr' lo' mc' ms' : Nat} {b : Nat}  {P : HS → Prop} (hC : JC X G RX5 cc nL ret fr lo mc ms) (hM : Ct G yX5_beginNextNight cX5_beginNextNight 1 none fr' lo' mc' ms' [.ref b] S (rV P) noX) (hk : hK S b = 7) (h8 : (st.map fun v => v.category).sum ≤ 8) (hr : rOK fr lo mc ms cs ss 1 fr' lo' mc' ms') (d : decode cc pc = .ok (.invokevirtual 211, 3)) (kk : ∀ S' : HS, P S' → J X G Q nL (cs + mc') (ss + ms') (pc + 3) lv st S') : J X G Q nL cs ss pc lv (.ref b :: st) S := J_callV hC (r := (RX5, TX5, 8)) (n := 0) (ci := 6) (as := []) hM (mG 753 (by decide +kernel) rfl) (mG 755 (by decide +kernel) rfl) (mG 18 (by decide +kernel) rfl) (mG 35 (by decide +kernel) rfl) (mG 756 (by decide +kernel) rfl) ⟨by decide +kernel, by decide +kernel, by decide +kernel⟩ rfl rfl hk rfl rfl rfl h8 hr d (fun _ _ h => h.elim) (fun v S' h => by obtain ⟨rfl, h⟩ := h; exact kk S' h)
theorem cl_X5_218 {X : JX} {G : JG} {Q : State → Prop} {nL cs ss pc : Nat} {lv : List (Nat × Value)} {st : List Value} {S : HS} {cc : ByteArray} {ret : Option FieldType} {fr lo mc ms : Nat} {fr' lo' mc' ms' : Nat} {a0 : Int64} {a1 : Int32} {P : Int64 → HS → Prop} (hC : JC X G RX5 cc nL ret fr lo mc ms) (hM : Ct G yX5_blend cX5_blend 3 (some .long) fr' lo' mc' ms' [.long a0, .int a1] S (rL P) noX) (h8 : (st.map fun v => v.category).sum ≤ 8) (hr : rOK fr lo mc ms cs ss 3 fr' lo' mc' ms') (d : decode cc pc = .ok (.invokestatic 218, 3)) (kk : ∀ (r : Int64) (S' : HS), P r S' → J X G Q nL (cs + mc') (ss + ms') (pc + 3) lv (.long r :: st) S') : J X G Q nL cs ss pc lv (.int a1 :: .long a0 :: st) S := J_callS hC (n := 2) (as := [.long a0, .int a1]) hM (mG 313 (by decide +kernel) rfl) (mG 314 (by decide +kernel) rfl) (mG 35 (by decide +kernel) rfl) (mG 315 (by decide +kernel) rfl) ⟨by decide +kernel, by decide +kernel, by decide +kernel⟩ rfl rfl h8 hr d (fun _ _ h => h.elim) (fun v S' h => by obtain ⟨r, rfl, h⟩ := h; exact kk r S' h)
theorem cl_X5_225 {X : JX} {G : JG} {Q : State → Prop} {nL cs ss pc : Nat} {lv : List (Nat × Value)} {st : List Value} {S : HS} {cc : ByteArray} {ret : Option FieldType} {fr lo mc ms : Nat} {fr' lo' mc' ms' : Nat} {b : Nat} {a0 : Int64} {P : Int64 → HS → Prop} (hC : JC X G RX5 cc nL ret fr lo mc ms) (hM : Ct G yX5_blendTargets cX5_blendTargets 8 (some .long) fr' lo' mc' ms' [.ref b, .long a0] S (rL P) noX) (hk : hK S b = 7) (h8 : (st.map fun v => v.category).sum ≤ 8) (hr : rOK fr lo mc ms cs ss 8 fr' lo' mc' ms') (d : decode cc pc = .ok (.invokevirtual 225, 3)) (kk : ∀ (r : Int64) (S' : HS), P r S' → J X G Q nL (cs + mc') (ss + ms') (pc + 3) lv (.long r :: st) S') : J X G Q nL cs ss pc lv (.long a0 :: .ref b :: st) S := J_callV hC (r := (RX5, TX5, 8)) (n := 1) (ci := 6) (as := [.long a0]) hM (mG 317 (by decide +kernel) rfl) (mG 319 (by decide +kernel) rfl) (mG 7 (by decide +kernel) rfl) (mG 35 (by decide +kernel) rfl) (mG 320 (by decide +kernel) rfl) ⟨by decide +kernel, by decide +kernel, by decide +kernel⟩ rfl rfl hk rfl rfl rfl h8 hr d (fun _ _ h => h.elim) (fun v S' h => by obtain ⟨r, rfl, h⟩ := h; exact kk r S' h)
theorem cl_X5_229 {X : JX} {G : JG} {Q : State → Prop} {nL cs ss pc : Nat} {lv : List (Nat × Value)} {st : List Value} {S : HS} {cc : ByteArray} {ret : Option FieldType} {fr lo mc ms : Nat} {fr' lo' mc' ms' : Nat} {b : Nat} {a0 : Int64} {P : Int64 → HS → Prop} (hC : JC X G RX5 cc nL ret fr lo mc ms) (hM : Ct G yX5_blendPlan cX5_blendPlan 7 (some .long) fr' lo' mc' ms' [.ref b, .long a0] S (rL P) noX) (hk : hK S b = 7) (h8 : (st.map fun v => v.category).sum ≤ 8) (hr : rOK fr lo mc ms cs ss 7 fr' lo' mc' ms') (d : decode cc pc = .ok (.invokevirtual 229, 3)) (kk : ∀ (r : Int64) (S' : HS), P r S' → J X G Q nL (cs + mc') (ss + ms') (pc + 3) lv (.long r :: st) S') : J X G Q nL cs ss pc lv (.long a0 :: .ref b :: st) S := J_callV hC (r := (RX5, TX5, 8)) (n := 1) (ci := 6) (as := [.long a0]) hM (mG 329 (by decide +kernel) rfl) (mG 331 (by decide +kernel) rfl) (mG 8 (by decide +kernel) rfl) (mG 35 (by decide +kernel) rfl) (mG 332 (by decide +kernel) rfl) ⟨by decide +kernel, by decide +kernel, by decide +kernel⟩ rfl rfl hk rfl rfl rfl h8 hr d (fun _ _ h => h.elim) (fun v S' h => by obtain ⟨r, rfl, h⟩ := h; exact kk r S' h)
theorem cl_X5_245 {X : JX} {G : JG} {Q : State → Prop} {nL cs ss pc : Nat} {lv : List (Nat × Value)} {st : List Value} {S : HS} {cc : ByteArray} {ret : Option FieldType} {fr lo mc ms : Nat} {fr' lo' mc' ms' : Nat} {a0 : Int32} {P : Int32 → HS → Prop} (hC : JC X G RX5 cc nL ret fr lo mc ms) (hM : Ct G yJ9_abs_0f7a4 cJ9_abs_0f7a4 1 (some .int) fr' lo' mc' ms' [.int a0] S (rI P) noX) (h8 : (st.map fun v => v.category).sum ≤ 8) (hr : rOK fr lo mc ms cs ss 1 fr' lo' mc' ms') (d : decode cc pc = .ok (.invokestatic 245, 3)) (kk : ∀ (r : Int32) (S' : HS), P r S' → J X G Q nL (cs + mc') (ss + ms') (pc + 3) lv (.int r :: st) S') : J X G Q nL cs ss pc lv (.int a0 :: st) S := J_callS hC (n := 1) (as := [.int a0]) hM (mG 251 (by decide +kernel) rfl) (mG 252 (by decide +kernel) rfl) (mG 49 (by decide +kernel) rfl) (mG 253 (by decide +kernel) rfl) ⟨by decide +kernel, by decide +kernel, by decide +kernel⟩ rfl rfl h8 hr d (fun _ _ h => h.elim) (fun v S' h => by obtain ⟨r, rfl, h⟩ := h; exact kk r S' h)
theorem cl_X5_250 {X : JX} {G : JG} {Q : State → Prop} {nL cs ss pc : Nat} {lv : List (Nat × Value)} {st : List Value} {S : HS} {cc : ByteArray} {ret : Option FieldType} {fr lo mc ms : Nat} {fr' lo' mc' ms' : Nat} {a0 : Nat} {a1 : Nat} {a2 : Int32} {P : Int32 → HS → Prop} (hC : JC X G RX5 cc nL ret fr lo mc ms) (hM : Ct G yX5_closeness cX5_closeness 3 (some .int) fr' lo' mc' ms' [.ref a0, .ref a1, .int a2] S (rI P) noX) (h8 : (st.map fun v => v.category).sum ≤ 8) (hr : rOK fr lo mc ms cs ss 3 fr' lo' mc' ms') (d : decode cc pc = .ok (.invokestatic 250, 3)) (kk : ∀ (r : Int32) (S' : HS), P r S' → J X G Q nL (cs + mc') (ss + ms') (pc + 3) lv (.int r :: st) S') : J X G Q nL cs ss pc lv (.int a2 :: .ref a1 :: .ref a0 :: st) S := J_callS hC (n := 3) (as := [.ref a0, .ref a1, .int a2]) hM (mG 237 (by decide +kernel) rfl) (mG 238 (by decide +kernel) rfl) (mG 35 (by decide +kernel) rfl) (mG 239 (by decide +kernel) rfl) ⟨by decide +kernel, by decide +kernel, by decide +kernel⟩ rfl rfl h8 hr d (fun _ _ h => h.elim) (fun v S' h => by obtain ⟨r, rfl, h⟩ := h; exact kk r S' h)
theorem cl_X5_254 {X : JX} {G : JG} {Q : State → Prop} {nL cs ss pc : Nat} {lv : List (Nat × Value)} {st : List Value} {S : HS} {cc : ByteArray} {ret : Option FieldType} {fr lo mc ms : Nat} {fr' lo' mc' ms' : Nat} {b : Nat} {a0 : Int32} {P : Int32 → HS → Prop} (hC : JC X G RX5 cc nL ret fr lo mc ms) (hM : Ct G yX0_cover cX0_cover 3 (some .boolean) fr' lo' mc' ms' [.ref b, .int a0] S (rI P) noX) (hk : hK S b = 2) (h8 : (st.map fun v => v.category).sum ≤ 8) (hr : rOK fr lo mc ms cs ss 3 fr' lo' mc' ms') (d : decode cc pc = .ok (.invokevirtual 254, 3)) (kk : ∀ (r : Int32) (S' : HS), P r S' → J X G Q nL (cs + mc') (ss + ms') (pc + 3) lv (.int r :: st) S') : J X G Q nL cs ss pc lv (.int a0 :: .ref b :: st) S := J_callV hC (r := (RX0, TX0, 3)) (n := 1) (ci := 1) (as := [.int a0]) hM (mG 244 (by decide +kernel) rfl) (mG 245 (by decide +kernel) rfl) (mG 246 (by decide +kernel) rfl) (mG 37 (by decide +kernel) rfl) (mG 247 (by decide +kernel) rfl) ⟨by decide +kernel, by decide +kernel, by decide +kernel⟩ rfl rfl hk rfl rfl rfl h8 hr d (fun _ _ h => h.elim) (fun v S' h => by obtain ⟨r, rfl, h⟩ := h; exact kk r S' h)
theorem cl_X5_257 {X : JX} {G : JG} {Q : State → Prop} {nL cs ss pc : Nat} {lv : List (Nat × Value)} {st : List Value} {S : HS} {cc : ByteArray} {ret : Option FieldType} {fr lo mc ms : Nat} {fr' lo' mc' ms' : Nat} {b : Nat}  {P : HS → Prop} (hC : JC X G RX5 cc nL ret fr lo mc ms) (hM : Ct G yX1_clear cX1_clear 1 none fr' lo' mc' ms' [.ref b] S (rV P) noX) (hk : hK S b = 3) (h8 : (st.map fun v => v.category).sum ≤ 8) (hr : rOK fr lo mc ms cs ss 1 fr' lo' mc' ms') (d : decode cc pc = .ok (.invokevirtual 257, 3)) (kk : ∀ S' : HS, P S' → J X G Q nL (cs + mc') (ss + ms') (pc + 3) lv st S') : J X G Q nL cs ss pc lv (.ref b :: st) S := J_callV hC (r := (RX1, TX1, 8)) (n := 0) (ci := 2) (as := []) hM (mG 225 (by decide +kernel) rfl) (mG 226 (by decide +kernel) rfl) (mG 227 (by decide +kernel) rfl) (mG 52 (by decide +kernel) rfl) (mG 228 (by decide +kernel) rfl) ⟨by decide +kernel, by decide +kernel, by decide +kernel⟩ rfl rfl hk rfl rfl rfl h8 hr d (fun _ _ h => h.elim) (fun v S' h => by obtain ⟨rfl, h⟩ := h; exact kk S' h)
theorem cl_X5_260 {X : JX} {G : JG} {Q : State → Prop} {nL cs ss pc : Nat} {lv : List (Nat × Value)} {st : List Value} {S : HS} {cc : ByteArray} {ret : Option FieldType} {fr lo mc ms : Nat} {fr' lo' mc' ms' : Nat} {b : Nat} {a0 : Int32} {a1 : Int32} {P : HS → Prop} (hC : JC X G RX5 cc nL ret fr lo mc ms) (hM : Ct G yX1_noteHeight cX1_noteHeight 3 none fr' lo' mc' ms' [.ref b, .int a0, .int a1] S (rV P) noX) (hk : hK S b = 3) (h8 : (st.map fun v => v.category).sum ≤ 8) (hr : rOK fr lo mc ms cs ss 3 fr' lo' mc' ms') (d : decode cc pc = .ok (.invokevirtual 260, 3)) (kk : ∀ S' : HS, P S' → J X G Q nL (cs + mc') (ss + ms') (pc + 3) lv st S') : J X G Q nL cs ss pc lv (.int a1 :: .int a0 :: .ref b :: st) S := J_callV hC (r := (RX1, TX1, 8)) (n := 2) (ci := 2) (as := [.int a0, .int a1]) hM (mG 258 (by decide +kernel) rfl) (mG 259 (by decide +kernel) rfl) (mG 260 (by decide +kernel) rfl) (mG 52 (by decide +kernel) rfl) (mG 261 (by decide +kernel) rfl) ⟨by decide +kernel, by decide +kernel, by decide +kernel⟩ rfl rfl hk rfl rfl rfl h8 hr d (fun _ _ h => h.elim) (fun v S' h => by obtain ⟨rfl, h⟩ := h; exact kk S' h)
theorem cl_X5_264 {X : JX} {G : JG} {Q : State → Prop} {nL cs ss pc : Nat} {lv : List (Nat × Value)} {st : List Value} {S : HS} {cc : ByteArray} {ret : Option FieldType} {fr lo mc ms : Nat} {fr' lo' mc' ms' : Nat} {b : Nat} {a0 : Int32} {a1 : Int32} {a2 : Int32} {P : HS → Prop} (hC : JC X G RX5 cc nL ret fr lo mc ms) (hM : Ct G yX1_noteRun cX1_noteRun 4 none fr' lo' mc' ms' [.ref b, .int a0, .int a1, .int a2] S (rV P) noX) (hk : hK S b = 3) (h8 : (st.map fun v => v.category).sum ≤ 8) (hr : rOK fr lo mc ms cs ss 4 fr' lo' mc' ms') (d : decode cc pc = .ok (.invokevirtual 264, 3)) (kk : ∀ S' : HS, P S' → J X G Q nL (cs + mc') (ss + ms') (pc + 3) lv st S') : J X G Q nL cs ss pc lv (.int a2 :: .int a1 :: .int a0 :: .ref b :: st) S := J_callV hC (r := (RX1, TX1, 8)) (n := 3) (ci := 2) (as := [.int a0, .int a1, .int a2]) hM (mG 262 (by decide +kernel) rfl) (mG 263 (by decide +kernel) rfl) (mG 264 (by decide +kernel) rfl) (mG 52 (by decide +kernel) rfl) (mG 265 (by decide +kernel) rfl) ⟨by decide +kernel, by decide +kernel, by decide +kernel⟩ rfl rfl hk rfl rfl rfl h8 hr d (fun _ _ h => h.elim) (fun v S' h => by obtain ⟨rfl, h⟩ := h; exact kk S' h)
theorem cl_X5_271 {X : JX} {G : JG} {Q : State → Prop} {nL cs ss pc : Nat} {lv : List (Nat × Value)} {st : List Value} {S : HS} {cc : ByteArray} {ret : Option FieldType} {fr lo mc ms : Nat} {fr' lo' mc' ms' : Nat} {b : Nat}  {P : HS → Prop} (hC : JC X G RX5 cc nL ret fr lo mc ms) (hM : Ct G yX2_clear cX2_clear 1 none fr' lo' mc' ms' [.ref b] S (rV P) noX) (hk : hK S b = 4) (h8 : (st.map fun v => v.category).sum ≤ 8) (hr : rOK fr lo mc ms cs ss 1 fr' lo' mc' ms') (d : decode cc pc = .ok (.invokevirtual 271, 3)) (kk : ∀ S' : HS, P S' → J X G Q nL (cs + mc') (ss + ms') (pc + 3) lv st S') : J X G Q nL cs ss pc lv (.ref b :: st) S := J_callV hC (r := (RX2, TX2, 5)) (n := 0) (ci := 3) (as := []) hM (mG 198 (by decide +kernel) rfl) (mG 199 (by decide +kernel) rfl) (mG 200 (by decide +kernel) rfl) (mG 41 (by decide +kernel) rfl) (mG 201 (by decide +kernel) rfl) ⟨by decide +kernel, by decide +kernel, by decide +kernel⟩ rfl rfl hk rfl rfl rfl h8 hr d (fun _ _ h => h.elim) (fun v S' h => by obtain ⟨rfl, h⟩ := h; exact kk S' h)
theorem cl_X5_275 {X : JX} {G : JG} {Q : State → Prop} {nL cs ss pc : Nat} {lv : List (Nat × Value)} {st : List Value} {S : HS} {cc : ByteArray} {ret : Option FieldType} {fr lo mc ms : Nat} {fr' lo' mc' ms' : Nat} {b : Nat} {a0 : Int32} {P : Int32 → HS → Prop} (hC : JC X G RX5 cc nL ret fr lo mc ms) (hM : Ct G yX5_takeBest cX5_takeBest 7 (some .int) fr' lo' mc' ms' [.ref b, .int a0] S (rI P) noX) (hk : hK S b = 7) (h8 : (st.map fun v => v.category).sum ≤ 8) (hr : rOK fr lo mc ms cs ss 7 fr' lo' mc' ms') (d : decode cc pc = .ok (.invokevirtual 275, 3)) (kk : ∀ (r : Int32) (S' : HS), P r S' → J X G Q nL (cs + mc') (ss + ms') (pc + 3) lv (.int r :: st) S') : J X G Q nL cs ss pc lv (.int a0 :: .ref b :: st) S := J_callV hC (r := (RX5, TX5, 8)) (n := 1) (ci := 6) (as := [.int a0]) hM (mG 266 (by decide +kernel) rfl) (mG 268 (by decide +kernel) rfl) (mG 5 (by decide +kernel) rfl) (mG 35 (by decide +kernel) rfl) (mG 269 (by decide +kernel) rfl) ⟨by decide +kernel, by decide +kernel, by decide +kernel⟩ rfl rfl hk rfl rfl rfl h8 hr d (fun _ _ h => h.elim) (fun v S' h => by obtain ⟨r, rfl, h⟩ := h; exact kk r S' h)
theorem cl_X5_278 {X : JX} {G : JG} {Q : State → Prop} {nL cs ss pc : Nat} {lv : List (Nat × Value)} {st : List Value} {S : HS} {cc : ByteArray} {ret : Option FieldType} {fr lo mc ms : Nat} {fr' lo' mc' ms' : Nat} {a0 : Int32} {a1 : Int32} {P : Int32 → HS → Prop} (hC : JC X G RX5 cc nL ret fr lo mc ms) (hM : Ct G yJ9_max_7cf53 cJ9_max_7cf53 2 (some .int) fr' lo' mc' ms' [.int a0, .int a1] S (rI P) noX) (h8 : (st.map fun v => v.category).sum ≤ 8) (hr : rOK fr lo mc ms cs ss 2 fr' lo' mc' ms') (d : decode cc pc = .ok (.invokestatic 278, 3)) (kk : ∀ (r : Int32) (S' : HS), P r S' → J X G Q nL (cs + mc') (ss + ms') (pc + 3) lv (.int r :: st) S') : J X G Q nL cs ss pc lv (.int a1 :: .int a0 :: st) S := J_callS hC (n := 2) (as := [.int a0, .int a1]) hM (mG 293 (by decide +kernel) rfl) (mG 294 (by decide +kernel) rfl) (mG 49 (by decide +kernel) rfl) (mG 295 (by decide +kernel) rfl) ⟨by decide +kernel, by decide +kernel, by decide +kernel⟩ rfl rfl h8 hr d (fun _ _ h => h.elim) (fun v S' h => by obtain ⟨r, rfl, h⟩ := h; exact kk r S' h)
theorem cl_X5_283 {X : JX} {G : JG} {Q : State → Prop} {nL cs ss pc : Nat} {lv : List (Nat × Value)} {st : List Value} {S : HS} {cc : ByteArray} {ret : Option FieldType} {fr lo mc ms : Nat} {fr' lo' mc' ms' : Nat} {b : Nat} {a0 : Nat} {a1 : Int32} {P : Int32 → HS → Prop} (hC : JC X G RX5 cc nL ret fr lo mc ms) (hM : Ct G yX5_meritAt cX5_meritAt 4 (some .int) fr' lo' mc' ms' [.ref b, .ref a0, .int a1] S (rI P) noX) (hk : hK S b = 7) (h8 : (st.map fun v => v.category).sum ≤ 8) (hr : rOK fr lo mc ms cs ss 4 fr' lo' mc' ms') (d : decode cc pc = .ok (.invokevirtual 283, 3)) (kk : ∀ (r : Int32) (S' : HS), P r S' → J X G Q nL (cs + mc') (ss + ms') (pc + 3) lv (.int r :: st) S') : J X G Q nL cs ss pc lv (.int a1 :: .ref a0 :: .ref b :: st) S := J_callV hC (r := (RX5, TX5, 8)) (n := 2) (ci := 6) (as := [.ref a0, .int a1]) hM (mG 271 (by decide +kernel) rfl) (mG 273 (by decide +kernel) rfl) (mG 6 (by decide +kernel) rfl) (mG 35 (by decide +kernel) rfl) (mG 274 (by decide +kernel) rfl) ⟨by decide +kernel, by decide +kernel, by decide +kernel⟩ rfl rfl hk rfl rfl rfl h8 hr d (fun _ _ h => h.elim) (fun v S' h => by obtain ⟨r, rfl, h⟩ := h; exact kk r S' h)
theorem cl_X5_286 {X : JX} {G : JG} {Q : State → Prop} {nL cs ss pc : Nat} {lv : List (Nat × Value)} {st : List Value} {S : HS} {cc : ByteArray} {ret : Option FieldType} {fr lo mc ms : Nat} {fr' lo' mc' ms' : Nat} {b : Nat} {a0 : Nat} {a1 : Int32} {a2 : Int32} {P : Int32 → HS → Prop} (hC : JC X G RX5 cc nL ret fr lo mc ms) (hM : Ct G yX2_take cX2_take 5 (some .int) fr' lo' mc' ms' [.ref b, .ref a0, .int a1, .int a2] S (rI P) noX) (hk : hK S b = 4) (h8 : (st.map fun v => v.category).sum ≤ 8) (hr : rOK fr lo mc ms cs ss 5 fr' lo' mc' ms') (d : decode cc pc = .ok (.invokevirtual 286, 3)) (kk : ∀ (r : Int32) (S' : HS), P r S' → J X G Q nL (cs + mc') (ss + ms') (pc + 3) lv (.int r :: st) S') : J X G Q nL cs ss pc lv (.int a2 :: .int a1 :: .ref a0 :: .ref b :: st) S := J_callV hC (r := (RX2, TX2, 5)) (n := 3) (ci := 3) (as := [.ref a0, .int a1, .int a2]) hM (mG 288 (by decide +kernel) rfl) (mG 289 (by decide +kernel) rfl) (mG 290 (by decide +kernel) rfl) (mG 41 (by decide +kernel) rfl) (mG 291 (by decide +kernel) rfl) ⟨by decide +kernel, by decide +kernel, by decide +kernel⟩ rfl rfl hk rfl rfl rfl h8 hr d (fun _ _ h => h.elim) (fun v S' h => by obtain ⟨r, rfl, h⟩ := h; exact kk r S' h)
theorem cl_X5_289 {X : JX} {G : JG} {Q : State → Prop} {nL cs ss pc : Nat} {lv : List (Nat × Value)} {st : List Value} {S : HS} {cc : ByteArray} {ret : Option FieldType} {fr lo mc ms : Nat} {fr' lo' mc' ms' : Nat} {b : Nat} {a0 : Nat} {P : Int32 → HS → Prop} (hC : JC X G RX5 cc nL ret fr lo mc ms) (hM : Ct G yX2_minutesUntilReady cX2_minutesUntilReady 4 (some .int) fr' lo' mc' ms' [.ref b, .ref a0] S (rI P) noX) (hk : hK S b = 4) (h8 : (st.map fun v => v.category).sum ≤ 8) (hr : rOK fr lo mc ms cs ss 4 fr' lo' mc' ms') (d : decode cc pc = .ok (.invokevirtual 289, 3)) (kk : ∀ (r : Int32) (S' : HS), P r S' → J X G Q nL (cs + mc') (ss + ms') (pc + 3) lv (.int r :: st) S') : J X G Q nL cs ss pc lv (.ref a0 :: .ref b :: st) S := J_callV hC (r := (RX2, TX2, 5)) (n := 1) (ci := 3) (as := [.ref a0]) hM (mG 279 (by decide +kernel) rfl) (mG 280 (by decide +kernel) rfl) (mG 281 (by decide +kernel) rfl) (mG 41 (by decide +kernel) rfl) (mG 282 (by decide +kernel) rfl) ⟨by decide +kernel, by decide +kernel, by decide +kernel⟩ rfl rfl hk rfl rfl rfl h8 hr d (fun _ _ h => h.elim) (fun v S' h => by obtain ⟨r, rfl, h⟩ := h; exact kk r S' h)
theorem cl_X5_293 {X : JX} {G : JG} {Q : State → Prop} {nL cs ss pc : Nat} {lv : List (Nat × Value)} {st : List Value} {S : HS} {cc : ByteArray} {ret : Option FieldType} {fr lo mc ms : Nat} {fr' lo' mc' ms' : Nat} {b : Nat} {a0 : Int32} {a1 : Int32} {P : Int32 → HS → Prop} (hC : JC X G RX5 cc nL ret fr lo mc ms) (hM : Ct G yX1_lasts cX1_lasts 3 (some .boolean) fr' lo' mc' ms' [.ref b, .int a0, .int a1] S (rI P) noX) (hk : hK S b = 3) (h8 : (st.map fun v => v.category).sum ≤ 8) (hr : rOK fr lo mc ms cs ss 3 fr' lo' mc' ms') (d : decode cc pc = .ok (.invokevirtual 293, 3)) (kk : ∀ (r : Int32) (S' : HS), P r S' → J X G Q nL (cs + mc') (ss + ms') (pc + 3) lv (.int r :: st) S') : J X G Q nL cs ss pc lv (.int a1 :: .int a0 :: .ref b :: st) S := J_callV hC (r := (RX1, TX1, 8)) (n := 2) (ci := 2) (as := [.int a0, .int a1]) hM (mG 284 (by decide +kernel) rfl) (mG 285 (by decide +kernel) rfl) (mG 286 (by decide +kernel) rfl) (mG 52 (by decide +kernel) rfl) (mG 287 (by decide +kernel) rfl) ⟨by decide +kernel, by decide +kernel, by decide +kernel⟩ rfl rfl hk rfl rfl rfl h8 hr d (fun _ _ h => h.elim) (fun v S' h => by obtain ⟨r, rfl, h⟩ := h; exact kk r S' h)
theorem cl_X1_15 {X : JX} {G : JG} {Q : State → Prop} {nL cs ss pc : Nat} {lv : List (Nat × Value)} {st : List Value} {S : HS} {cc : ByteArray} {ret : Option FieldType} {fr lo mc ms : Nat} {fr' lo' mc' ms' : Nat} {a0 : Nat} {a1 : Int32} {P : HS → Prop} (hC : JC X G RX1 cc nL ret fr lo mc ms) (hM : Ct G yJ7_fill_53178 cJ7_fill_53178 4 none fr' lo' mc' ms' [.ref a0, .int a1] S (rV P) noX) (h8 : (st.map fun v => v.category).sum ≤ 8) (hr : rOK fr lo mc ms cs ss 4 fr' lo' mc' ms') (d : decode cc pc = .ok (.invokestatic 15, 3)) (kk : ∀ S' : HS, P S' → J X G Q nL (cs + mc') (ss + ms') (pc + 3) lv st S') : J X G Q nL cs ss pc lv (.int a1 :: .ref a0 :: st) S := J_callS hC (n := 2) (as := [.ref a0, .int a1]) hM (mG 229 (by decide +kernel) rfl) (mG 230 (by decide +kernel) rfl) (mG 54 (by decide +kernel) rfl) (mG 231 (by decide +kernel) rfl) ⟨by decide +kernel, by decide +kernel, by decide +kernel⟩ rfl rfl h8 hr d (fun _ _ h => h.elim) (fun v S' h => by obtain ⟨rfl, h⟩ := h; exact kk S' h)
theorem cl_X2_36 {X : JX} {G : JG} {Q : State → Prop} {nL cs ss pc : Nat} {lv : List (Nat × Value)} {st : List Value} {S : HS} {cc : ByteArray} {ret : Option FieldType} {fr lo mc ms : Nat} {fr' lo' mc' ms' : Nat} {a0 : Nat} {a1 : Nat} {P : Int32 → HS → Prop} (hC : JC X G RX2 cc nL ret fr lo mc ms) (hM : Ct G yX5_nearnessOf cX5_nearnessOf 3 (some .int) fr' lo' mc' ms' [.ref a0, .ref a1] S (rI P) noX) (h8 : (st.map fun v => v.category).sum ≤ 8) (hr : rOK fr lo mc ms cs ss 3 fr' lo' mc' ms') (d : decode cc pc = .ok (.invokestatic 36, 3)) (kk : ∀ (r : Int32) (S' : HS), P r S' → J X G Q nL (cs + mc') (ss + ms') (pc + 3) lv (.int r :: st) S') : J X G Q nL cs ss pc lv (.ref a1 :: .ref a0 :: st) S := J_callSN hC (n := 2) (as := [.ref a0, .ref a1]) (host := "SkyPlan") hM (mN 283 (by decide +kernel) rfl) (mG 249 (by decide +kernel) rfl) (mG 35 (by decide +kernel) rfl) (mG 250 (by decide +kernel) rfl) ⟨by decide +kernel, by decide +kernel, by decide +kernel⟩ rfl rfl h8 hr d (fun v S' h => by obtain ⟨r, rfl, h⟩ := h; exact kk r S' h)
theorem cl_X2_40 {X : JX} {G : JG} {Q : State → Prop} {nL cs ss pc : Nat} {lv : List (Nat × Value)} {st : List Value} {S : HS} {cc : ByteArray} {ret : Option FieldType} {fr lo mc ms : Nat} {fr' lo' mc' ms' : Nat} {b : Nat} {a0 : Nat} {P : Int32 → HS → Prop} (hC : JC X G RX2 cc nL ret fr lo mc ms) (hM : Ct G yX2_minutesUntilReady cX2_minutesUntilReady 4 (some .int) fr' lo' mc' ms' [.ref b, .ref a0] S (rI P) noX) (hk : hK S b = 4) (h8 : (st.map fun v => v.category).sum ≤ 8) (hr : rOK fr lo mc ms cs ss 4 fr' lo' mc' ms') (d : decode cc pc = .ok (.invokevirtual 40, 3)) (kk : ∀ (r : Int32) (S' : HS), P r S' → J X G Q nL (cs + mc') (ss + ms') (pc + 3) lv (.int r :: st) S') : J X G Q nL cs ss pc lv (.ref a0 :: .ref b :: st) S := J_callV hC (r := (RX2, TX2, 5)) (n := 1) (ci := 3) (as := [.ref a0]) hM (mG 292 (by decide +kernel) rfl) (mG 280 (by decide +kernel) rfl) (mG 281 (by decide +kernel) rfl) (mG 41 (by decide +kernel) rfl) (mG 282 (by decide +kernel) rfl) ⟨by decide +kernel, by decide +kernel, by decide +kernel⟩ rfl rfl hk rfl rfl rfl h8 hr d (fun _ _ h => h.elim) (fun v S' h => by obtain ⟨r, rfl, h⟩ := h; exact kk r S' h)
theorem cl_X3_16 {X : JX} {G : JG} {Q : State → Prop} {nL cs ss pc : Nat} {lv : List (Nat × Value)} {st : List Value} {S : HS} {cc : ByteArray} {ret : Option FieldType} {fr lo mc ms : Nat} {fr' lo' mc' ms' : Nat} {a0 : Int32} {P : Int32 → HS → Prop} (hC : JC X G RX3 cc nL ret fr lo mc ms) (hM : Ct G yX5_sineOf cX5_sineOf 6 (some .int) fr' lo' mc' ms' [.int a0] S (rI P) noX) (h8 : (st.map fun v => v.category).sum ≤ 8) (hr : rOK fr lo mc ms cs ss 6 fr' lo' mc' ms') (d : decode cc pc = .ok (.invokestatic 16, 3)) (kk : ∀ (r : Int32) (S' : HS), P r S' → J X G Q nL (cs + mc') (ss + ms') (pc + 3) lv (.int r :: st) S') : J X G Q nL cs ss pc lv (.int a0 :: st) S := J_callSN hC (n := 1) (as := [.int a0]) (host := "SkyPlan") hM (mN 71 (by decide +kernel) rfl) (mG 72 (by decide +kernel) rfl) (mG 35 (by decide +kernel) rfl) (mG 73 (by decide +kernel) rfl) ⟨by decide +kernel, by decide +kernel, by decide +kernel⟩ rfl rfl h8 hr d (fun v S' h => by obtain ⟨r, rfl, h⟩ := h; exact kk r S' h)
theorem cl_X4_9 {X : JX} {G : JG} {Q : State → Prop} {nL cs ss pc : Nat} {lv : List (Nat × Value)} {st : List Value} {S : HS} {cc : ByteArray} {ret : Option FieldType} {fr lo mc ms : Nat} {fr' lo' mc' ms' : Nat} {b : Nat}  {P : HS → Prop} (hC : JC X G RX4 cc nL ret fr lo mc ms) (hM : Ct G yX1_init cX1_init 1 none fr' lo' mc' ms' [.ref b] S (rV P) noX) (h8 : (st.map fun v => v.category).sum ≤ 8) (hr : rOK fr lo mc ms cs ss 1 fr' lo' mc' ms') (d : decode cc pc = .ok (.invokespecial 9, 3)) (kk : ∀ S' : HS, P S' → J X G Q nL (cs + mc') (ss + ms') (pc + 3) lv st S') : J X G Q nL cs ss pc lv (.ref b :: st) S := J_callIN hC (n := 0) (as := []) (host := "SkyPlan") hM (mN 492 (by decide +kernel) rfl) (mG 493 (by decide +kernel) rfl) (mG 52 (by decide +kernel) rfl) (mG 494 (by decide +kernel) rfl) ⟨by decide +kernel, by decide +kernel, by decide +kernel⟩ rfl rfl rfl h8 hr d (fun v S' h => by obtain ⟨rfl, h⟩ := h; exact kk S' h)
theorem cl_L_7 {X : JX} {G : JG} {Q : State → Prop} {nL cs ss pc : Nat} {lv : List (Nat × Value)} {st : List Value} {S : HS} {cc : ByteArray} {ret : Option FieldType} {fr lo mc ms : Nat} {fr' lo' mc' ms' : Nat} {b : Nat} {a0 : Int32} {a1 : Int32} {P : Int32 → HS → Prop} {RX : String → HS → Prop} (hC : JC X G RL cc nL ret fr lo mc ms) (hM : Ct G yX5_setSite cX5_setSite 4 (some .int) fr' lo' mc' ms' [.ref b, .int a0, .int a1] S (rI P) RX) (hk : hK S b = 7) (h8 : (st.map fun v => v.category).sum ≤ 8) (hr : rOK fr lo mc ms cs ss 4 fr' lo' mc' ms') (d : decode cc pc = .ok (.invokevirtual 7, 3)) (kx : ∀ (E : String) (S' : HS), RX E S' → JT X G Q nL (cs + mc') (ss + ms') pc lv S' E) (kk : ∀ (r : Int32) (S' : HS), P r S' → J X G Q nL (cs + mc') (ss + ms') (pc + 3) lv (.int r :: st) S') : J X G Q nL cs ss pc lv (.int a1 :: .int a0 :: .ref b :: st) S := J_callV hC (r := (RX5, TX5, 8)) (n := 2) (ci := 6) (as := [.int a0, .int a1]) hM (mG 337 (by decide +kernel) rfl) (mG 338 (by decide +kernel) rfl) (mG 339 (by decide +kernel) rfl) (mG 35 (by decide +kernel) rfl) (mG 340 (by decide +kernel) rfl) ⟨by decide +kernel, by decide +kernel, by decide +kernel⟩ rfl rfl hk rfl rfl rfl h8 hr d kx (fun v S' h => by obtain ⟨r, rfl, h⟩ := h; exact kk r S' h)
theorem cl_L_15 {X : JX} {G : JG} {Q : State → Prop} {nL cs ss pc : Nat} {lv : List (Nat × Value)} {st : List Value} {S : HS} {cc : ByteArray} {ret : Option FieldType} {fr lo mc ms : Nat} {fr' lo' mc' ms' : Nat} {b : Nat} {a0 : Int32} {P : Int32 → HS → Prop} {RX : String → HS → Prop} (hC : JC X G RL cc nL ret fr lo mc ms) (hM : Ct G yX5_setLength cX5_setLength 3 (some .int) fr' lo' mc' ms' [.ref b, .int a0] S (rI P) RX) (hk : hK S b = 7) (h8 : (st.map fun v => v.category).sum ≤ 8) (hr : rOK fr lo mc ms cs ss 3 fr' lo' mc' ms') (d : decode cc pc = .ok (.invokevirtual 15, 3)) (kx : ∀ (E : String) (S' : HS), RX E S' → JT X G Q nL (cs + mc') (ss + ms') pc lv S' E) (kk : ∀ (r : Int32) (S' : HS), P r S' → J X G Q nL (cs + mc') (ss + ms') (pc + 3) lv (.int r :: st) S') : J X G Q nL cs ss pc lv (.int a0 :: .ref b :: st) S := J_callV hC (r := (RX5, TX5, 8)) (n := 1) (ci := 6) (as := [.int a0]) hM (mG 419 (by decide +kernel) rfl) (mG 420 (by decide +kernel) rfl) (mG 421 (by decide +kernel) rfl) (mG 35 (by decide +kernel) rfl) (mG 422 (by decide +kernel) rfl) ⟨by decide +kernel, by decide +kernel, by decide +kernel⟩ rfl rfl hk rfl rfl rfl h8 hr d kx (fun v S' h => by obtain ⟨r, rfl, h⟩ := h; exact kk r S' h)
theorem cl_L_19 {X : JX} {G : JG} {Q : State → Prop} {nL cs ss pc : Nat} {lv : List (Nat × Value)} {st : List Value} {S : HS} {cc : ByteArray} {ret : Option FieldType} {fr lo mc ms : Nat} {fr' lo' mc' ms' : Nat} {b : Nat} {a0 : Int32} {a1 : Int32} {a2 : Int32} {P : Int32 → HS → Prop} {RX : String → HS → Prop} (hC : JC X G RL cc nL ret fr lo mc ms) (hM : Ct G yX5_setMoon cX5_setMoon 4 (some .int) fr' lo' mc' ms' [.ref b, .int a0, .int a1, .int a2] S (rI P) RX) (hk : hK S b = 7) (h8 : (st.map fun v => v.category).sum ≤ 8) (hr : rOK fr lo mc ms cs ss 4 fr' lo' mc' ms') (d : decode cc pc = .ok (.invokevirtual 19, 3)) (kx : ∀ (E : String) (S' : HS), RX E S' → JT X G Q nL (cs + mc') (ss + ms') pc lv S' E) (kk : ∀ (r : Int32) (S' : HS), P r S' → J X G Q nL (cs + mc') (ss + ms') (pc + 3) lv (.int r :: st) S') : J X G Q nL cs ss pc lv (.int a2 :: .int a1 :: .int a0 :: .ref b :: st) S := J_callV hC (r := (RX5, TX5, 8)) (n := 3) (ci := 6) (as := [.int a0, .int a1, .int a2]) hM (mG 427 (by decide +kernel) rfl) (mG 428 (by decide +kernel) rfl) (mG 429 (by decide +kernel) rfl) (mG 35 (by decide +kernel) rfl) (mG 430 (by decide +kernel) rfl) ⟨by decide +kernel, by decide +kernel, by decide +kernel⟩ rfl rfl hk rfl rfl rfl h8 hr d kx (fun v S' h => by obtain ⟨r, rfl, h⟩ := h; exact kk r S' h)
theorem cl_L_23 {X : JX} {G : JG} {Q : State → Prop} {nL cs ss pc : Nat} {lv : List (Nat × Value)} {st : List Value} {S : HS} {cc : ByteArray} {ret : Option FieldType} {fr lo mc ms : Nat} {fr' lo' mc' ms' : Nat} {b : Nat} {a0 : Int32} {a1 : Int32} {P : Int32 → HS → Prop} {RX : String → HS → Prop} (hC : JC X G RL cc nL ret fr lo mc ms) (hM : Ct G yX5_addClouds cX5_addClouds 3 (some .int) fr' lo' mc' ms' [.ref b, .int a0, .int a1] S (rI P) RX) (hk : hK S b = 7) (h8 : (st.map fun v => v.category).sum ≤ 8) (hr : rOK fr lo mc ms cs ss 3 fr' lo' mc' ms') (d : decode cc pc = .ok (.invokevirtual 23, 3)) (kx : ∀ (E : String) (S' : HS), RX E S' → JT X G Q nL (cs + mc') (ss + ms') pc lv S' E) (kk : ∀ (r : Int32) (S' : HS), P r S' → J X G Q nL (cs + mc') (ss + ms') (pc + 3) lv (.int r :: st) S') : J X G Q nL cs ss pc lv (.int a1 :: .int a0 :: .ref b :: st) S := J_callV hC (r := (RX5, TX5, 8)) (n := 2) (ci := 6) (as := [.int a0, .int a1]) hM (mG 439 (by decide +kernel) rfl) (mG 440 (by decide +kernel) rfl) (mG 441 (by decide +kernel) rfl) (mG 35 (by decide +kernel) rfl) (mG 442 (by decide +kernel) rfl) ⟨by decide +kernel, by decide +kernel, by decide +kernel⟩ rfl rfl hk rfl rfl rfl h8 hr d kx (fun v S' h => by obtain ⟨r, rfl, h⟩ := h; exact kk r S' h)
theorem cl_L_28 {X : JX} {G : JG} {Q : State → Prop} {nL cs ss pc : Nat} {lv : List (Nat × Value)} {st : List Value} {S : HS} {cc : ByteArray} {ret : Option FieldType} {fr lo mc ms : Nat} {fr' lo' mc' ms' : Nat} {b : Nat} {a0 : Int32} {P : Int32 → HS → Prop} {RX : String → HS → Prop} (hC : JC X G RL cc nL ret fr lo mc ms) (hM : Ct G yX5_sine cX5_sine 2 (some .int) fr' lo' mc' ms' [.ref b, .int a0] S (rI P) RX) (hk : hK S b = 7) (h8 : (st.map fun v => v.category).sum ≤ 8) (hr : rOK fr lo mc ms cs ss 2 fr' lo' mc' ms') (d : decode cc pc = .ok (.invokevirtual 28, 3)) (kx : ∀ (E : String) (S' : HS), RX E S' → JT X G Q nL (cs + mc') (ss + ms') pc lv S' E) (kk : ∀ (r : Int32) (S' : HS), P r S' → J X G Q nL (cs + mc') (ss + ms') (pc + 3) lv (.int r :: st) S') : J X G Q nL cs ss pc lv (.int a0 :: .ref b :: st) S := J_callV hC (r := (RX5, TX5, 8)) (n := 1) (ci := 6) (as := [.int a0]) hM (mG 471 (by decide +kernel) rfl) (mG 472 (by decide +kernel) rfl) (mG 473 (by decide +kernel) rfl) (mG 35 (by decide +kernel) rfl) (mG 474 (by decide +kernel) rfl) ⟨by decide +kernel, by decide +kernel, by decide +kernel⟩ rfl rfl hk rfl rfl rfl h8 hr d kx (fun v S' h => by obtain ⟨r, rfl, h⟩ := h; exact kk r S' h)
theorem cl_L_31 {X : JX} {G : JG} {Q : State → Prop} {nL cs ss pc : Nat} {lv : List (Nat × Value)} {st : List Value} {S : HS} {cc : ByteArray} {ret : Option FieldType} {fr lo mc ms : Nat} {fr' lo' mc' ms' : Nat} {b : Nat} {a0 : Int32} {a1 : Int32} {a2 : Int32} {a3 : Int32} {a4 : Int32} {P : Int32 → HS → Prop} {RX : String → HS → Prop} (hC : JC X G RL cc nL ret fr lo mc ms) (hM : Ct G yX5_addTarget cX5_addTarget 7 (some .int) fr' lo' mc' ms' [.ref b, .int a0, .int a1, .int a2, .int a3, .int a4] S (rI P) RX) (hk : hK S b = 7) (h8 : (st.map fun v => v.category).sum ≤ 8) (hr : rOK fr lo mc ms cs ss 7 fr' lo' mc' ms') (d : decode cc pc = .ok (.invokevirtual 31, 3)) (kx : ∀ (E : String) (S' : HS), RX E S' → JT X G Q nL (cs + mc') (ss + ms') pc lv S' E) (kk : ∀ (r : Int32) (S' : HS), P r S' → J X G Q nL (cs + mc') (ss + ms') (pc + 3) lv (.int r :: st) S') : J X G Q nL cs ss pc lv (.int a4 :: .int a3 :: .int a2 :: .int a1 :: .int a0 :: .ref b :: st) S := J_callV hC (r := (RX5, TX5, 8)) (n := 5) (ci := 6) (as := [.int a0, .int a1, .int a2, .int a3, .int a4]) hM (mG 479 (by decide +kernel) rfl) (mG 480 (by decide +kernel) rfl) (mG 481 (by decide +kernel) rfl) (mG 35 (by decide +kernel) rfl) (mG 482 (by decide +kernel) rfl) ⟨by decide +kernel, by decide +kernel, by decide +kernel⟩ rfl rfl hk rfl rfl rfl h8 hr d kx (fun v S' h => by obtain ⟨r, rfl, h⟩ := h; exact kk r S' h)
theorem cl_L_35 {X : JX} {G : JG} {Q : State → Prop} {nL cs ss pc : Nat} {lv : List (Nat × Value)} {st : List Value} {S : HS} {cc : ByteArray} {ret : Option FieldType} {fr lo mc ms : Nat} {fr' lo' mc' ms' : Nat} {b : Nat} {a0 : Int32} {a1 : Int32} {a2 : Int32} {a3 : Int32} {P : Int32 → HS → Prop} {RX : String → HS → Prop} (hC : JC X G RL cc nL ret fr lo mc ms) (hM : Ct G yX5_want cX5_want 7 (some .int) fr' lo' mc' ms' [.ref b, .int a0, .int a1, .int a2, .int a3] S (rI P) RX) (hk : hK S b = 7) (h8 : (st.map fun v => v.category).sum ≤ 8) (hr : rOK fr lo mc ms cs ss 7 fr' lo' mc' ms') (d : decode cc pc = .ok (.invokevirtual 35, 3)) (kx : ∀ (E : String) (S' : HS), RX E S' → JT X G Q nL (cs + mc') (ss + ms') pc lv S' E) (kk : ∀ (r : Int32) (S' : HS), P r S' → J X G Q nL (cs + mc') (ss + ms') (pc + 3) lv (.int r :: st) S') : J X G Q nL cs ss pc lv (.int a3 :: .int a2 :: .int a1 :: .int a0 :: .ref b :: st) S := J_callV hC (r := (RX5, TX5, 8)) (n := 4) (ci := 6) (as := [.int a0, .int a1, .int a2, .int a3]) hM (mG 632 (by decide +kernel) rfl) (mG 633 (by decide +kernel) rfl) (mG 634 (by decide +kernel) rfl) (mG 35 (by decide +kernel) rfl) (mG 635 (by decide +kernel) rfl) ⟨by decide +kernel, by decide +kernel, by decide +kernel⟩ rfl rfl hk rfl rfl rfl h8 hr d kx (fun v S' h => by obtain ⟨r, rfl, h⟩ := h; exact kk r S' h)
theorem cl_L_41 {X : JX} {G : JG} {Q : State → Prop} {nL cs ss pc : Nat} {lv : List (Nat × Value)} {st : List Value} {S : HS} {cc : ByteArray} {ret : Option FieldType} {fr lo mc ms : Nat} {fr' lo' mc' ms' : Nat} {b : Nat} {a0 : Int32} {a1 : Int32} {P : Int32 → HS → Prop} {RX : String → HS → Prop} (hC : JC X G RL cc nL ret fr lo mc ms) (hM : Ct G yX5_target cX5_target 4 (some .int) fr' lo' mc' ms' [.ref b, .int a0, .int a1] S (rI P) RX) (hk : hK S b = 7) (h8 : (st.map fun v => v.category).sum ≤ 8) (hr : rOK fr lo mc ms cs ss 4 fr' lo' mc' ms') (d : decode cc pc = .ok (.invokevirtual 41, 3)) (kx : ∀ (E : String) (S' : HS), RX E S' → JT X G Q nL (cs + mc') (ss + ms') pc lv S' E) (kk : ∀ (r : Int32) (S' : HS), P r S' → J X G Q nL (cs + mc') (ss + ms') (pc + 3) lv (.int r :: st) S') : J X G Q nL cs ss pc lv (.int a1 :: .int a0 :: .ref b :: st) S := J_callV hC (r := (RX5, TX5, 8)) (n := 2) (ci := 6) (as := [.int a0, .int a1]) hM (mG 660 (by decide +kernel) rfl) (mG 661 (by decide +kernel) rfl) (mG 662 (by decide +kernel) rfl) (mG 35 (by decide +kernel) rfl) (mG 663 (by decide +kernel) rfl) ⟨by decide +kernel, by decide +kernel, by decide +kernel⟩ rfl rfl hk rfl rfl rfl h8 hr d kx (fun v S' h => by obtain ⟨r, rfl, h⟩ := h; exact kk r S' h)
theorem cl_L_44 {X : JX} {G : JG} {Q : State → Prop} {nL cs ss pc : Nat} {lv : List (Nat × Value)} {st : List Value} {S : HS} {cc : ByteArray} {ret : Option FieldType} {fr lo mc ms : Nat} {fr' lo' mc' ms' : Nat} {b : Nat} {a0 : Int32} {a1 : Int32} {P : Int32 → HS → Prop} {RX : String → HS → Prop} (hC : JC X G RL cc nL ret fr lo mc ms) (hM : Ct G yX5_height cX5_height 4 (some .int) fr' lo' mc' ms' [.ref b, .int a0, .int a1] S (rI P) RX) (hk : hK S b = 7) (h8 : (st.map fun v => v.category).sum ≤ 8) (hr : rOK fr lo mc ms cs ss 4 fr' lo' mc' ms') (d : decode cc pc = .ok (.invokevirtual 44, 3)) (kx : ∀ (E : String) (S' : HS), RX E S' → JT X G Q nL (cs + mc') (ss + ms') pc lv S' E) (kk : ∀ (r : Int32) (S' : HS), P r S' → J X G Q nL (cs + mc') (ss + ms') (pc + 3) lv (.int r :: st) S') : J X G Q nL cs ss pc lv (.int a1 :: .int a0 :: .ref b :: st) S := J_callV hC (r := (RX5, TX5, 8)) (n := 2) (ci := 6) (as := [.int a0, .int a1]) hM (mG 671 (by decide +kernel) rfl) (mG 672 (by decide +kernel) rfl) (mG 673 (by decide +kernel) rfl) (mG 35 (by decide +kernel) rfl) (mG 674 (by decide +kernel) rfl) ⟨by decide +kernel, by decide +kernel, by decide +kernel⟩ rfl rfl hk rfl rfl rfl h8 hr d kx (fun v S' h => by obtain ⟨r, rfl, h⟩ := h; exact kk r S' h)
theorem cl_L_47 {X : JX} {G : JG} {Q : State → Prop} {nL cs ss pc : Nat} {lv : List (Nat × Value)} {st : List Value} {S : HS} {cc : ByteArray} {ret : Option FieldType} {fr lo mc ms : Nat} {fr' lo' mc' ms' : Nat} {b : Nat} {a0 : Int32} {a1 : Int32} {P : Int32 → HS → Prop} {RX : String → HS → Prop} (hC : JC X G RL cc nL ret fr lo mc ms) (hM : Ct G yX5_nearness cX5_nearness 3 (some .int) fr' lo' mc' ms' [.ref b, .int a0, .int a1] S (rI P) RX) (hk : hK S b = 7) (h8 : (st.map fun v => v.category).sum ≤ 8) (hr : rOK fr lo mc ms cs ss 3 fr' lo' mc' ms') (d : decode cc pc = .ok (.invokevirtual 47, 3)) (kx : ∀ (E : String) (S' : HS), RX E S' → JT X G Q nL (cs + mc') (ss + ms') pc lv S' E) (kk : ∀ (r : Int32) (S' : HS), P r S' → J X G Q nL (cs + mc') (ss + ms') (pc + 3) lv (.int r :: st) S') : J X G Q nL cs ss pc lv (.int a1 :: .int a0 :: .ref b :: st) S := J_callV hC (r := (RX5, TX5, 8)) (n := 2) (ci := 6) (as := [.int a0, .int a1]) hM (mG 683 (by decide +kernel) rfl) (mG 684 (by decide +kernel) rfl) (mG 685 (by decide +kernel) rfl) (mG 35 (by decide +kernel) rfl) (mG 686 (by decide +kernel) rfl) ⟨by decide +kernel, by decide +kernel, by decide +kernel⟩ rfl rfl hk rfl rfl rfl h8 hr d kx (fun v S' h => by obtain ⟨r, rfl, h⟩ := h; exact kk r S' h)
theorem cl_L_50 {X : JX} {G : JG} {Q : State → Prop} {nL cs ss pc : Nat} {lv : List (Nat × Value)} {st : List Value} {S : HS} {cc : ByteArray} {ret : Option FieldType} {fr lo mc ms : Nat} {fr' lo' mc' ms' : Nat} {b : Nat} {a0 : Int32} {P : Int32 → HS → Prop} {RX : String → HS → Prop} (hC : JC X G RL cc nL ret fr lo mc ms) (hM : Ct G yX5_moonNearness cX5_moonNearness 2 (some .int) fr' lo' mc' ms' [.ref b, .int a0] S (rI P) RX) (hk : hK S b = 7) (h8 : (st.map fun v => v.category).sum ≤ 8) (hr : rOK fr lo mc ms cs ss 2 fr' lo' mc' ms') (d : decode cc pc = .ok (.invokevirtual 50, 3)) (kx : ∀ (E : String) (S' : HS), RX E S' → JT X G Q nL (cs + mc') (ss + ms') pc lv S' E) (kk : ∀ (r : Int32) (S' : HS), P r S' → J X G Q nL (cs + mc') (ss + ms') (pc + 3) lv (.int r :: st) S') : J X G Q nL cs ss pc lv (.int a0 :: .ref b :: st) S := J_callV hC (r := (RX5, TX5, 8)) (n := 1) (ci := 6) (as := [.int a0]) hM (mG 690 (by decide +kernel) rfl) (mG 691 (by decide +kernel) rfl) (mG 692 (by decide +kernel) rfl) (mG 35 (by decide +kernel) rfl) (mG 693 (by decide +kernel) rfl) ⟨by decide +kernel, by decide +kernel, by decide +kernel⟩ rfl rfl hk rfl rfl rfl h8 hr d kx (fun v S' h => by obtain ⟨r, rfl, h⟩ := h; exact kk r S' h)
theorem cl_L_53 {X : JX} {G : JG} {Q : State → Prop} {nL cs ss pc : Nat} {lv : List (Nat × Value)} {st : List Value} {S : HS} {cc : ByteArray} {ret : Option FieldType} {fr lo mc ms : Nat} {fr' lo' mc' ms' : Nat} {b : Nat} {a0 : Int32} {P : Int32 → HS → Prop} {RX : String → HS → Prop} (hC : JC X G RL cc nL ret fr lo mc ms) (hM : Ct G yX5_moonHeight cX5_moonHeight 2 (some .int) fr' lo' mc' ms' [.ref b, .int a0] S (rI P) RX) (hk : hK S b = 7) (h8 : (st.map fun v => v.category).sum ≤ 8) (hr : rOK fr lo mc ms cs ss 2 fr' lo' mc' ms') (d : decode cc pc = .ok (.invokevirtual 53, 3)) (kx : ∀ (E : String) (S' : HS), RX E S' → JT X G Q nL (cs + mc') (ss + ms') pc lv S' E) (kk : ∀ (r : Int32) (S' : HS), P r S' → J X G Q nL (cs + mc') (ss + ms') (pc + 3) lv (.int r :: st) S') : J X G Q nL cs ss pc lv (.int a0 :: .ref b :: st) S := J_callV hC (r := (RX5, TX5, 8)) (n := 1) (ci := 6) (as := [.int a0]) hM (mG 697 (by decide +kernel) rfl) (mG 698 (by decide +kernel) rfl) (mG 699 (by decide +kernel) rfl) (mG 35 (by decide +kernel) rfl) (mG 700 (by decide +kernel) rfl) ⟨by decide +kernel, by decide +kernel, by decide +kernel⟩ rfl rfl hk rfl rfl rfl h8 hr d kx (fun v S' h => by obtain ⟨r, rfl, h⟩ := h; exact kk r S' h)
theorem cl_L_56 {X : JX} {G : JG} {Q : State → Prop} {nL cs ss pc : Nat} {lv : List (Nat × Value)} {st : List Value} {S : HS} {cc : ByteArray} {ret : Option FieldType} {fr lo mc ms : Nat} {fr' lo' mc' ms' : Nat} {b : Nat} {a0 : Int32} {a1 : Int32} {P : Int32 → HS → Prop} {RX : String → HS → Prop} (hC : JC X G RL cc nL ret fr lo mc ms) (hM : Ct G yX5_reason cX5_reason 4 (some .int) fr' lo' mc' ms' [.ref b, .int a0, .int a1] S (rI P) RX) (hk : hK S b = 7) (h8 : (st.map fun v => v.category).sum ≤ 8) (hr : rOK fr lo mc ms cs ss 4 fr' lo' mc' ms') (d : decode cc pc = .ok (.invokevirtual 56, 3)) (kx : ∀ (E : String) (S' : HS), RX E S' → JT X G Q nL (cs + mc') (ss + ms') pc lv S' E) (kk : ∀ (r : Int32) (S' : HS), P r S' → J X G Q nL (cs + mc') (ss + ms') (pc + 3) lv (.int r :: st) S') : J X G Q nL cs ss pc lv (.int a1 :: .int a0 :: .ref b :: st) S := J_callV hC (r := (RX5, TX5, 8)) (n := 2) (ci := 6) (as := [.int a0, .int a1]) hM (mG 704 (by decide +kernel) rfl) (mG 705 (by decide +kernel) rfl) (mG 706 (by decide +kernel) rfl) (mG 35 (by decide +kernel) rfl) (mG 707 (by decide +kernel) rfl) ⟨by decide +kernel, by decide +kernel, by decide +kernel⟩ rfl rfl hk rfl rfl rfl h8 hr d kx (fun v S' h => by obtain ⟨r, rfl, h⟩ := h; exact kk r S' h)
theorem cl_L_59 {X : JX} {G : JG} {Q : State → Prop} {nL cs ss pc : Nat} {lv : List (Nat × Value)} {st : List Value} {S : HS} {cc : ByteArray} {ret : Option FieldType} {fr lo mc ms : Nat} {fr' lo' mc' ms' : Nat} {b : Nat} {a0 : Int32} {a1 : Int32} {P : Int32 → HS → Prop} {RX : String → HS → Prop} (hC : JC X G RL cc nL ret fr lo mc ms) (hM : Ct G yX5_window cX5_window 4 (some .int) fr' lo' mc' ms' [.ref b, .int a0, .int a1] S (rI P) RX) (hk : hK S b = 7) (h8 : (st.map fun v => v.category).sum ≤ 8) (hr : rOK fr lo mc ms cs ss 4 fr' lo' mc' ms') (d : decode cc pc = .ok (.invokevirtual 59, 3)) (kx : ∀ (E : String) (S' : HS), RX E S' → JT X G Q nL (cs + mc') (ss + ms') pc lv S' E) (kk : ∀ (r : Int32) (S' : HS), P r S' → J X G Q nL (cs + mc') (ss + ms') (pc + 3) lv (.int r :: st) S') : J X G Q nL cs ss pc lv (.int a1 :: .int a0 :: .ref b :: st) S := J_callV hC (r := (RX5, TX5, 8)) (n := 2) (ci := 6) (as := [.int a0, .int a1]) hM (mG 711 (by decide +kernel) rfl) (mG 712 (by decide +kernel) rfl) (mG 713 (by decide +kernel) rfl) (mG 35 (by decide +kernel) rfl) (mG 714 (by decide +kernel) rfl) ⟨by decide +kernel, by decide +kernel, by decide +kernel⟩ rfl rfl hk rfl rfl rfl h8 hr d kx (fun v S' h => by obtain ⟨r, rfl, h⟩ := h; exact kk r S' h)
theorem cl_L_62 {X : JX} {G : JG} {Q : State → Prop} {nL cs ss pc : Nat} {lv : List (Nat × Value)} {st : List Value} {S : HS} {cc : ByteArray} {ret : Option FieldType} {fr lo mc ms : Nat} {fr' lo' mc' ms' : Nat} {b : Nat} {a0 : Int32} {P : Int32 → HS → Prop} {RX : String → HS → Prop} (hC : JC X G RL cc nL ret fr lo mc ms) (hM : Ct G yX5_isOpen cX5_isOpen 2 (some .boolean) fr' lo' mc' ms' [.ref b, .int a0] S (rI P) RX) (hk : hK S b = 7) (h8 : (st.map fun v => v.category).sum ≤ 8) (hr : rOK fr lo mc ms cs ss 2 fr' lo' mc' ms') (d : decode cc pc = .ok (.invokevirtual 62, 3)) (kx : ∀ (E : String) (S' : HS), RX E S' → JT X G Q nL (cs + mc') (ss + ms') pc lv S' E) (kk : ∀ (r : Int32) (S' : HS), P r S' → J X G Q nL (cs + mc') (ss + ms') (pc + 3) lv (.int r :: st) S') : J X G Q nL cs ss pc lv (.int a0 :: .ref b :: st) S := J_callV hC (r := (RX5, TX5, 8)) (n := 1) (ci := 6) (as := [.int a0]) hM (mG 718 (by decide +kernel) rfl) (mG 719 (by decide +kernel) rfl) (mG 720 (by decide +kernel) rfl) (mG 35 (by decide +kernel) rfl) (mG 721 (by decide +kernel) rfl) ⟨by decide +kernel, by decide +kernel, by decide +kernel⟩ rfl rfl hk rfl rfl rfl h8 hr d kx (fun v S' h => by obtain ⟨r, rfl, h⟩ := h; exact kk r S' h)
theorem cl_L_66 {X : JX} {G : JG} {Q : State → Prop} {nL cs ss pc : Nat} {lv : List (Nat × Value)} {st : List Value} {S : HS} {cc : ByteArray} {ret : Option FieldType} {fr lo mc ms : Nat} {fr' lo' mc' ms' : Nat} {b : Nat} {a0 : Int32} {P : Int32 → HS → Prop} {RX : String → HS → Prop} (hC : JC X G RL cc nL ret fr lo mc ms) (hM : Ct G yX5_count cX5_count 4 (some .int) fr' lo' mc' ms' [.ref b, .int a0] S (rI P) RX) (hk : hK S b = 7) (h8 : (st.map fun v => v.category).sum ≤ 8) (hr : rOK fr lo mc ms cs ss 4 fr' lo' mc' ms') (d : decode cc pc = .ok (.invokevirtual 66, 3)) (kx : ∀ (E : String) (S' : HS), RX E S' → JT X G Q nL (cs + mc') (ss + ms') pc lv S' E) (kk : ∀ (r : Int32) (S' : HS), P r S' → J X G Q nL (cs + mc') (ss + ms') (pc + 3) lv (.int r :: st) S') : J X G Q nL cs ss pc lv (.int a0 :: .ref b :: st) S := J_callV hC (r := (RX5, TX5, 8)) (n := 1) (ci := 6) (as := [.int a0]) hM (mG 725 (by decide +kernel) rfl) (mG 726 (by decide +kernel) rfl) (mG 727 (by decide +kernel) rfl) (mG 35 (by decide +kernel) rfl) (mG 728 (by decide +kernel) rfl) ⟨by decide +kernel, by decide +kernel, by decide +kernel⟩ rfl rfl hk rfl rfl rfl h8 hr d kx (fun v S' h => by obtain ⟨r, rfl, h⟩ := h; exact kk r S' h)
theorem cl_L_69 {X : JX} {G : JG} {Q : State → Prop} {nL cs ss pc : Nat} {lv : List (Nat × Value)} {st : List Value} {S : HS} {cc : ByteArray} {ret : Option FieldType} {fr lo mc ms : Nat} {fr' lo' mc' ms' : Nat} {b : Nat} {a0 : Int32} {a1 : Int32} {P : Int32 → HS → Prop} {RX : String → HS → Prop} (hC : JC X G RL cc nL ret fr lo mc ms) (hM : Ct G yX5_visit cX5_visit 3 (some .int) fr' lo' mc' ms' [.ref b, .int a0, .int a1] S (rI P) RX) (hk : hK S b = 7) (h8 : (st.map fun v => v.category).sum ≤ 8) (hr : rOK fr lo mc ms cs ss 3 fr' lo' mc' ms') (d : decode cc pc = .ok (.invokevirtual 69, 3)) (kx : ∀ (E : String) (S' : HS), RX E S' → JT X G Q nL (cs + mc') (ss + ms') pc lv S' E) (kk : ∀ (r : Int32) (S' : HS), P r S' → J X G Q nL (cs + mc') (ss + ms') (pc + 3) lv (.int r :: st) S') : J X G Q nL cs ss pc lv (.int a1 :: .int a0 :: .ref b :: st) S := J_callV hC (r := (RX5, TX5, 8)) (n := 2) (ci := 6) (as := [.int a0, .int a1]) hM (mG 736 (by decide +kernel) rfl) (mG 737 (by decide +kernel) rfl) (mG 738 (by decide +kernel) rfl) (mG 35 (by decide +kernel) rfl) (mG 739 (by decide +kernel) rfl) ⟨by decide +kernel, by decide +kernel, by decide +kernel⟩ rfl rfl hk rfl rfl rfl h8 hr d kx (fun v S' h => by obtain ⟨r, rfl, h⟩ := h; exact kk r S' h)
theorem cl_L_72 {X : JX} {G : JG} {Q : State → Prop} {nL cs ss pc : Nat} {lv : List (Nat × Value)} {st : List Value} {S : HS} {cc : ByteArray} {ret : Option FieldType} {fr lo mc ms : Nat} {fr' lo' mc' ms' : Nat} {b : Nat}  {P : Int32 → HS → Prop} {RX : String → HS → Prop} (hC : JC X G RL cc nL ret fr lo mc ms) (hM : Ct G yX5_observe cX5_observe 3 (some .int) fr' lo' mc' ms' [.ref b] S (rI P) RX) (hk : hK S b = 7) (h8 : (st.map fun v => v.category).sum ≤ 8) (hr : rOK fr lo mc ms cs ss 3 fr' lo' mc' ms') (d : decode cc pc = .ok (.invokevirtual 72, 3)) (kx : ∀ (E : String) (S' : HS), RX E S' → JT X G Q nL (cs + mc') (ss + ms') pc lv S' E) (kk : ∀ (r : Int32) (S' : HS), P r S' → J X G Q nL (cs + mc') (ss + ms') (pc + 3) lv (.int r :: st) S') : J X G Q nL cs ss pc lv (.ref b :: st) S := J_callV hC (r := (RX5, TX5, 8)) (n := 0) (ci := 6) (as := []) hM (mG 744 (by decide +kernel) rfl) (mG 745 (by decide +kernel) rfl) (mG 746 (by decide +kernel) rfl) (mG 35 (by decide +kernel) rfl) (mG 747 (by decide +kernel) rfl) ⟨by decide +kernel, by decide +kernel, by decide +kernel⟩ rfl rfl hk rfl rfl rfl h8 hr d kx (fun v S' h => by obtain ⟨r, rfl, h⟩ := h; exact kk r S' h)
theorem cl_L_76 {X : JX} {G : JG} {Q : State → Prop} {nL cs ss pc : Nat} {lv : List (Nat × Value)} {st : List Value} {S : HS} {cc : ByteArray} {ret : Option FieldType} {fr lo mc ms : Nat} {fr' lo' mc' ms' : Nat} {b : Nat} {a0 : Int32} {P : Int32 → HS → Prop} {RX : String → HS → Prop} (hC : JC X G RL cc nL ret fr lo mc ms) (hM : Ct G yX5_pass cX5_pass 3 (some .int) fr' lo' mc' ms' [.ref b, .int a0] S (rI P) RX) (hk : hK S b = 7) (h8 : (st.map fun v => v.category).sum ≤ 8) (hr : rOK fr lo mc ms cs ss 3 fr' lo' mc' ms') (d : decode cc pc = .ok (.invokevirtual 76, 3)) (kx : ∀ (E : String) (S' : HS), RX E S' → JT X G Q nL (cs + mc') (ss + ms') pc lv S' E) (kk : ∀ (r : Int32) (S' : HS), P r S' → J X G Q nL (cs + mc') (ss + ms') (pc + 3) lv (.int r :: st) S') : J X G Q nL cs ss pc lv (.int a0 :: .ref b :: st) S := J_callV hC (r := (RX5, TX5, 8)) (n := 1) (ci := 6) (as := [.int a0]) hM (mG 760 (by decide +kernel) rfl) (mG 761 (by decide +kernel) rfl) (mG 762 (by decide +kernel) rfl) (mG 35 (by decide +kernel) rfl) (mG 763 (by decide +kernel) rfl) ⟨by decide +kernel, by decide +kernel, by decide +kernel⟩ rfl rfl hk rfl rfl rfl h8 hr d kx (fun v S' h => by obtain ⟨r, rfl, h⟩ := h; exact kk r S' h)
theorem cl_L_79 {X : JX} {G : JG} {Q : State → Prop} {nL cs ss pc : Nat} {lv : List (Nat × Value)} {st : List Value} {S : HS} {cc : ByteArray} {ret : Option FieldType} {fr lo mc ms : Nat} {fr' lo' mc' ms' : Nat} {b : Nat}  {P : HS → Prop} (hC : JC X G RL cc nL ret fr lo mc ms) (hM : Ct G yX5_init cX5_init 1 none fr' lo' mc' ms' [.ref b] S (rV P) noX) (h8 : (st.map fun v => v.category).sum ≤ 8) (hr : rOK fr lo mc ms cs ss 1 fr' lo' mc' ms') (d : decode cc pc = .ok (.invokespecial 79, 3)) (kk : ∀ S' : HS, P S' → J X G Q nL (cs + mc') (ss + ms') (pc + 3) lv st S') : J X G Q nL cs ss pc lv (.ref b :: st) S := J_callI hC (n := 0) (as := []) hM (mG 59 (by decide +kernel) rfl) (mG 60 (by decide +kernel) rfl) (mG 35 (by decide +kernel) rfl) (mG 61 (by decide +kernel) rfl) ⟨by decide +kernel, by decide +kernel, by decide +kernel⟩ rfl rfl rfl h8 hr d (fun v S' h => by obtain ⟨rfl, h⟩ := h; exact kk S' h)
theorem cl_L_82 {X : JX} {G : JG} {Q : State → Prop} {nL cs ss pc : Nat} {lv : List (Nat × Value)} {st : List Value} {S : HS} {cc : ByteArray} {ret : Option FieldType} {fr lo mc ms : Nat} {fr' lo' mc' ms' : Nat} {b : Nat}  {P : HS → Prop} (hC : JC X G RL cc nL ret fr lo mc ms) (hM : Ct G yX6_init cX6_init 1 none fr' lo' mc' ms' [.ref b] S (rV P) noX) (h8 : (st.map fun v => v.category).sum ≤ 8) (hr : rOK fr lo mc ms cs ss 1 fr' lo' mc' ms') (d : decode cc pc = .ok (.invokespecial 82, 3)) (kk : ∀ S' : HS, P S' → J X G Q nL (cs + mc') (ss + ms') (pc + 3) lv st S') : J X G Q nL cs ss pc lv (.ref b :: st) S := J_callI hC (n := 0) (as := []) hM (mG 767 (by decide +kernel) rfl) (mG 768 (by decide +kernel) rfl) (mG 42 (by decide +kernel) rfl) (mG 769 (by decide +kernel) rfl) ⟨by decide +kernel, by decide +kernel, by decide +kernel⟩ rfl rfl rfl h8 hr d (fun v S' h => by obtain ⟨rfl, h⟩ := h; exact kk S' h)
theorem cl_L_83 {X : JX} {G : JG} {Q : State → Prop} {nL cs ss pc : Nat} {lv : List (Nat × Value)} {st : List Value} {S : HS} {cc : ByteArray} {ret : Option FieldType} {fr lo mc ms : Nat} {fr' lo' mc' ms' : Nat} {a0 : Nat} {a1 : Int32} {a2 : Int32} {a3 : Nat} {P : Int32 → HS → Prop} (hC : JC X G RL cc nL ret fr lo mc ms) (hM : CtX G yL_setSite cL_setSite 5 (some .int) [(0, 10, 13, 13)] fr' lo' mc' ms' [.ref a0, .int a1, .int a2, .ref a3] S (rI P) noX) (h8 : (st.map fun v => v.category).sum ≤ 8) (hr : rOK fr lo mc ms cs ss 5 fr' lo' mc' ms') (d : decode cc pc = .ok (.invokestatic 83, 3)) (kk : ∀ (r : Int32) (S' : HS), P r S' → J X G Q nL (cs + mc') (ss + ms') (pc + 3) lv (.int r :: st) S') : J X G Q nL cs ss pc lv (.ref a3 :: .int a2 :: .int a1 :: .ref a0 :: st) S := J_callSX hC (n := 4) (as := [.ref a0, .int a1, .int a2, .ref a3]) hM (mG 333 (by decide +kernel) rfl) (mG 334 (by decide +kernel) rfl) (mG 34 (by decide +kernel) rfl) (mG 335 (by decide +kernel) rfl) ⟨by decide +kernel, by decide +kernel, by decide +kernel⟩ rfl rfl h8 hr d (fun _ _ h => h.elim) (fun v S' h => by obtain ⟨r, rfl, h⟩ := h; exact kk r S' h)
theorem cl_L_88 {X : JX} {G : JG} {Q : State → Prop} {nL cs ss pc : Nat} {lv : List (Nat × Value)} {st : List Value} {S : HS} {cc : ByteArray} {ret : Option FieldType} {fr lo mc ms : Nat} {fr' lo' mc' ms' : Nat} {b : Nat} {a0 : Int32} {a1 : Int32} {P : Int32 → HS → Prop} (hC : JC X G RL cc nL ret fr lo mc ms) (hM : Ct G yX6_setSite cX6_setSite 4 (some .int) fr' lo' mc' ms' [.ref b, .int a0, .int a1] S (rI P) noX) (hk : hK S b = 17) (h8 : (st.map fun v => v.category).sum ≤ 8) (hr : rOK fr lo mc ms cs ss 4 fr' lo' mc' ms') (d : decode cc pc = .ok (.invokevirtual 88, 3)) (kk : ∀ (r : Int32) (S' : HS), P r S' → J X G Q nL (cs + mc') (ss + ms') (pc + 3) lv (.int r :: st) S') : J X G Q nL cs ss pc lv (.int a1 :: .int a0 :: .ref b :: st) S := J_callV hC (r := (RX6, TX6, 26)) (n := 2) (ci := 7) (as := [.int a0, .int a1]) hM (mG 855 (by decide +kernel) rfl) (mG 856 (by decide +kernel) rfl) (mG 857 (by decide +kernel) rfl) (mG 42 (by decide +kernel) rfl) (mG 858 (by decide +kernel) rfl) ⟨by decide +kernel, by decide +kernel, by decide +kernel⟩ rfl rfl hk rfl rfl rfl h8 hr d (fun _ _ h => h.elim) (fun v S' h => by obtain ⟨r, rfl, h⟩ := h; exact kk r S' h)
theorem cl_L_89 {X : JX} {G : JG} {Q : State → Prop} {nL cs ss pc : Nat} {lv : List (Nat × Value)} {st : List Value} {S : HS} {cc : ByteArray} {ret : Option FieldType} {fr lo mc ms : Nat} {fr' lo' mc' ms' : Nat} {b : Nat}  {P : Int32 → HS → Prop} (hC : JC X G RL cc nL ret fr lo mc ms) (hM : Ct G yX6_thrown cX6_thrown 1 (some .int) fr' lo' mc' ms' [.ref b] S (rI P) noX) (hk : hK S b = 17) (h8 : (st.map fun v => v.category).sum ≤ 8) (hr : rOK fr lo mc ms cs ss 1 fr' lo' mc' ms') (d : decode cc pc = .ok (.invokevirtual 89, 3)) (kk : ∀ (r : Int32) (S' : HS), P r S' → J X G Q nL (cs + mc') (ss + ms') (pc + 3) lv (.int r :: st) S') : J X G Q nL cs ss pc lv (.ref b :: st) S := J_callV hC (r := (RX6, TX6, 26)) (n := 0) (ci := 7) (as := []) hM (mG 851 (by decide +kernel) rfl) (mG 852 (by decide +kernel) rfl) (mG 853 (by decide +kernel) rfl) (mG 42 (by decide +kernel) rfl) (mG 854 (by decide +kernel) rfl) ⟨by decide +kernel, by decide +kernel, by decide +kernel⟩ rfl rfl hk rfl rfl rfl h8 hr d (fun _ _ h => h.elim) (fun v S' h => by obtain ⟨r, rfl, h⟩ := h; exact kk r S' h)
theorem cl_L_92 {X : JX} {G : JG} {Q : State → Prop} {nL cs ss pc : Nat} {lv : List (Nat × Value)} {st : List Value} {S : HS} {cc : ByteArray} {ret : Option FieldType} {fr lo mc ms : Nat} {fr' lo' mc' ms' : Nat} {a0 : Nat} {a1 : Int32} {a2 : Nat} {P : Int32 → HS → Prop} (hC : JC X G RL cc nL ret fr lo mc ms) (hM : CtX G yL_setLength cL_setLength 4 (some .int) [(0, 9, 12, 13)] fr' lo' mc' ms' [.ref a0, .int a1, .ref a2] S (rI P) noX) (h8 : (st.map fun v => v.category).sum ≤ 8) (hr : rOK fr lo mc ms cs ss 4 fr' lo' mc' ms') (d : decode cc pc = .ok (.invokestatic 92, 3)) (kk : ∀ (r : Int32) (S' : HS), P r S' → J X G Q nL (cs + mc') (ss + ms') (pc + 3) lv (.int r :: st) S') : J X G Q nL cs ss pc lv (.ref a2 :: .int a1 :: .ref a0 :: st) S := J_callSX hC (n := 3) (as := [.ref a0, .int a1, .ref a2]) hM (mG 416 (by decide +kernel) rfl) (mG 417 (by decide +kernel) rfl) (mG 34 (by decide +kernel) rfl) (mG 418 (by decide +kernel) rfl) ⟨by decide +kernel, by decide +kernel, by decide +kernel⟩ rfl rfl h8 hr d (fun _ _ h => h.elim) (fun v S' h => by obtain ⟨r, rfl, h⟩ := h; exact kk r S' h)
theorem cl_L_95 {X : JX} {G : JG} {Q : State → Prop} {nL cs ss pc : Nat} {lv : List (Nat × Value)} {st : List Value} {S : HS} {cc : ByteArray} {ret : Option FieldType} {fr lo mc ms : Nat} {fr' lo' mc' ms' : Nat} {b : Nat} {a0 : Int32} {P : Int32 → HS → Prop} (hC : JC X G RL cc nL ret fr lo mc ms) (hM : Ct G yX6_setLength cX6_setLength 3 (some .int) fr' lo' mc' ms' [.ref b, .int a0] S (rI P) noX) (hk : hK S b = 17) (h8 : (st.map fun v => v.category).sum ≤ 8) (hr : rOK fr lo mc ms cs ss 3 fr' lo' mc' ms') (d : decode cc pc = .ok (.invokevirtual 95, 3)) (kk : ∀ (r : Int32) (S' : HS), P r S' → J X G Q nL (cs + mc') (ss + ms') (pc + 3) lv (.int r :: st) S') : J X G Q nL cs ss pc lv (.int a0 :: .ref b :: st) S := J_callV hC (r := (RX6, TX6, 26)) (n := 1) (ci := 7) (as := [.int a0]) hM (mG 866 (by decide +kernel) rfl) (mG 867 (by decide +kernel) rfl) (mG 868 (by decide +kernel) rfl) (mG 42 (by decide +kernel) rfl) (mG 869 (by decide +kernel) rfl) ⟨by decide +kernel, by decide +kernel, by decide +kernel⟩ rfl rfl hk rfl rfl rfl h8 hr d (fun _ _ h => h.elim) (fun v S' h => by obtain ⟨r, rfl, h⟩ := h; exact kk r S' h)
theorem cl_L_96 {X : JX} {G : JG} {Q : State → Prop} {nL cs ss pc : Nat} {lv : List (Nat × Value)} {st : List Value} {S : HS} {cc : ByteArray} {ret : Option FieldType} {fr lo mc ms : Nat} {fr' lo' mc' ms' : Nat} {a0 : Nat} {a1 : Int32} {a2 : Int32} {a3 : Int32} {a4 : Nat} {P : Int32 → HS → Prop} (hC : JC X G RL cc nL ret fr lo mc ms) (hM : CtX G yL_setMoon cL_setMoon 6 (some .int) [(0, 12, 15, 13)] fr' lo' mc' ms' [.ref a0, .int a1, .int a2, .int a3, .ref a4] S (rI P) noX) (h8 : (st.map fun v => v.category).sum ≤ 8) (hr : rOK fr lo mc ms cs ss 6 fr' lo' mc' ms') (d : decode cc pc = .ok (.invokestatic 96, 3)) (kk : ∀ (r : Int32) (S' : HS), P r S' → J X G Q nL (cs + mc') (ss + ms') (pc + 3) lv (.int r :: st) S') : J X G Q nL cs ss pc lv (.ref a4 :: .int a3 :: .int a2 :: .int a1 :: .ref a0 :: st) S := J_callSX hC (n := 5) (as := [.ref a0, .int a1, .int a2, .int a3, .ref a4]) hM (mG 424 (by decide +kernel) rfl) (mG 425 (by decide +kernel) rfl) (mG 34 (by decide +kernel) rfl) (mG 426 (by decide +kernel) rfl) ⟨by decide +kernel, by decide +kernel, by decide +kernel⟩ rfl rfl h8 hr d (fun _ _ h => h.elim) (fun v S' h => by obtain ⟨r, rfl, h⟩ := h; exact kk r S' h)
theorem cl_L_99 {X : JX} {G : JG} {Q : State → Prop} {nL cs ss pc : Nat} {lv : List (Nat × Value)} {st : List Value} {S : HS} {cc : ByteArray} {ret : Option FieldType} {fr lo mc ms : Nat} {fr' lo' mc' ms' : Nat} {b : Nat} {a0 : Int32} {a1 : Int32} {a2 : Int32} {P : Int32 → HS → Prop} (hC : JC X G RL cc nL ret fr lo mc ms) (hM : Ct G yX6_setMoon cX6_setMoon 4 (some .int) fr' lo' mc' ms' [.ref b, .int a0, .int a1, .int a2] S (rI P) noX) (hk : hK S b = 17) (h8 : (st.map fun v => v.category).sum ≤ 8) (hr : rOK fr lo mc ms cs ss 4 fr' lo' mc' ms') (d : decode cc pc = .ok (.invokevirtual 99, 3)) (kk : ∀ (r : Int32) (S' : HS), P r S' → J X G Q nL (cs + mc') (ss + ms') (pc + 3) lv (.int r :: st) S') : J X G Q nL cs ss pc lv (.int a2 :: .int a1 :: .int a0 :: .ref b :: st) S := J_callV hC (r := (RX6, TX6, 26)) (n := 3) (ci := 7) (as := [.int a0, .int a1, .int a2]) hM (mG 870 (by decide +kernel) rfl) (mG 871 (by decide +kernel) rfl) (mG 872 (by decide +kernel) rfl) (mG 42 (by decide +kernel) rfl) (mG 873 (by decide +kernel) rfl) ⟨by decide +kernel, by decide +kernel, by decide +kernel⟩ rfl rfl hk rfl rfl rfl h8 hr d (fun _ _ h => h.elim) (fun v S' h => by obtain ⟨r, rfl, h⟩ := h; exact kk r S' h)
theorem cl_L_100 {X : JX} {G : JG} {Q : State → Prop} {nL cs ss pc : Nat} {lv : List (Nat × Value)} {st : List Value} {S : HS} {cc : ByteArray} {ret : Option FieldType} {fr lo mc ms : Nat} {fr' lo' mc' ms' : Nat} {a0 : Nat} {a1 : Int32} {a2 : Int32} {a3 : Nat} {P : Int32 → HS → Prop} (hC : JC X G RL cc nL ret fr lo mc ms) (hM : CtX G yL_addClouds cL_addClouds 5 (some .int) [(0, 10, 13, 13), (0, 10, 17, 26)] fr' lo' mc' ms' [.ref a0, .int a1, .int a2, .ref a3] S (rI P) noX) (h8 : (st.map fun v => v.category).sum ≤ 8) (hr : rOK fr lo mc ms cs ss 5 fr' lo' mc' ms') (d : decode cc pc = .ok (.invokestatic 100, 3)) (kk : ∀ (r : Int32) (S' : HS), P r S' → J X G Q nL (cs + mc') (ss + ms') (pc + 3) lv (.int r :: st) S') : J X G Q nL cs ss pc lv (.ref a3 :: .int a2 :: .int a1 :: .ref a0 :: st) S := J_callSX hC (n := 4) (as := [.ref a0, .int a1, .int a2, .ref a3]) hM (mG 435 (by decide +kernel) rfl) (mG 436 (by decide +kernel) rfl) (mG 34 (by decide +kernel) rfl) (mG 437 (by decide +kernel) rfl) ⟨by decide +kernel, by decide +kernel, by decide +kernel⟩ rfl rfl h8 hr d (fun _ _ h => h.elim) (fun v S' h => by obtain ⟨r, rfl, h⟩ := h; exact kk r S' h)
theorem cl_L_102 {X : JX} {G : JG} {Q : State → Prop} {nL cs ss pc : Nat} {lv : List (Nat × Value)} {st : List Value} {S : HS} {cc : ByteArray} {ret : Option FieldType} {fr lo mc ms : Nat} {fr' lo' mc' ms' : Nat} {b : Nat} {a0 : Int32} {a1 : Int32} {P : Int32 → HS → Prop} (hC : JC X G RL cc nL ret fr lo mc ms) (hM : Ct G yX6_addClouds cX6_addClouds 5 (some .int) fr' lo' mc' ms' [.ref b, .int a0, .int a1] S (rI P) noX) (hk : hK S b = 17) (h8 : (st.map fun v => v.category).sum ≤ 8) (hr : rOK fr lo mc ms cs ss 5 fr' lo' mc' ms') (d : decode cc pc = .ok (.invokevirtual 102, 3)) (kk : ∀ (r : Int32) (S' : HS), P r S' → J X G Q nL (cs + mc') (ss + ms') (pc + 3) lv (.int r :: st) S') : J X G Q nL cs ss pc lv (.int a1 :: .int a0 :: .ref b :: st) S := J_callV hC (r := (RX6, TX6, 26)) (n := 2) (ci := 7) (as := [.int a0, .int a1]) hM (mG 882 (by decide +kernel) rfl) (mG 883 (by decide +kernel) rfl) (mG 884 (by decide +kernel) rfl) (mG 42 (by decide +kernel) rfl) (mG 885 (by decide +kernel) rfl) ⟨by decide +kernel, by decide +kernel, by decide +kernel⟩ rfl rfl hk rfl rfl rfl h8 hr d (fun _ _ h => h.elim) (fun v S' h => by obtain ⟨r, rfl, h⟩ := h; exact kk r S' h)
theorem cl_L_103 {X : JX} {G : JG} {Q : State → Prop} {nL cs ss pc : Nat} {lv : List (Nat × Value)} {st : List Value} {S : HS} {cc : ByteArray} {ret : Option FieldType} {fr lo mc ms : Nat} {fr' lo' mc' ms' : Nat} {a0 : Nat} {a1 : Int32} {a2 : Nat} {P : Int32 → HS → Prop} (hC : JC X G RL cc nL ret fr lo mc ms) (hM : CtX G yL_sine cL_sine 4 (some .int) [(0, 9, 12, 13)] fr' lo' mc' ms' [.ref a0, .int a1, .ref a2] S (rI P) noX) (h8 : (st.map fun v => v.category).sum ≤ 8) (hr : rOK fr lo mc ms cs ss 4 fr' lo' mc' ms') (d : decode cc pc = .ok (.invokestatic 103, 3)) (kk : ∀ (r : Int32) (S' : HS), P r S' → J X G Q nL (cs + mc') (ss + ms') (pc + 3) lv (.int r :: st) S') : J X G Q nL cs ss pc lv (.ref a2 :: .int a1 :: .ref a0 :: st) S := J_callSX hC (n := 3) (as := [.ref a0, .int a1, .ref a2]) hM (mG 468 (by decide +kernel) rfl) (mG 469 (by decide +kernel) rfl) (mG 34 (by decide +kernel) rfl) (mG 470 (by decide +kernel) rfl) ⟨by decide +kernel, by decide +kernel, by decide +kernel⟩ rfl rfl h8 hr d (fun _ _ h => h.elim) (fun v S' h => by obtain ⟨r, rfl, h⟩ := h; exact kk r S' h)
theorem cl_L_105 {X : JX} {G : JG} {Q : State → Prop} {nL cs ss pc : Nat} {lv : List (Nat × Value)} {st : List Value} {S : HS} {cc : ByteArray} {ret : Option FieldType} {fr lo mc ms : Nat} {fr' lo' mc' ms' : Nat} {b : Nat} {a0 : Int32} {P : Int32 → HS → Prop} (hC : JC X G RL cc nL ret fr lo mc ms) (hM : Ct G yX6_sine cX6_sine 2 (some .int) fr' lo' mc' ms' [.ref b, .int a0] S (rI P) noX) (hk : hK S b = 17) (h8 : (st.map fun v => v.category).sum ≤ 8) (hr : rOK fr lo mc ms cs ss 2 fr' lo' mc' ms') (d : decode cc pc = .ok (.invokevirtual 105, 3)) (kk : ∀ (r : Int32) (S' : HS), P r S' → J X G Q nL (cs + mc') (ss + ms') (pc + 3) lv (.int r :: st) S') : J X G Q nL cs ss pc lv (.int a0 :: .ref b :: st) S := J_callV hC (r := (RX6, TX6, 26)) (n := 1) (ci := 7) (as := [.int a0]) hM (mG 890 (by decide +kernel) rfl) (mG 891 (by decide +kernel) rfl) (mG 892 (by decide +kernel) rfl) (mG 42 (by decide +kernel) rfl) (mG 893 (by decide +kernel) rfl) ⟨by decide +kernel, by decide +kernel, by decide +kernel⟩ rfl rfl hk rfl rfl rfl h8 hr d (fun _ _ h => h.elim) (fun v S' h => by obtain ⟨r, rfl, h⟩ := h; exact kk r S' h)
theorem cl_L_106 {X : JX} {G : JG} {Q : State → Prop} {nL cs ss pc : Nat} {lv : List (Nat × Value)} {st : List Value} {S : HS} {cc : ByteArray} {ret : Option FieldType} {fr lo mc ms : Nat} {fr' lo' mc' ms' : Nat} {a0 : Nat} {a1 : Int32} {a2 : Int32} {a3 : Int32} {a4 : Int32} {a5 : Int32} {a6 : Nat} {P : Int32 → HS → Prop} (hC : JC X G RL cc nL ret fr lo mc ms) (hM : CtX G yL_addTarget cL_addTarget 8 (some .int) [(0, 16, 19, 13), (0, 16, 23, 26)] fr' lo' mc' ms' [.ref a0, .int a1, .int a2, .int a3, .int a4, .int a5, .ref a6] S (rI P) noX) (h8 : (st.map fun v => v.category).sum ≤ 8) (hr : rOK fr lo mc ms cs ss 8 fr' lo' mc' ms') (d : decode cc pc = .ok (.invokestatic 106, 3)) (kk : ∀ (r : Int32) (S' : HS), P r S' → J X G Q nL (cs + mc') (ss + ms') (pc + 3) lv (.int r :: st) S') : J X G Q nL cs ss pc lv (.ref a6 :: .int a5 :: .int a4 :: .int a3 :: .int a2 :: .int a1 :: .ref a0 :: st) S := J_callSX hC (n := 7) (as := [.ref a0, .int a1, .int a2, .int a3, .int a4, .int a5, .ref a6]) hM (mG 476 (by decide +kernel) rfl) (mG 477 (by decide +kernel) rfl) (mG 34 (by decide +kernel) rfl) (mG 478 (by decide +kernel) rfl) ⟨by decide +kernel, by decide +kernel, by decide +kernel⟩ rfl rfl h8 hr d (fun _ _ h => h.elim) (fun v S' h => by obtain ⟨r, rfl, h⟩ := h; exact kk r S' h)
theorem cl_L_109 {X : JX} {G : JG} {Q : State → Prop} {nL cs ss pc : Nat} {lv : List (Nat × Value)} {st : List Value} {S : HS} {cc : ByteArray} {ret : Option FieldType} {fr lo mc ms : Nat} {fr' lo' mc' ms' : Nat} {b : Nat} {a0 : Int32} {a1 : Int32} {a2 : Int32} {a3 : Int32} {a4 : Int32} {P : Int32 → HS → Prop} (hC : JC X G RL cc nL ret fr lo mc ms) (hM : Ct G yX6_addTarget cX6_addTarget 6 (some .int) fr' lo' mc' ms' [.ref b, .int a0, .int a1, .int a2, .int a3, .int a4] S (rI P) noX) (hk : hK S b = 17) (h8 : (st.map fun v => v.category).sum ≤ 8) (hr : rOK fr lo mc ms cs ss 6 fr' lo' mc' ms') (d : decode cc pc = .ok (.invokevirtual 109, 3)) (kk : ∀ (r : Int32) (S' : HS), P r S' → J X G Q nL (cs + mc') (ss + ms') (pc + 3) lv (.int r :: st) S') : J X G Q nL cs ss pc lv (.int a4 :: .int a3 :: .int a2 :: .int a1 :: .int a0 :: .ref b :: st) S := J_callV hC (r := (RX6, TX6, 26)) (n := 5) (ci := 7) (as := [.int a0, .int a1, .int a2, .int a3, .int a4]) hM (mG 901 (by decide +kernel) rfl) (mG 902 (by decide +kernel) rfl) (mG 903 (by decide +kernel) rfl) (mG 42 (by decide +kernel) rfl) (mG 904 (by decide +kernel) rfl) ⟨by decide +kernel, by decide +kernel, by decide +kernel⟩ rfl rfl hk rfl rfl rfl h8 hr d (fun _ _ h => h.elim) (fun v S' h => by obtain ⟨r, rfl, h⟩ := h; exact kk r S' h)
theorem cl_L_110 {X : JX} {G : JG} {Q : State → Prop} {nL cs ss pc : Nat} {lv : List (Nat × Value)} {st : List Value} {S : HS} {cc : ByteArray} {ret : Option FieldType} {fr lo mc ms : Nat} {fr' lo' mc' ms' : Nat} {a0 : Nat} {a1 : Int32} {a2 : Int32} {a3 : Int32} {a4 : Int32} {a5 : Nat} {P : Int32 → HS → Prop} (hC : JC X G RL cc nL ret fr lo mc ms) (hM : CtX G yL_want cL_want 7 (some .int) [(0, 14, 17, 39), (0, 14, 21, 13)] fr' lo' mc' ms' [.ref a0, .int a1, .int a2, .int a3, .int a4, .ref a5] S (rI P) noX) (h8 : (st.map fun v => v.category).sum ≤ 8) (hr : rOK fr lo mc ms cs ss 7 fr' lo' mc' ms') (d : decode cc pc = .ok (.invokestatic 110, 3)) (kk : ∀ (r : Int32) (S' : HS), P r S' → J X G Q nL (cs + mc') (ss + ms') (pc + 3) lv (.int r :: st) S') : J X G Q nL cs ss pc lv (.ref a5 :: .int a4 :: .int a3 :: .int a2 :: .int a1 :: .ref a0 :: st) S := J_callSX hC (n := 6) (as := [.ref a0, .int a1, .int a2, .int a3, .int a4, .ref a5]) hM (mG 628 (by decide +kernel) rfl) (mG 629 (by decide +kernel) rfl) (mG 34 (by decide +kernel) rfl) (mG 630 (by decide +kernel) rfl) ⟨by decide +kernel, by decide +kernel, by decide +kernel⟩ rfl rfl h8 hr d (fun _ _ h => h.elim) (fun v S' h => by obtain ⟨r, rfl, h⟩ := h; exact kk r S' h)
theorem cl_L_113 {X : JX} {G : JG} {Q : State → Prop} {nL cs ss pc : Nat} {lv : List (Nat × Value)} {st : List Value} {S : HS} {cc : ByteArray} {ret : Option FieldType} {fr lo mc ms : Nat} {fr' lo' mc' ms' : Nat} {b : Nat} {a0 : Int32} {a1 : Int32} {a2 : Int32} {a3 : Int32} {P : Int32 → HS → Prop} (hC : JC X G RL cc nL ret fr lo mc ms) (hM : Ct G yX6_want cX6_want 6 (some .int) fr' lo' mc' ms' [.ref b, .int a0, .int a1, .int a2, .int a3] S (rI P) noX) (hk : hK S b = 17) (h8 : (st.map fun v => v.category).sum ≤ 8) (hr : rOK fr lo mc ms cs ss 6 fr' lo' mc' ms') (d : decode cc pc = .ok (.invokevirtual 113, 3)) (kk : ∀ (r : Int32) (S' : HS), P r S' → J X G Q nL (cs + mc') (ss + ms') (pc + 3) lv (.int r :: st) S') : J X G Q nL cs ss pc lv (.int a3 :: .int a2 :: .int a1 :: .int a0 :: .ref b :: st) S := J_callV hC (r := (RX6, TX6, 26)) (n := 4) (ci := 7) (as := [.int a0, .int a1, .int a2, .int a3]) hM (mG 905 (by decide +kernel) rfl) (mG 906 (by decide +kernel) rfl) (mG 907 (by decide +kernel) rfl) (mG 42 (by decide +kernel) rfl) (mG 908 (by decide +kernel) rfl) ⟨by decide +kernel, by decide +kernel, by decide +kernel⟩ rfl rfl hk rfl rfl rfl h8 hr d (fun _ _ h => h.elim) (fun v S' h => by obtain ⟨r, rfl, h⟩ := h; exact kk r S' h)
theorem cl_L_114 {X : JX} {G : JG} {Q : State → Prop} {nL cs ss pc : Nat} {lv : List (Nat × Value)} {st : List Value} {S : HS} {cc : ByteArray} {ret : Option FieldType} {fr lo mc ms : Nat} {fr' lo' mc' ms' : Nat} {a0 : Nat} {a1 : Int32} {a2 : Int32} {a3 : Nat} {P : Int32 → HS → Prop} (hC : JC X G RL cc nL ret fr lo mc ms) (hM : CtX G yL_target cL_target 5 (some .int) [(0, 10, 13, 39)] fr' lo' mc' ms' [.ref a0, .int a1, .int a2, .ref a3] S (rI P) noX) (h8 : (st.map fun v => v.category).sum ≤ 8) (hr : rOK fr lo mc ms cs ss 5 fr' lo' mc' ms') (d : decode cc pc = .ok (.invokestatic 114, 3)) (kk : ∀ (r : Int32) (S' : HS), P r S' → J X G Q nL (cs + mc') (ss + ms') (pc + 3) lv (.int r :: st) S') : J X G Q nL cs ss pc lv (.ref a3 :: .int a2 :: .int a1 :: .ref a0 :: st) S := J_callSX hC (n := 4) (as := [.ref a0, .int a1, .int a2, .ref a3]) hM (mG 657 (by decide +kernel) rfl) (mG 658 (by decide +kernel) rfl) (mG 34 (by decide +kernel) rfl) (mG 659 (by decide +kernel) rfl) ⟨by decide +kernel, by decide +kernel, by decide +kernel⟩ rfl rfl h8 hr d (fun _ _ h => h.elim) (fun v S' h => by obtain ⟨r, rfl, h⟩ := h; exact kk r S' h)
theorem cl_L_116 {X : JX} {G : JG} {Q : State → Prop} {nL cs ss pc : Nat} {lv : List (Nat × Value)} {st : List Value} {S : HS} {cc : ByteArray} {ret : Option FieldType} {fr lo mc ms : Nat} {fr' lo' mc' ms' : Nat} {b : Nat} {a0 : Int32} {a1 : Int32} {P : Int32 → HS → Prop} (hC : JC X G RL cc nL ret fr lo mc ms) (hM : Ct G yX6_target cX6_target 3 (some .int) fr' lo' mc' ms' [.ref b, .int a0, .int a1] S (rI P) noX) (hk : hK S b = 17) (h8 : (st.map fun v => v.category).sum ≤ 8) (hr : rOK fr lo mc ms cs ss 3 fr' lo' mc' ms') (d : decode cc pc = .ok (.invokevirtual 116, 3)) (kk : ∀ (r : Int32) (S' : HS), P r S' → J X G Q nL (cs + mc') (ss + ms') (pc + 3) lv (.int r :: st) S') : J X G Q nL cs ss pc lv (.int a1 :: .int a0 :: .ref b :: st) S := J_callV hC (r := (RX6, TX6, 26)) (n := 2) (ci := 7) (as := [.int a0, .int a1]) hM (mG 913 (by decide +kernel) rfl) (mG 914 (by decide +kernel) rfl) (mG 915 (by decide +kernel) rfl) (mG 42 (by decide +kernel) rfl) (mG 916 (by decide +kernel) rfl) ⟨by decide +kernel, by decide +kernel, by decide +kernel⟩ rfl rfl hk rfl rfl rfl h8 hr d (fun _ _ h => h.elim) (fun v S' h => by obtain ⟨r, rfl, h⟩ := h; exact kk r S' h)
theorem cl_L_117 {X : JX} {G : JG} {Q : State → Prop} {nL cs ss pc : Nat} {lv : List (Nat × Value)} {st : List Value} {S : HS} {cc : ByteArray} {ret : Option FieldType} {fr lo mc ms : Nat} {fr' lo' mc' ms' : Nat} {a0 : Nat} {a1 : Int32} {a2 : Int32} {a3 : Nat} {P : Int32 → HS → Prop} (hC : JC X G RL cc nL ret fr lo mc ms) (hM : CtX G yL_height cL_height 5 (some .int) [(0, 10, 13, 39), (0, 10, 17, 13)] fr' lo' mc' ms' [.ref a0, .int a1, .int a2, .ref a3] S (rI P) noX) (h8 : (st.map fun v => v.category).sum ≤ 8) (hr : rOK fr lo mc ms cs ss 5 fr' lo' mc' ms') (d : decode cc pc = .ok (.invokestatic 117, 3)) (kk : ∀ (r : Int32) (S' : HS), P r S' → J X G Q nL (cs + mc') (ss + ms') (pc + 3) lv (.int r :: st) S') : J X G Q nL cs ss pc lv (.ref a3 :: .int a2 :: .int a1 :: .ref a0 :: st) S := J_callSX hC (n := 4) (as := [.ref a0, .int a1, .int a2, .ref a3]) hM (mG 668 (by decide +kernel) rfl) (mG 669 (by decide +kernel) rfl) (mG 34 (by decide +kernel) rfl) (mG 670 (by decide +kernel) rfl) ⟨by decide +kernel, by decide +kernel, by decide +kernel⟩ rfl rfl h8 hr d (fun _ _ h => h.elim) (fun v S' h => by obtain ⟨r, rfl, h⟩ := h; exact kk r S' h)
theorem cl_L_119 {X : JX} {G : JG} {Q : State → Prop} {nL cs ss pc : Nat} {lv : List (Nat × Value)} {st : List Value} {S : HS} {cc : ByteArray} {ret : Option FieldType} {fr lo mc ms : Nat} {fr' lo' mc' ms' : Nat} {b : Nat} {a0 : Int32} {a1 : Int32} {P : Int32 → HS → Prop} (hC : JC X G RL cc nL ret fr lo mc ms) (hM : Ct G yX6_height cX6_height 3 (some .int) fr' lo' mc' ms' [.ref b, .int a0, .int a1] S (rI P) noX) (hk : hK S b = 17) (h8 : (st.map fun v => v.category).sum ≤ 8) (hr : rOK fr lo mc ms cs ss 3 fr' lo' mc' ms') (d : decode cc pc = .ok (.invokevirtual 119, 3)) (kk : ∀ (r : Int32) (S' : HS), P r S' → J X G Q nL (cs + mc') (ss + ms') (pc + 3) lv (.int r :: st) S') : J X G Q nL cs ss pc lv (.int a1 :: .int a0 :: .ref b :: st) S := J_callV hC (r := (RX6, TX6, 26)) (n := 2) (ci := 7) (as := [.int a0, .int a1]) hM (mG 921 (by decide +kernel) rfl) (mG 922 (by decide +kernel) rfl) (mG 923 (by decide +kernel) rfl) (mG 42 (by decide +kernel) rfl) (mG 924 (by decide +kernel) rfl) ⟨by decide +kernel, by decide +kernel, by decide +kernel⟩ rfl rfl hk rfl rfl rfl h8 hr d (fun _ _ h => h.elim) (fun v S' h => by obtain ⟨r, rfl, h⟩ := h; exact kk r S' h)
theorem cl_L_120 {X : JX} {G : JG} {Q : State → Prop} {nL cs ss pc : Nat} {lv : List (Nat × Value)} {st : List Value} {S : HS} {cc : ByteArray} {ret : Option FieldType} {fr lo mc ms : Nat} {fr' lo' mc' ms' : Nat} {a0 : Nat} {a1 : Int32} {a2 : Int32} {a3 : Nat} {P : Int32 → HS → Prop} (hC : JC X G RL cc nL ret fr lo mc ms) (hM : CtX G yL_nearness cL_nearness 5 (some .int) [(0, 10, 13, 39)] fr' lo' mc' ms' [.ref a0, .int a1, .int a2, .ref a3] S (rI P) noX) (h8 : (st.map fun v => v.category).sum ≤ 8) (hr : rOK fr lo mc ms cs ss 5 fr' lo' mc' ms') (d : decode cc pc = .ok (.invokestatic 120, 3)) (kk : ∀ (r : Int32) (S' : HS), P r S' → J X G Q nL (cs + mc') (ss + ms') (pc + 3) lv (.int r :: st) S') : J X G Q nL cs ss pc lv (.ref a3 :: .int a2 :: .int a1 :: .ref a0 :: st) S := J_callSX hC (n := 4) (as := [.ref a0, .int a1, .int a2, .ref a3]) hM (mG 680 (by decide +kernel) rfl) (mG 681 (by decide +kernel) rfl) (mG 34 (by decide +kernel) rfl) (mG 682 (by decide +kernel) rfl) ⟨by decide +kernel, by decide +kernel, by decide +kernel⟩ rfl rfl h8 hr d (fun _ _ h => h.elim) (fun v S' h => by obtain ⟨r, rfl, h⟩ := h; exact kk r S' h)
theorem cl_L_122 {X : JX} {G : JG} {Q : State → Prop} {nL cs ss pc : Nat} {lv : List (Nat × Value)} {st : List Value} {S : HS} {cc : ByteArray} {ret : Option FieldType} {fr lo mc ms : Nat} {fr' lo' mc' ms' : Nat} {b : Nat} {a0 : Int32} {a1 : Int32} {P : Int32 → HS → Prop} (hC : JC X G RL cc nL ret fr lo mc ms) (hM : Ct G yX6_nearness cX6_nearness 3 (some .int) fr' lo' mc' ms' [.ref b, .int a0, .int a1] S (rI P) noX) (hk : hK S b = 17) (h8 : (st.map fun v => v.category).sum ≤ 8) (hr : rOK fr lo mc ms cs ss 3 fr' lo' mc' ms') (d : decode cc pc = .ok (.invokevirtual 122, 3)) (kk : ∀ (r : Int32) (S' : HS), P r S' → J X G Q nL (cs + mc') (ss + ms') (pc + 3) lv (.int r :: st) S') : J X G Q nL cs ss pc lv (.int a1 :: .int a0 :: .ref b :: st) S := J_callV hC (r := (RX6, TX6, 26)) (n := 2) (ci := 7) (as := [.int a0, .int a1]) hM (mG 935 (by decide +kernel) rfl) (mG 936 (by decide +kernel) rfl) (mG 937 (by decide +kernel) rfl) (mG 42 (by decide +kernel) rfl) (mG 938 (by decide +kernel) rfl) ⟨by decide +kernel, by decide +kernel, by decide +kernel⟩ rfl rfl hk rfl rfl rfl h8 hr d (fun _ _ h => h.elim) (fun v S' h => by obtain ⟨r, rfl, h⟩ := h; exact kk r S' h)
theorem cl_L_123 {X : JX} {G : JG} {Q : State → Prop} {nL cs ss pc : Nat} {lv : List (Nat × Value)} {st : List Value} {S : HS} {cc : ByteArray} {ret : Option FieldType} {fr lo mc ms : Nat} {fr' lo' mc' ms' : Nat} {a0 : Nat} {a1 : Int32} {a2 : Nat} {P : Int32 → HS → Prop} (hC : JC X G RL cc nL ret fr lo mc ms) (hM : CtX G yL_moonNearness cL_moonNearness 4 (some .int) [(0, 9, 12, 39)] fr' lo' mc' ms' [.ref a0, .int a1, .ref a2] S (rI P) noX) (h8 : (st.map fun v => v.category).sum ≤ 8) (hr : rOK fr lo mc ms cs ss 4 fr' lo' mc' ms') (d : decode cc pc = .ok (.invokestatic 123, 3)) (kk : ∀ (r : Int32) (S' : HS), P r S' → J X G Q nL (cs + mc') (ss + ms') (pc + 3) lv (.int r :: st) S') : J X G Q nL cs ss pc lv (.ref a2 :: .int a1 :: .ref a0 :: st) S := J_callSX hC (n := 3) (as := [.ref a0, .int a1, .ref a2]) hM (mG 687 (by decide +kernel) rfl) (mG 688 (by decide +kernel) rfl) (mG 34 (by decide +kernel) rfl) (mG 689 (by decide +kernel) rfl) ⟨by decide +kernel, by decide +kernel, by decide +kernel⟩ rfl rfl h8 hr d (fun _ _ h => h.elim) (fun v S' h => by obtain ⟨r, rfl, h⟩ := h; exact kk r S' h)
theorem cl_L_125 {X : JX} {G : JG} {Q : State → Prop} {nL cs ss pc : Nat} {lv : List (Nat × Value)} {st : List Value} {S : HS} {cc : ByteArray} {ret : Option FieldType} {fr lo mc ms : Nat} {fr' lo' mc' ms' : Nat} {b : Nat} {a0 : Int32} {P : Int32 → HS → Prop} (hC : JC X G RL cc nL ret fr lo mc ms) (hM : Ct G yX6_moonNearness cX6_moonNearness 2 (some .int) fr' lo' mc' ms' [.ref b, .int a0] S (rI P) noX) (hk : hK S b = 17) (h8 : (st.map fun v => v.category).sum ≤ 8) (hr : rOK fr lo mc ms cs ss 2 fr' lo' mc' ms') (d : decode cc pc = .ok (.invokevirtual 125, 3)) (kk : ∀ (r : Int32) (S' : HS), P r S' → J X G Q nL (cs + mc') (ss + ms') (pc + 3) lv (.int r :: st) S') : J X G Q nL cs ss pc lv (.int a0 :: .ref b :: st) S := J_callV hC (r := (RX6, TX6, 26)) (n := 1) (ci := 7) (as := [.int a0]) hM (mG 942 (by decide +kernel) rfl) (mG 943 (by decide +kernel) rfl) (mG 944 (by decide +kernel) rfl) (mG 42 (by decide +kernel) rfl) (mG 945 (by decide +kernel) rfl) ⟨by decide +kernel, by decide +kernel, by decide +kernel⟩ rfl rfl hk rfl rfl rfl h8 hr d (fun _ _ h => h.elim) (fun v S' h => by obtain ⟨r, rfl, h⟩ := h; exact kk r S' h)
theorem cl_L_126 {X : JX} {G : JG} {Q : State → Prop} {nL cs ss pc : Nat} {lv : List (Nat × Value)} {st : List Value} {S : HS} {cc : ByteArray} {ret : Option FieldType} {fr lo mc ms : Nat} {fr' lo' mc' ms' : Nat} {a0 : Nat} {a1 : Int32} {a2 : Nat} {P : Int32 → HS → Prop} (hC : JC X G RL cc nL ret fr lo mc ms) (hM : CtX G yL_moonHeight cL_moonHeight 4 (some .int) [(0, 9, 12, 13)] fr' lo' mc' ms' [.ref a0, .int a1, .ref a2] S (rI P) noX) (h8 : (st.map fun v => v.category).sum ≤ 8) (hr : rOK fr lo mc ms cs ss 4 fr' lo' mc' ms') (d : decode cc pc = .ok (.invokestatic 126, 3)) (kk : ∀ (r : Int32) (S' : HS), P r S' → J X G Q nL (cs + mc') (ss + ms') (pc + 3) lv (.int r :: st) S') : J X G Q nL cs ss pc lv (.ref a2 :: .int a1 :: .ref a0 :: st) S := J_callSX hC (n := 3) (as := [.ref a0, .int a1, .ref a2]) hM (mG 694 (by decide +kernel) rfl) (mG 695 (by decide +kernel) rfl) (mG 34 (by decide +kernel) rfl) (mG 696 (by decide +kernel) rfl) ⟨by decide +kernel, by decide +kernel, by decide +kernel⟩ rfl rfl h8 hr d (fun _ _ h => h.elim) (fun v S' h => by obtain ⟨r, rfl, h⟩ := h; exact kk r S' h)
theorem cl_L_128 {X : JX} {G : JG} {Q : State → Prop} {nL cs ss pc : Nat} {lv : List (Nat × Value)} {st : List Value} {S : HS} {cc : ByteArray} {ret : Option FieldType} {fr lo mc ms : Nat} {fr' lo' mc' ms' : Nat} {b : Nat} {a0 : Int32} {P : Int32 → HS → Prop} (hC : JC X G RL cc nL ret fr lo mc ms) (hM : Ct G yX6_moonHeight cX6_moonHeight 2 (some .int) fr' lo' mc' ms' [.ref b, .int a0] S (rI P) noX) (hk : hK S b = 17) (h8 : (st.map fun v => v.category).sum ≤ 8) (hr : rOK fr lo mc ms cs ss 2 fr' lo' mc' ms') (d : decode cc pc = .ok (.invokevirtual 128, 3)) (kk : ∀ (r : Int32) (S' : HS), P r S' → J X G Q nL (cs + mc') (ss + ms') (pc + 3) lv (.int r :: st) S') : J X G Q nL cs ss pc lv (.int a0 :: .ref b :: st) S := J_callV hC (r := (RX6, TX6, 26)) (n := 1) (ci := 7) (as := [.int a0]) hM (mG 950 (by decide +kernel) rfl) (mG 951 (by decide +kernel) rfl) (mG 952 (by decide +kernel) rfl) (mG 42 (by decide +kernel) rfl) (mG 953 (by decide +kernel) rfl) ⟨by decide +kernel, by decide +kernel, by decide +kernel⟩ rfl rfl hk rfl rfl rfl h8 hr d (fun _ _ h => h.elim) (fun v S' h => by obtain ⟨r, rfl, h⟩ := h; exact kk r S' h)
theorem cl_L_129 {X : JX} {G : JG} {Q : State → Prop} {nL cs ss pc : Nat} {lv : List (Nat × Value)} {st : List Value} {S : HS} {cc : ByteArray} {ret : Option FieldType} {fr lo mc ms : Nat} {fr' lo' mc' ms' : Nat} {a0 : Nat} {a1 : Int32} {a2 : Int32} {a3 : Nat} {P : Int32 → HS → Prop} (hC : JC X G RL cc nL ret fr lo mc ms) (hM : CtX G yL_reason cL_reason 5 (some .int) [(0, 10, 13, 39), (0, 10, 17, 13)] fr' lo' mc' ms' [.ref a0, .int a1, .int a2, .ref a3] S (rI P) noX) (h8 : (st.map fun v => v.category).sum ≤ 8) (hr : rOK fr lo mc ms cs ss 5 fr' lo' mc' ms') (d : decode cc pc = .ok (.invokestatic 129, 3)) (kk : ∀ (r : Int32) (S' : HS), P r S' → J X G Q nL (cs + mc') (ss + ms') (pc + 3) lv (.int r :: st) S') : J X G Q nL cs ss pc lv (.ref a3 :: .int a2 :: .int a1 :: .ref a0 :: st) S := J_callSX hC (n := 4) (as := [.ref a0, .int a1, .int a2, .ref a3]) hM (mG 701 (by decide +kernel) rfl) (mG 702 (by decide +kernel) rfl) (mG 34 (by decide +kernel) rfl) (mG 703 (by decide +kernel) rfl) ⟨by decide +kernel, by decide +kernel, by decide +kernel⟩ rfl rfl h8 hr d (fun _ _ h => h.elim) (fun v S' h => by obtain ⟨r, rfl, h⟩ := h; exact kk r S' h)
theorem cl_L_131 {X : JX} {G : JG} {Q : State → Prop} {nL cs ss pc : Nat} {lv : List (Nat × Value)} {st : List Value} {S : HS} {cc : ByteArray} {ret : Option FieldType} {fr lo mc ms : Nat} {fr' lo' mc' ms' : Nat} {b : Nat} {a0 : Int32} {a1 : Int32} {P : Int32 → HS → Prop} (hC : JC X G RL cc nL ret fr lo mc ms) (hM : Ct G yX6_reason cX6_reason 3 (some .int) fr' lo' mc' ms' [.ref b, .int a0, .int a1] S (rI P) noX) (hk : hK S b = 17) (h8 : (st.map fun v => v.category).sum ≤ 8) (hr : rOK fr lo mc ms cs ss 3 fr' lo' mc' ms') (d : decode cc pc = .ok (.invokevirtual 131, 3)) (kk : ∀ (r : Int32) (S' : HS), P r S' → J X G Q nL (cs + mc') (ss + ms') (pc + 3) lv (.int r :: st) S') : J X G Q nL cs ss pc lv (.int a1 :: .int a0 :: .ref b :: st) S := J_callV hC (r := (RX6, TX6, 26)) (n := 2) (ci := 7) (as := [.int a0, .int a1]) hM (mG 958 (by decide +kernel) rfl) (mG 959 (by decide +kernel) rfl) (mG 960 (by decide +kernel) rfl) (mG 42 (by decide +kernel) rfl) (mG 961 (by decide +kernel) rfl) ⟨by decide +kernel, by decide +kernel, by decide +kernel⟩ rfl rfl hk rfl rfl rfl h8 hr d (fun _ _ h => h.elim) (fun v S' h => by obtain ⟨r, rfl, h⟩ := h; exact kk r S' h)
theorem cl_L_132 {X : JX} {G : JG} {Q : State → Prop} {nL cs ss pc : Nat} {lv : List (Nat × Value)} {st : List Value} {S : HS} {cc : ByteArray} {ret : Option FieldType} {fr lo mc ms : Nat} {fr' lo' mc' ms' : Nat} {a0 : Nat} {a1 : Int32} {a2 : Int32} {a3 : Nat} {P : Int32 → HS → Prop} (hC : JC X G RL cc nL ret fr lo mc ms) (hM : CtX G yL_window cL_window 5 (some .int) [(0, 10, 13, 39)] fr' lo' mc' ms' [.ref a0, .int a1, .int a2, .ref a3] S (rI P) noX) (h8 : (st.map fun v => v.category).sum ≤ 8) (hr : rOK fr lo mc ms cs ss 5 fr' lo' mc' ms') (d : decode cc pc = .ok (.invokestatic 132, 3)) (kk : ∀ (r : Int32) (S' : HS), P r S' → J X G Q nL (cs + mc') (ss + ms') (pc + 3) lv (.int r :: st) S') : J X G Q nL cs ss pc lv (.ref a3 :: .int a2 :: .int a1 :: .ref a0 :: st) S := J_callSX hC (n := 4) (as := [.ref a0, .int a1, .int a2, .ref a3]) hM (mG 708 (by decide +kernel) rfl) (mG 709 (by decide +kernel) rfl) (mG 34 (by decide +kernel) rfl) (mG 710 (by decide +kernel) rfl) ⟨by decide +kernel, by decide +kernel, by decide +kernel⟩ rfl rfl h8 hr d (fun _ _ h => h.elim) (fun v S' h => by obtain ⟨r, rfl, h⟩ := h; exact kk r S' h)
theorem cl_L_134 {X : JX} {G : JG} {Q : State → Prop} {nL cs ss pc : Nat} {lv : List (Nat × Value)} {st : List Value} {S : HS} {cc : ByteArray} {ret : Option FieldType} {fr lo mc ms : Nat} {fr' lo' mc' ms' : Nat} {b : Nat} {a0 : Int32} {a1 : Int32} {P : Int32 → HS → Prop} (hC : JC X G RL cc nL ret fr lo mc ms) (hM : Ct G yX6_window cX6_window 3 (some .int) fr' lo' mc' ms' [.ref b, .int a0, .int a1] S (rI P) noX) (hk : hK S b = 17) (h8 : (st.map fun v => v.category).sum ≤ 8) (hr : rOK fr lo mc ms cs ss 3 fr' lo' mc' ms') (d : decode cc pc = .ok (.invokevirtual 134, 3)) (kk : ∀ (r : Int32) (S' : HS), P r S' → J X G Q nL (cs + mc') (ss + ms') (pc + 3) lv (.int r :: st) S') : J X G Q nL cs ss pc lv (.int a1 :: .int a0 :: .ref b :: st) S := J_callV hC (r := (RX6, TX6, 26)) (n := 2) (ci := 7) (as := [.int a0, .int a1]) hM (mG 966 (by decide +kernel) rfl) (mG 967 (by decide +kernel) rfl) (mG 968 (by decide +kernel) rfl) (mG 42 (by decide +kernel) rfl) (mG 969 (by decide +kernel) rfl) ⟨by decide +kernel, by decide +kernel, by decide +kernel⟩ rfl rfl hk rfl rfl rfl h8 hr d (fun _ _ h => h.elim) (fun v S' h => by obtain ⟨r, rfl, h⟩ := h; exact kk r S' h)
theorem cl_L_135 {X : JX} {G : JG} {Q : State → Prop} {nL cs ss pc : Nat} {lv : List (Nat × Value)} {st : List Value} {S : HS} {cc : ByteArray} {ret : Option FieldType} {fr lo mc ms : Nat} {fr' lo' mc' ms' : Nat} {a0 : Nat} {a1 : Int32} {a2 : Nat} {P : Int32 → HS → Prop} (hC : JC X G RL cc nL ret fr lo mc ms) (hM : CtX G yL_isOpen cL_isOpen 4 (some .int) [(0, 16, 19, 39)] fr' lo' mc' ms' [.ref a0, .int a1, .ref a2] S (rI P) noX) (h8 : (st.map fun v => v.category).sum ≤ 8) (hr : rOK fr lo mc ms cs ss 4 fr' lo' mc' ms') (d : decode cc pc = .ok (.invokestatic 135, 3)) (kk : ∀ (r : Int32) (S' : HS), P r S' → J X G Q nL (cs + mc') (ss + ms') (pc + 3) lv (.int r :: st) S') : J X G Q nL cs ss pc lv (.ref a2 :: .int a1 :: .ref a0 :: st) S := J_callSX hC (n := 3) (as := [.ref a0, .int a1, .ref a2]) hM (mG 715 (by decide +kernel) rfl) (mG 716 (by decide +kernel) rfl) (mG 34 (by decide +kernel) rfl) (mG 717 (by decide +kernel) rfl) ⟨by decide +kernel, by decide +kernel, by decide +kernel⟩ rfl rfl h8 hr d (fun _ _ h => h.elim) (fun v S' h => by obtain ⟨r, rfl, h⟩ := h; exact kk r S' h)
theorem cl_L_137 {X : JX} {G : JG} {Q : State → Prop} {nL cs ss pc : Nat} {lv : List (Nat × Value)} {st : List Value} {S : HS} {cc : ByteArray} {ret : Option FieldType} {fr lo mc ms : Nat} {fr' lo' mc' ms' : Nat} {b : Nat} {a0 : Int32} {P : Int32 → HS → Prop} (hC : JC X G RL cc nL ret fr lo mc ms) (hM : Ct G yX6_isOpen cX6_isOpen 2 (some .boolean) fr' lo' mc' ms' [.ref b, .int a0] S (rI P) noX) (hk : hK S b = 17) (h8 : (st.map fun v => v.category).sum ≤ 8) (hr : rOK fr lo mc ms cs ss 2 fr' lo' mc' ms') (d : decode cc pc = .ok (.invokevirtual 137, 3)) (kk : ∀ (r : Int32) (S' : HS), P r S' → J X G Q nL (cs + mc') (ss + ms') (pc + 3) lv (.int r :: st) S') : J X G Q nL cs ss pc lv (.int a0 :: .ref b :: st) S := J_callV hC (r := (RX6, TX6, 26)) (n := 1) (ci := 7) (as := [.int a0]) hM (mG 991 (by decide +kernel) rfl) (mG 992 (by decide +kernel) rfl) (mG 993 (by decide +kernel) rfl) (mG 42 (by decide +kernel) rfl) (mG 994 (by decide +kernel) rfl) ⟨by decide +kernel, by decide +kernel, by decide +kernel⟩ rfl rfl hk rfl rfl rfl h8 hr d (fun _ _ h => h.elim) (fun v S' h => by obtain ⟨r, rfl, h⟩ := h; exact kk r S' h)
theorem cl_L_138 {X : JX} {G : JG} {Q : State → Prop} {nL cs ss pc : Nat} {lv : List (Nat × Value)} {st : List Value} {S : HS} {cc : ByteArray} {ret : Option FieldType} {fr lo mc ms : Nat} {fr' lo' mc' ms' : Nat} {a0 : Nat} {a1 : Int32} {a2 : Nat} {P : Int32 → HS → Prop} (hC : JC X G RL cc nL ret fr lo mc ms) (hM : CtX G yL_count cL_count 4 (some .int) [(0, 9, 12, 39)] fr' lo' mc' ms' [.ref a0, .int a1, .ref a2] S (rI P) noX) (h8 : (st.map fun v => v.category).sum ≤ 8) (hr : rOK fr lo mc ms cs ss 4 fr' lo' mc' ms') (d : decode cc pc = .ok (.invokestatic 138, 3)) (kk : ∀ (r : Int32) (S' : HS), P r S' → J X G Q nL (cs + mc') (ss + ms') (pc + 3) lv (.int r :: st) S') : J X G Q nL cs ss pc lv (.ref a2 :: .int a1 :: .ref a0 :: st) S := J_callSX hC (n := 3) (as := [.ref a0, .int a1, .ref a2]) hM (mG 722 (by decide +kernel) rfl) (mG 723 (by decide +kernel) rfl) (mG 34 (by decide +kernel) rfl) (mG 724 (by decide +kernel) rfl) ⟨by decide +kernel, by decide +kernel, by decide +kernel⟩ rfl rfl h8 hr d (fun _ _ h => h.elim) (fun v S' h => by obtain ⟨r, rfl, h⟩ := h; exact kk r S' h)
theorem cl_L_140 {X : JX} {G : JG} {Q : State → Prop} {nL cs ss pc : Nat} {lv : List (Nat × Value)} {st : List Value} {S : HS} {cc : ByteArray} {ret : Option FieldType} {fr lo mc ms : Nat} {fr' lo' mc' ms' : Nat} {b : Nat} {a0 : Int32} {P : Int32 → HS → Prop} (hC : JC X G RL cc nL ret fr lo mc ms) (hM : Ct G yX6_count cX6_count 4 (some .int) fr' lo' mc' ms' [.ref b, .int a0] S (rI P) noX) (hk : hK S b = 17) (h8 : (st.map fun v => v.category).sum ≤ 8) (hr : rOK fr lo mc ms cs ss 4 fr' lo' mc' ms') (d : decode cc pc = .ok (.invokevirtual 140, 3)) (kk : ∀ (r : Int32) (S' : HS), P r S' → J X G Q nL (cs + mc') (ss + ms') (pc + 3) lv (.int r :: st) S') : J X G Q nL cs ss pc lv (.int a0 :: .ref b :: st) S := J_callV hC (r := (RX6, TX6, 26)) (n := 1) (ci := 7) (as := [.int a0]) hM (mG 995 (by decide +kernel) rfl) (mG 996 (by decide +kernel) rfl) (mG 997 (by decide +kernel) rfl) (mG 42 (by decide +kernel) rfl) (mG 998 (by decide +kernel) rfl) ⟨by decide +kernel, by decide +kernel, by decide +kernel⟩ rfl rfl hk rfl rfl rfl h8 hr d (fun _ _ h => h.elim) (fun v S' h => by obtain ⟨r, rfl, h⟩ := h; exact kk r S' h)
theorem cl_L_141 {X : JX} {G : JG} {Q : State → Prop} {nL cs ss pc : Nat} {lv : List (Nat × Value)} {st : List Value} {S : HS} {cc : ByteArray} {ret : Option FieldType} {fr lo mc ms : Nat} {fr' lo' mc' ms' : Nat} {b : Nat}  {P : Int32 → HS → Prop} (hC : JC X G RL cc nL ret fr lo mc ms) (hM : Ct G yX5_visits cX5_visits 1 (some .int) fr' lo' mc' ms' [.ref b] S (rI P) noX) (hk : hK S b = 7) (h8 : (st.map fun v => v.category).sum ≤ 8) (hr : rOK fr lo mc ms cs ss 1 fr' lo' mc' ms') (d : decode cc pc = .ok (.invokevirtual 141, 3)) (kk : ∀ (r : Int32) (S' : HS), P r S' → J X G Q nL (cs + mc') (ss + ms') (pc + 3) lv (.int r :: st) S') : J X G Q nL cs ss pc lv (.ref b :: st) S := J_callV hC (r := (RX5, TX5, 8)) (n := 0) (ci := 6) (as := []) hM (mG 190 (by decide +kernel) rfl) (mG 191 (by decide +kernel) rfl) (mG 192 (by decide +kernel) rfl) (mG 35 (by decide +kernel) rfl) (mG 193 (by decide +kernel) rfl) ⟨by decide +kernel, by decide +kernel, by decide +kernel⟩ rfl rfl hk rfl rfl rfl h8 hr d (fun _ _ h => h.elim) (fun v S' h => by obtain ⟨r, rfl, h⟩ := h; exact kk r S' h)
theorem cl_L_144 {X : JX} {G : JG} {Q : State → Prop} {nL cs ss pc : Nat} {lv : List (Nat × Value)} {st : List Value} {S : HS} {cc : ByteArray} {ret : Option FieldType} {fr lo mc ms : Nat} {fr' lo' mc' ms' : Nat} {b : Nat}  {P : Int32 → HS → Prop} (hC : JC X G RL cc nL ret fr lo mc ms) (hM : Ct G yX6_visits cX6_visits 1 (some .int) fr' lo' mc' ms' [.ref b] S (rI P) noX) (hk : hK S b = 17) (h8 : (st.map fun v => v.category).sum ≤ 8) (hr : rOK fr lo mc ms cs ss 1 fr' lo' mc' ms') (d : decode cc pc = .ok (.invokevirtual 144, 3)) (kk : ∀ (r : Int32) (S' : HS), P r S' → J X G Q nL (cs + mc') (ss + ms') (pc + 3) lv (.int r :: st) S') : J X G Q nL cs ss pc lv (.ref b :: st) S := J_callV hC (r := (RX6, TX6, 26)) (n := 0) (ci := 7) (as := []) hM (mG 999 (by decide +kernel) rfl) (mG 1000 (by decide +kernel) rfl) (mG 1001 (by decide +kernel) rfl) (mG 42 (by decide +kernel) rfl) (mG 1002 (by decide +kernel) rfl) ⟨by decide +kernel, by decide +kernel, by decide +kernel⟩ rfl rfl hk rfl rfl rfl h8 hr d (fun _ _ h => h.elim) (fun v S' h => by obtain ⟨r, rfl, h⟩ := h; exact kk r S' h)
theorem cl_L_145 {X : JX} {G : JG} {Q : State → Prop} {nL cs ss pc : Nat} {lv : List (Nat × Value)} {st : List Value} {S : HS} {cc : ByteArray} {ret : Option FieldType} {fr lo mc ms : Nat} {fr' lo' mc' ms' : Nat} {a0 : Nat} {a1 : Int32} {a2 : Int32} {a3 : Nat} {P : Int32 → HS → Prop} (hC : JC X G RL cc nL ret fr lo mc ms) (hM : CtX G yL_visit cL_visit 5 (some .int) [(0, 10, 13, 39)] fr' lo' mc' ms' [.ref a0, .int a1, .int a2, .ref a3] S (rI P) noX) (h8 : (st.map fun v => v.category).sum ≤ 8) (hr : rOK fr lo mc ms cs ss 5 fr' lo' mc' ms') (d : decode cc pc = .ok (.invokestatic 145, 3)) (kk : ∀ (r : Int32) (S' : HS), P r S' → J X G Q nL (cs + mc') (ss + ms') (pc + 3) lv (.int r :: st) S') : J X G Q nL cs ss pc lv (.ref a3 :: .int a2 :: .int a1 :: .ref a0 :: st) S := J_callSX hC (n := 4) (as := [.ref a0, .int a1, .int a2, .ref a3]) hM (mG 733 (by decide +kernel) rfl) (mG 734 (by decide +kernel) rfl) (mG 34 (by decide +kernel) rfl) (mG 735 (by decide +kernel) rfl) ⟨by decide +kernel, by decide +kernel, by decide +kernel⟩ rfl rfl h8 hr d (fun _ _ h => h.elim) (fun v S' h => by obtain ⟨r, rfl, h⟩ := h; exact kk r S' h)
theorem cl_L_147 {X : JX} {G : JG} {Q : State → Prop} {nL cs ss pc : Nat} {lv : List (Nat × Value)} {st : List Value} {S : HS} {cc : ByteArray} {ret : Option FieldType} {fr lo mc ms : Nat} {fr' lo' mc' ms' : Nat} {b : Nat} {a0 : Int32} {a1 : Int32} {P : Int32 → HS → Prop} (hC : JC X G RL cc nL ret fr lo mc ms) (hM : Ct G yX6_visit cX6_visit 3 (some .int) fr' lo' mc' ms' [.ref b, .int a0, .int a1] S (rI P) noX) (hk : hK S b = 17) (h8 : (st.map fun v => v.category).sum ≤ 8) (hr : rOK fr lo mc ms cs ss 3 fr' lo' mc' ms') (d : decode cc pc = .ok (.invokevirtual 147, 3)) (kk : ∀ (r : Int32) (S' : HS), P r S' → J X G Q nL (cs + mc') (ss + ms') (pc + 3) lv (.int r :: st) S') : J X G Q nL cs ss pc lv (.int a1 :: .int a0 :: .ref b :: st) S := J_callV hC (r := (RX6, TX6, 26)) (n := 2) (ci := 7) (as := [.int a0, .int a1]) hM (mG 1003 (by decide +kernel) rfl) (mG 1004 (by decide +kernel) rfl) (mG 1005 (by decide +kernel) rfl) (mG 42 (by decide +kernel) rfl) (mG 1006 (by decide +kernel) rfl) ⟨by decide +kernel, by decide +kernel, by decide +kernel⟩ rfl rfl hk rfl rfl rfl h8 hr d (fun _ _ h => h.elim) (fun v S' h => by obtain ⟨r, rfl, h⟩ := h; exact kk r S' h)
theorem cl_L_148 {X : JX} {G : JG} {Q : State → Prop} {nL cs ss pc : Nat} {lv : List (Nat × Value)} {st : List Value} {S : HS} {cc : ByteArray} {ret : Option FieldType} {fr lo mc ms : Nat} {fr' lo' mc' ms' : Nat} {b : Nat}  {P : UInt64 → HS → Prop} (hC : JC X G RL cc nL ret fr lo mc ms) (hM : Ct G yX5_use cX5_use 1 (some .double) fr' lo' mc' ms' [.ref b] S (rD P) noX) (hk : hK S b = 7) (h8 : (st.map fun v => v.category).sum ≤ 8) (hr : rOK fr lo mc ms cs ss 1 fr' lo' mc' ms') (d : decode cc pc = .ok (.invokevirtual 148, 3)) (kk : ∀ (r : UInt64) (S' : HS), P r S' → J X G Q nL (cs + mc') (ss + ms') (pc + 3) lv (.double r :: st) S') : J X G Q nL cs ss pc lv (.ref b :: st) S := J_callV hC (r := (RX5, TX5, 8)) (n := 0) (ci := 6) (as := []) hM (mG 296 (by decide +kernel) rfl) (mG 297 (by decide +kernel) rfl) (mG 298 (by decide +kernel) rfl) (mG 35 (by decide +kernel) rfl) (mG 299 (by decide +kernel) rfl) ⟨by decide +kernel, by decide +kernel, by decide +kernel⟩ rfl rfl hk rfl rfl rfl h8 hr d (fun _ _ h => h.elim) (fun v S' h => by obtain ⟨r, rfl, h⟩ := h; exact kk r S' h)
theorem cl_L_152 {X : JX} {G : JG} {Q : State → Prop} {nL cs ss pc : Nat} {lv : List (Nat × Value)} {st : List Value} {S : HS} {cc : ByteArray} {ret : Option FieldType} {fr lo mc ms : Nat} {fr' lo' mc' ms' : Nat} {b : Nat}  {P : UInt64 → HS → Prop} (hC : JC X G RL cc nL ret fr lo mc ms) (hM : Ct G yX6_use cX6_use 3 (some .double) fr' lo' mc' ms' [.ref b] S (rD P) noX) (hk : hK S b = 17) (h8 : (st.map fun v => v.category).sum ≤ 8) (hr : rOK fr lo mc ms cs ss 3 fr' lo' mc' ms') (d : decode cc pc = .ok (.invokevirtual 152, 3)) (kk : ∀ (r : UInt64) (S' : HS), P r S' → J X G Q nL (cs + mc') (ss + ms') (pc + 3) lv (.double r :: st) S') : J X G Q nL cs ss pc lv (.ref b :: st) S := J_callV hC (r := (RX6, TX6, 26)) (n := 0) (ci := 7) (as := []) hM (mG 1007 (by decide +kernel) rfl) (mG 1008 (by decide +kernel) rfl) (mG 1009 (by decide +kernel) rfl) (mG 42 (by decide +kernel) rfl) (mG 1010 (by decide +kernel) rfl) ⟨by decide +kernel, by decide +kernel, by decide +kernel⟩ rfl rfl hk rfl rfl rfl h8 hr d (fun _ _ h => h.elim) (fun v S' h => by obtain ⟨r, rfl, h⟩ := h; exact kk r S' h)
theorem cl_L_153 {X : JX} {G : JG} {Q : State → Prop} {nL cs ss pc : Nat} {lv : List (Nat × Value)} {st : List Value} {S : HS} {cc : ByteArray} {ret : Option FieldType} {fr lo mc ms : Nat} {fr' lo' mc' ms' : Nat} {a0 : Nat} {a1 : Nat} {P : Int32 → HS → Prop} (hC : JC X G RL cc nL ret fr lo mc ms) (hM : CtX G yL_observe cL_observe 3 (some .int) [(0, 8, 11, 26)] fr' lo' mc' ms' [.ref a0, .ref a1] S (rI P) noX) (h8 : (st.map fun v => v.category).sum ≤ 8) (hr : rOK fr lo mc ms cs ss 3 fr' lo' mc' ms') (d : decode cc pc = .ok (.invokestatic 153, 3)) (kk : ∀ (r : Int32) (S' : HS), P r S' → J X G Q nL (cs + mc') (ss + ms') (pc + 3) lv (.int r :: st) S') : J X G Q nL cs ss pc lv (.ref a1 :: .ref a0 :: st) S := J_callSX hC (n := 2) (as := [.ref a0, .ref a1]) hM (mG 741 (by decide +kernel) rfl) (mG 742 (by decide +kernel) rfl) (mG 34 (by decide +kernel) rfl) (mG 743 (by decide +kernel) rfl) ⟨by decide +kernel, by decide +kernel, by decide +kernel⟩ rfl rfl h8 hr d (fun _ _ h => h.elim) (fun v S' h => by obtain ⟨r, rfl, h⟩ := h; exact kk r S' h)
theorem cl_L_156 {X : JX} {G : JG} {Q : State → Prop} {nL cs ss pc : Nat} {lv : List (Nat × Value)} {st : List Value} {S : HS} {cc : ByteArray} {ret : Option FieldType} {fr lo mc ms : Nat} {fr' lo' mc' ms' : Nat} {b : Nat}  {P : Int32 → HS → Prop} (hC : JC X G RL cc nL ret fr lo mc ms) (hM : Ct G yX6_observe cX6_observe 3 (some .int) fr' lo' mc' ms' [.ref b] S (rI P) noX) (hk : hK S b = 17) (h8 : (st.map fun v => v.category).sum ≤ 8) (hr : rOK fr lo mc ms cs ss 3 fr' lo' mc' ms') (d : decode cc pc = .ok (.invokevirtual 156, 3)) (kk : ∀ (r : Int32) (S' : HS), P r S' → J X G Q nL (cs + mc') (ss + ms') (pc + 3) lv (.int r :: st) S') : J X G Q nL cs ss pc lv (.ref b :: st) S := J_callV hC (r := (RX6, TX6, 26)) (n := 0) (ci := 7) (as := []) hM (mG 1011 (by decide +kernel) rfl) (mG 1012 (by decide +kernel) rfl) (mG 1013 (by decide +kernel) rfl) (mG 42 (by decide +kernel) rfl) (mG 1014 (by decide +kernel) rfl) ⟨by decide +kernel, by decide +kernel, by decide +kernel⟩ rfl rfl hk rfl rfl rfl h8 hr d (fun _ _ h => h.elim) (fun v S' h => by obtain ⟨r, rfl, h⟩ := h; exact kk r S' h)
theorem cl_L_157 {X : JX} {G : JG} {Q : State → Prop} {nL cs ss pc : Nat} {lv : List (Nat × Value)} {st : List Value} {S : HS} {cc : ByteArray} {ret : Option FieldType} {fr lo mc ms : Nat} {fr' lo' mc' ms' : Nat} {a0 : Nat} {a1 : Int32} {a2 : Nat} {P : Int32 → HS → Prop} (hC : JC X G RL cc nL ret fr lo mc ms) (hM : CtX G yL_pass cL_pass 4 (some .int) [(0, 9, 12, 13)] fr' lo' mc' ms' [.ref a0, .int a1, .ref a2] S (rI P) noX) (h8 : (st.map fun v => v.category).sum ≤ 8) (hr : rOK fr lo mc ms cs ss 4 fr' lo' mc' ms') (d : decode cc pc = .ok (.invokestatic 157, 3)) (kk : ∀ (r : Int32) (S' : HS), P r S' → J X G Q nL (cs + mc') (ss + ms') (pc + 3) lv (.int r :: st) S') : J X G Q nL cs ss pc lv (.ref a2 :: .int a1 :: .ref a0 :: st) S := J_callSX hC (n := 3) (as := [.ref a0, .int a1, .ref a2]) hM (mG 757 (by decide +kernel) rfl) (mG 758 (by decide +kernel) rfl) (mG 34 (by decide +kernel) rfl) (mG 759 (by decide +kernel) rfl) ⟨by decide +kernel, by decide +kernel, by decide +kernel⟩ rfl rfl h8 hr d (fun _ _ h => h.elim) (fun v S' h => by obtain ⟨r, rfl, h⟩ := h; exact kk r S' h)
theorem cl_L_159 {X : JX} {G : JG} {Q : State → Prop} {nL cs ss pc : Nat} {lv : List (Nat × Value)} {st : List Value} {S : HS} {cc : ByteArray} {ret : Option FieldType} {fr lo mc ms : Nat} {fr' lo' mc' ms' : Nat} {b : Nat} {a0 : Int32} {P : Int32 → HS → Prop} (hC : JC X G RL cc nL ret fr lo mc ms) (hM : Ct G yX6_pass cX6_pass 3 (some .int) fr' lo' mc' ms' [.ref b, .int a0] S (rI P) noX) (hk : hK S b = 17) (h8 : (st.map fun v => v.category).sum ≤ 8) (hr : rOK fr lo mc ms cs ss 3 fr' lo' mc' ms') (d : decode cc pc = .ok (.invokevirtual 159, 3)) (kk : ∀ (r : Int32) (S' : HS), P r S' → J X G Q nL (cs + mc') (ss + ms') (pc + 3) lv (.int r :: st) S') : J X G Q nL cs ss pc lv (.int a0 :: .ref b :: st) S := J_callV hC (r := (RX6, TX6, 26)) (n := 1) (ci := 7) (as := [.int a0]) hM (mG 1019 (by decide +kernel) rfl) (mG 1020 (by decide +kernel) rfl) (mG 1021 (by decide +kernel) rfl) (mG 42 (by decide +kernel) rfl) (mG 1022 (by decide +kernel) rfl) ⟨by decide +kernel, by decide +kernel, by decide +kernel⟩ rfl rfl hk rfl rfl rfl h8 hr d (fun _ _ h => h.elim) (fun v S' h => by obtain ⟨r, rfl, h⟩ := h; exact kk r S' h)
theorem cl_L_160 {X : JX} {G : JG} {Q : State → Prop} {nL cs ss pc : Nat} {lv : List (Nat × Value)} {st : List Value} {S : HS} {cc : ByteArray} {ret : Option FieldType} {fr lo mc ms : Nat} {fr' lo' mc' ms' : Nat} {b : Nat}  {P : Int32 → HS → Prop} (hC : JC X G RL cc nL ret fr lo mc ms) (hM : Ct G yX5_night cX5_night 1 (some .int) fr' lo' mc' ms' [.ref b] S (rI P) noX) (hk : hK S b = 7) (h8 : (st.map fun v => v.category).sum ≤ 8) (hr : rOK fr lo mc ms cs ss 1 fr' lo' mc' ms') (d : decode cc pc = .ok (.invokevirtual 160, 3)) (kk : ∀ (r : Int32) (S' : HS), P r S' → J X G Q nL (cs + mc') (ss + ms') (pc + 3) lv (.int r :: st) S') : J X G Q nL cs ss pc lv (.ref b :: st) S := J_callV hC (r := (RX5, TX5, 8)) (n := 0) (ci := 6) (as := []) hM (mG 300 (by decide +kernel) rfl) (mG 301 (by decide +kernel) rfl) (mG 302 (by decide +kernel) rfl) (mG 35 (by decide +kernel) rfl) (mG 303 (by decide +kernel) rfl) ⟨by decide +kernel, by decide +kernel, by decide +kernel⟩ rfl rfl hk rfl rfl rfl h8 hr d (fun _ _ h => h.elim) (fun v S' h => by obtain ⟨r, rfl, h⟩ := h; exact kk r S' h)
theorem cl_L_163 {X : JX} {G : JG} {Q : State → Prop} {nL cs ss pc : Nat} {lv : List (Nat × Value)} {st : List Value} {S : HS} {cc : ByteArray} {ret : Option FieldType} {fr lo mc ms : Nat} {fr' lo' mc' ms' : Nat} {b : Nat}  {P : Int32 → HS → Prop} (hC : JC X G RL cc nL ret fr lo mc ms) (hM : Ct G yX6_night cX6_night 1 (some .int) fr' lo' mc' ms' [.ref b] S (rI P) noX) (hk : hK S b = 17) (h8 : (st.map fun v => v.category).sum ≤ 8) (hr : rOK fr lo mc ms cs ss 1 fr' lo' mc' ms') (d : decode cc pc = .ok (.invokevirtual 163, 3)) (kk : ∀ (r : Int32) (S' : HS), P r S' → J X G Q nL (cs + mc') (ss + ms') (pc + 3) lv (.int r :: st) S') : J X G Q nL cs ss pc lv (.ref b :: st) S := J_callV hC (r := (RX6, TX6, 26)) (n := 0) (ci := 7) (as := []) hM (mG 1023 (by decide +kernel) rfl) (mG 1024 (by decide +kernel) rfl) (mG 1025 (by decide +kernel) rfl) (mG 42 (by decide +kernel) rfl) (mG 1026 (by decide +kernel) rfl) ⟨by decide +kernel, by decide +kernel, by decide +kernel⟩ rfl rfl hk rfl rfl rfl h8 hr d (fun _ _ h => h.elim) (fun v S' h => by obtain ⟨r, rfl, h⟩ := h; exact kk r S' h)
theorem cl_L_164 {X : JX} {G : JG} {Q : State → Prop} {nL cs ss pc : Nat} {lv : List (Nat × Value)} {st : List Value} {S : HS} {cc : ByteArray} {ret : Option FieldType} {fr lo mc ms : Nat} {fr' lo' mc' ms' : Nat} {b : Nat}  {P : Int32 → HS → Prop} (hC : JC X G RL cc nL ret fr lo mc ms) (hM : Ct G yX5_light cX5_light 1 (some .int) fr' lo' mc' ms' [.ref b] S (rI P) noX) (hk : hK S b = 7) (h8 : (st.map fun v => v.category).sum ≤ 8) (hr : rOK fr lo mc ms cs ss 1 fr' lo' mc' ms') (d : decode cc pc = .ok (.invokevirtual 164, 3)) (kk : ∀ (r : Int32) (S' : HS), P r S' → J X G Q nL (cs + mc') (ss + ms') (pc + 3) lv (.int r :: st) S') : J X G Q nL cs ss pc lv (.ref b :: st) S := J_callV hC (r := (RX5, TX5, 8)) (n := 0) (ci := 6) (as := []) hM (mG 304 (by decide +kernel) rfl) (mG 305 (by decide +kernel) rfl) (mG 306 (by decide +kernel) rfl) (mG 35 (by decide +kernel) rfl) (mG 307 (by decide +kernel) rfl) ⟨by decide +kernel, by decide +kernel, by decide +kernel⟩ rfl rfl hk rfl rfl rfl h8 hr d (fun _ _ h => h.elim) (fun v S' h => by obtain ⟨r, rfl, h⟩ := h; exact kk r S' h)
theorem cl_L_167 {X : JX} {G : JG} {Q : State → Prop} {nL cs ss pc : Nat} {lv : List (Nat × Value)} {st : List Value} {S : HS} {cc : ByteArray} {ret : Option FieldType} {fr lo mc ms : Nat} {fr' lo' mc' ms' : Nat} {b : Nat}  {P : Int32 → HS → Prop} (hC : JC X G RL cc nL ret fr lo mc ms) (hM : Ct G yX6_light cX6_light 1 (some .int) fr' lo' mc' ms' [.ref b] S (rI P) noX) (hk : hK S b = 17) (h8 : (st.map fun v => v.category).sum ≤ 8) (hr : rOK fr lo mc ms cs ss 1 fr' lo' mc' ms') (d : decode cc pc = .ok (.invokevirtual 167, 3)) (kk : ∀ (r : Int32) (S' : HS), P r S' → J X G Q nL (cs + mc') (ss + ms') (pc + 3) lv (.int r :: st) S') : J X G Q nL cs ss pc lv (.ref b :: st) S := J_callV hC (r := (RX6, TX6, 26)) (n := 0) (ci := 7) (as := []) hM (mG 1027 (by decide +kernel) rfl) (mG 1028 (by decide +kernel) rfl) (mG 1029 (by decide +kernel) rfl) (mG 42 (by decide +kernel) rfl) (mG 1030 (by decide +kernel) rfl) ⟨by decide +kernel, by decide +kernel, by decide +kernel⟩ rfl rfl hk rfl rfl rfl h8 hr d (fun _ _ h => h.elim) (fun v S' h => by obtain ⟨r, rfl, h⟩ := h; exact kk r S' h)
theorem cl_L_168 {X : JX} {G : JG} {Q : State → Prop} {nL cs ss pc : Nat} {lv : List (Nat × Value)} {st : List Value} {S : HS} {cc : ByteArray} {ret : Option FieldType} {fr lo mc ms : Nat} {fr' lo' mc' ms' : Nat} {b : Nat}  {P : Int64 → HS → Prop} (hC : JC X G RL cc nL ret fr lo mc ms) (hM : Ct G yX5_digest cX5_digest 3 (some .long) fr' lo' mc' ms' [.ref b] S (rL P) noX) (hk : hK S b = 7) (h8 : (st.map fun v => v.category).sum ≤ 8) (hr : rOK fr lo mc ms cs ss 3 fr' lo' mc' ms') (d : decode cc pc = .ok (.invokevirtual 168, 3)) (kk : ∀ (r : Int64) (S' : HS), P r S' → J X G Q nL (cs + mc') (ss + ms') (pc + 3) lv (.long r :: st) S') : J X G Q nL cs ss pc lv (.ref b :: st) S := J_callV hC (r := (RX5, TX5, 8)) (n := 0) (ci := 6) (as := []) hM (mG 308 (by decide +kernel) rfl) (mG 309 (by decide +kernel) rfl) (mG 310 (by decide +kernel) rfl) (mG 35 (by decide +kernel) rfl) (mG 311 (by decide +kernel) rfl) ⟨by decide +kernel, by decide +kernel, by decide +kernel⟩ rfl rfl hk rfl rfl rfl h8 hr d (fun _ _ h => h.elim) (fun v S' h => by obtain ⟨r, rfl, h⟩ := h; exact kk r S' h)
theorem cl_L_172 {X : JX} {G : JG} {Q : State → Prop} {nL cs ss pc : Nat} {lv : List (Nat × Value)} {st : List Value} {S : HS} {cc : ByteArray} {ret : Option FieldType} {fr lo mc ms : Nat} {fr' lo' mc' ms' : Nat} {b : Nat}  {P : Int64 → HS → Prop} (hC : JC X G RL cc nL ret fr lo mc ms) (hM : Ct G yX6_digest cX6_digest 8 (some .long) fr' lo' mc' ms' [.ref b] S (rL P) noX) (hk : hK S b = 17) (h8 : (st.map fun v => v.category).sum ≤ 8) (hr : rOK fr lo mc ms cs ss 8 fr' lo' mc' ms') (d : decode cc pc = .ok (.invokevirtual 172, 3)) (kk : ∀ (r : Int64) (S' : HS), P r S' → J X G Q nL (cs + mc') (ss + ms') (pc + 3) lv (.long r :: st) S') : J X G Q nL cs ss pc lv (.ref b :: st) S := J_callV hC (r := (RX6, TX6, 26)) (n := 0) (ci := 7) (as := []) hM (mG 1031 (by decide +kernel) rfl) (mG 1032 (by decide +kernel) rfl) (mG 1033 (by decide +kernel) rfl) (mG 42 (by decide +kernel) rfl) (mG 1034 (by decide +kernel) rfl) ⟨by decide +kernel, by decide +kernel, by decide +kernel⟩ rfl rfl hk rfl rfl rfl h8 hr d (fun _ _ h => h.elim) (fun v S' h => by obtain ⟨r, rfl, h⟩ := h; exact kk r S' h)
theorem cl_X6_66 {X : JX} {G : JG} {Q : State → Prop} {nL cs ss pc : Nat} {lv : List (Nat × Value)} {st : List Value} {S : HS} {cc : ByteArray} {ret : Option FieldType} {fr lo mc ms : Nat} {fr' lo' mc' ms' : Nat} {a0 : Int32} {a1 : Int32} {a2 : Int32} {P : Int32 → HS → Prop} (hC : JC X G RX6 cc nL ret fr lo mc ms) (hM : Ct G yX6_isIn cX6_isIn 3 (some .boolean) fr' lo' mc' ms' [.int a0, .int a1, .int a2] S (rI P) noX) (h8 : (st.map fun v => v.category).sum ≤ 8) (hr : rOK fr lo mc ms cs ss 3 fr' lo' mc' ms') (d : decode cc pc = .ok (.invokestatic 66, 3)) (kk : ∀ (r : Int32) (S' : HS), P r S' → J X G Q nL (cs + mc') (ss + ms') (pc + 3) lv (.int r :: st) S') : J X G Q nL cs ss pc lv (.int a2 :: .int a1 :: .int a0 :: st) S := J_callS hC (n := 3) (as := [.int a0, .int a1, .int a2]) hM (mG 859 (by decide +kernel) rfl) (mG 860 (by decide +kernel) rfl) (mG 42 (by decide +kernel) rfl) (mG 861 (by decide +kernel) rfl) ⟨by decide +kernel, by decide +kernel, by decide +kernel⟩ rfl rfl h8 hr d (fun _ _ h => h.elim) (fun v S' h => by obtain ⟨r, rfl, h⟩ := h; exact kk r S' h)
theorem cl_X6_70 {X : JX} {G : JG} {Q : State → Prop} {nL cs ss pc : Nat} {lv : List (Nat × Value)} {st : List Value} {S : HS} {cc : ByteArray} {ret : Option FieldType} {fr lo mc ms : Nat} {fr' lo' mc' ms' : Nat} {a0 : Int32} {a1 : Int32} {P : Int32 → HS → Prop} (hC : JC X G RX6 cc nL ret fr lo mc ms) (hM : Ct G yJ9_floorMod_7cf53 cJ9_floorMod_7cf53 3 (some .int) fr' lo' mc' ms' [.int a0, .int a1] S (rI P) noX) (h8 : (st.map fun v => v.category).sum ≤ 8) (hr : rOK fr lo mc ms cs ss 3 fr' lo' mc' ms') (d : decode cc pc = .ok (.invokestatic 70, 3)) (kk : ∀ (r : Int32) (S' : HS), P r S' → J X G Q nL (cs + mc') (ss + ms') (pc + 3) lv (.int r :: st) S') : J X G Q nL cs ss pc lv (.int a1 :: .int a0 :: st) S := J_callS hC (n := 2) (as := [.int a0, .int a1]) hM (mG 897 (by decide +kernel) rfl) (mG 898 (by decide +kernel) rfl) (mG 49 (by decide +kernel) rfl) (mG 899 (by decide +kernel) rfl) ⟨by decide +kernel, by decide +kernel, by decide +kernel⟩ rfl rfl h8 hr d (fun _ _ h => h.elim) (fun v S' h => by obtain ⟨r, rfl, h⟩ := h; exact kk r S' h)
theorem cl_X6_77 {X : JX} {G : JG} {Q : State → Prop} {nL cs ss pc : Nat} {lv : List (Nat × Value)} {st : List Value} {S : HS} {cc : ByteArray} {ret : Option FieldType} {fr lo mc ms : Nat} {fr' lo' mc' ms' : Nat} {a0 : Int32} {P : Int32 → HS → Prop} (hC : JC X G RX6 cc nL ret fr lo mc ms) (hM : Ct G yX6_sineOf cX6_sineOf 4 (some .int) fr' lo' mc' ms' [.int a0] S (rI P) noX) (h8 : (st.map fun v => v.category).sum ≤ 8) (hr : rOK fr lo mc ms cs ss 4 fr' lo' mc' ms') (d : decode cc pc = .ok (.invokestatic 77, 3)) (kk : ∀ (r : Int32) (S' : HS), P r S' → J X G Q nL (cs + mc') (ss + ms') (pc + 3) lv (.int r :: st) S') : J X G Q nL cs ss pc lv (.int a0 :: st) S := J_callS hC (n := 1) (as := [.int a0]) hM (mG 894 (by decide +kernel) rfl) (mG 895 (by decide +kernel) rfl) (mG 42 (by decide +kernel) rfl) (mG 896 (by decide +kernel) rfl) ⟨by decide +kernel, by decide +kernel, by decide +kernel⟩ rfl rfl h8 hr d (fun _ _ h => h.elim) (fun v S' h => by obtain ⟨r, rfl, h⟩ := h; exact kk r S' h)
theorem cl_X6_81 {X : JX} {G : JG} {Q : State → Prop} {nL cs ss pc : Nat} {lv : List (Nat × Value)} {st : List Value} {S : HS} {cc : ByteArray} {ret : Option FieldType} {fr lo mc ms : Nat} {fr' lo' mc' ms' : Nat} {a0 : Int32} {P : Int32 → HS → Prop} (hC : JC X G RX6 cc nL ret fr lo mc ms) (hM : Ct G yX6_cosineOf cX6_cosineOf 1 (some .int) fr' lo' mc' ms' [.int a0] S (rI P) noX) (h8 : (st.map fun v => v.category).sum ≤ 8) (hr : rOK fr lo mc ms cs ss 1 fr' lo' mc' ms') (d : decode cc pc = .ok (.invokestatic 81, 3)) (kk : ∀ (r : Int32) (S' : HS), P r S' → J X G Q nL (cs + mc') (ss + ms') (pc + 3) lv (.int r :: st) S') : J X G Q nL cs ss pc lv (.int a0 :: st) S := J_callS hC (n := 1) (as := [.int a0]) hM (mG 932 (by decide +kernel) rfl) (mG 933 (by decide +kernel) rfl) (mG 42 (by decide +kernel) rfl) (mG 934 (by decide +kernel) rfl) ⟨by decide +kernel, by decide +kernel, by decide +kernel⟩ rfl rfl h8 hr d (fun _ _ h => h.elim) (fun v S' h => by obtain ⟨r, rfl, h⟩ := h; exact kk r S' h)
theorem cl_X6_90 {X : JX} {G : JG} {Q : State → Prop} {nL cs ss pc : Nat} {lv : List (Nat × Value)} {st : List Value} {S : HS} {cc : ByteArray} {ret : Option FieldType} {fr lo mc ms : Nat} {fr' lo' mc' ms' : Nat} {a0 : Int32} {a1 : Int32} {a2 : Int32} {P : Int32 → HS → Prop} (hC : JC X G RX6 cc nL ret fr lo mc ms) (hM : Ct G yX6_mixed cX6_mixed 3 (some .int) fr' lo' mc' ms' [.int a0, .int a1, .int a2] S (rI P) noX) (h8 : (st.map fun v => v.category).sum ≤ 8) (hr : rOK fr lo mc ms cs ss 3 fr' lo' mc' ms') (d : decode cc pc = .ok (.invokestatic 90, 3)) (kk : ∀ (r : Int32) (S' : HS), P r S' → J X G Q nL (cs + mc') (ss + ms') (pc + 3) lv (.int r :: st) S') : J X G Q nL cs ss pc lv (.int a2 :: .int a1 :: .int a0 :: st) S := J_callS hC (n := 3) (as := [.int a0, .int a1, .int a2]) hM (mG 929 (by decide +kernel) rfl) (mG 930 (by decide +kernel) rfl) (mG 42 (by decide +kernel) rfl) (mG 931 (by decide +kernel) rfl) ⟨by decide +kernel, by decide +kernel, by decide +kernel⟩ rfl rfl h8 hr d (fun _ _ h => h.elim) (fun v S' h => by obtain ⟨r, rfl, h⟩ := h; exact kk r S' h)
theorem cl_X6_94 {X : JX} {G : JG} {Q : State → Prop} {nL cs ss pc : Nat} {lv : List (Nat × Value)} {st : List Value} {S : HS} {cc : ByteArray} {ret : Option FieldType} {fr lo mc ms : Nat} {fr' lo' mc' ms' : Nat} {a0 : Int32} {P : Int32 → HS → Prop} (hC : JC X G RX6 cc nL ret fr lo mc ms) (hM : Ct G yJ9_abs_0f7a4 cJ9_abs_0f7a4 1 (some .int) fr' lo' mc' ms' [.int a0] S (rI P) noX) (h8 : (st.map fun v => v.category).sum ≤ 8) (hr : rOK fr lo mc ms cs ss 1 fr' lo' mc' ms') (d : decode cc pc = .ok (.invokestatic 94, 3)) (kk : ∀ (r : Int32) (S' : HS), P r S' → J X G Q nL (cs + mc') (ss + ms') (pc + 3) lv (.int r :: st) S') : J X G Q nL cs ss pc lv (.int a0 :: st) S := J_callS hC (n := 1) (as := [.int a0]) hM (mG 881 (by decide +kernel) rfl) (mG 252 (by decide +kernel) rfl) (mG 49 (by decide +kernel) rfl) (mG 253 (by decide +kernel) rfl) ⟨by decide +kernel, by decide +kernel, by decide +kernel⟩ rfl rfl h8 hr d (fun _ _ h => h.elim) (fun v S' h => by obtain ⟨r, rfl, h⟩ := h; exact kk r S' h)
theorem cl_X6_106 {X : JX} {G : JG} {Q : State → Prop} {nL cs ss pc : Nat} {lv : List (Nat × Value)} {st : List Value} {S : HS} {cc : ByteArray} {ret : Option FieldType} {fr lo mc ms : Nat} {fr' lo' mc' ms' : Nat} {a0 : Int32} {a1 : Int32} {a2 : Int32} {a3 : Int32} {P : Int32 → HS → Prop} (hC : JC X G RX6 cc nL ret fr lo mc ms) (hM : Ct G yX6_near cX6_near 4 (some .int) fr' lo' mc' ms' [.int a0, .int a1, .int a2, .int a3] S (rI P) noX) (h8 : (st.map fun v => v.category).sum ≤ 8) (hr : rOK fr lo mc ms cs ss 4 fr' lo' mc' ms') (d : decode cc pc = .ok (.invokestatic 106, 3)) (kk : ∀ (r : Int32) (S' : HS), P r S' → J X G Q nL (cs + mc') (ss + ms') (pc + 3) lv (.int r :: st) S') : J X G Q nL cs ss pc lv (.int a3 :: .int a2 :: .int a1 :: .int a0 :: st) S := J_callS hC (n := 4) (as := [.int a0, .int a1, .int a2, .int a3]) hM (mG 939 (by decide +kernel) rfl) (mG 940 (by decide +kernel) rfl) (mG 42 (by decide +kernel) rfl) (mG 941 (by decide +kernel) rfl) ⟨by decide +kernel, by decide +kernel, by decide +kernel⟩ rfl rfl h8 hr d (fun _ _ h => h.elim) (fun v S' h => by obtain ⟨r, rfl, h⟩ := h; exact kk r S' h)
theorem cl_X6_110 {X : JX} {G : JG} {Q : State → Prop} {nL cs ss pc : Nat} {lv : List (Nat × Value)} {st : List Value} {S : HS} {cc : ByteArray} {ret : Option FieldType} {fr lo mc ms : Nat} {fr' lo' mc' ms' : Nat} {b : Nat} {a0 : Int32} {a1 : Int32} {a2 : Int32} {P : Int32 → HS → Prop} (hC : JC X G RX6 cc nL ret fr lo mc ms) (hM : Ct G yX6_heightOf cX6_heightOf 5 (some .int) fr' lo' mc' ms' [.ref b, .int a0, .int a1, .int a2] S (rI P) noX) (hk : hK S b = 17) (h8 : (st.map fun v => v.category).sum ≤ 8) (hr : rOK fr lo mc ms cs ss 5 fr' lo' mc' ms') (d : decode cc pc = .ok (.invokevirtual 110, 3)) (kk : ∀ (r : Int32) (S' : HS), P r S' → J X G Q nL (cs + mc') (ss + ms') (pc + 3) lv (.int r :: st) S') : J X G Q nL cs ss pc lv (.int a2 :: .int a1 :: .int a0 :: .ref b :: st) S := J_callV hC (r := (RX6, TX6, 26)) (n := 3) (ci := 7) (as := [.int a0, .int a1, .int a2]) hM (mG 925 (by decide +kernel) rfl) (mG 927 (by decide +kernel) rfl) (mG 24 (by decide +kernel) rfl) (mG 42 (by decide +kernel) rfl) (mG 928 (by decide +kernel) rfl) ⟨by decide +kernel, by decide +kernel, by decide +kernel⟩ rfl rfl hk rfl rfl rfl h8 hr d (fun _ _ h => h.elim) (fun v S' h => by obtain ⟨r, rfl, h⟩ := h; exact kk r S' h)
theorem cl_X6_113 {X : JX} {G : JG} {Q : State → Prop} {nL cs ss pc : Nat} {lv : List (Nat × Value)} {st : List Value} {S : HS} {cc : ByteArray} {ret : Option FieldType} {fr lo mc ms : Nat} {fr' lo' mc' ms' : Nat} {b : Nat} {a0 : Int32} {P : Int32 → HS → Prop} (hC : JC X G RX6 cc nL ret fr lo mc ms) (hM : Ct G yX6_moonHeightOf cX6_moonHeightOf 2 (some .int) fr' lo' mc' ms' [.ref b, .int a0] S (rI P) noX) (hk : hK S b = 17) (h8 : (st.map fun v => v.category).sum ≤ 8) (hr : rOK fr lo mc ms cs ss 2 fr' lo' mc' ms') (d : decode cc pc = .ok (.invokevirtual 113, 3)) (kk : ∀ (r : Int32) (S' : HS), P r S' → J X G Q nL (cs + mc') (ss + ms') (pc + 3) lv (.int r :: st) S') : J X G Q nL cs ss pc lv (.int a0 :: .ref b :: st) S := J_callV hC (r := (RX6, TX6, 26)) (n := 1) (ci := 7) (as := [.int a0]) hM (mG 954 (by decide +kernel) rfl) (mG 956 (by decide +kernel) rfl) (mG 26 (by decide +kernel) rfl) (mG 42 (by decide +kernel) rfl) (mG 957 (by decide +kernel) rfl) ⟨by decide +kernel, by decide +kernel, by decide +kernel⟩ rfl rfl hk rfl rfl rfl h8 hr d (fun _ _ h => h.elim) (fun v S' h => by obtain ⟨r, rfl, h⟩ := h; exact kk r S' h)
theorem cl_X6_116 {X : JX} {G : JG} {Q : State → Prop} {nL cs ss pc : Nat} {lv : List (Nat × Value)} {st : List Value} {S : HS} {cc : ByteArray} {ret : Option FieldType} {fr lo mc ms : Nat} {fr' lo' mc' ms' : Nat} {b : Nat} {a0 : Int32} {P : Int32 → HS → Prop} (hC : JC X G RX6 cc nL ret fr lo mc ms) (hM : Ct G yX6_moonNear cX6_moonNear 2 (some .int) fr' lo' mc' ms' [.ref b, .int a0] S (rI P) noX) (hk : hK S b = 17) (h8 : (st.map fun v => v.category).sum ≤ 8) (hr : rOK fr lo mc ms cs ss 2 fr' lo' mc' ms') (d : decode cc pc = .ok (.invokevirtual 116, 3)) (kk : ∀ (r : Int32) (S' : HS), P r S' → J X G Q nL (cs + mc') (ss + ms') (pc + 3) lv (.int r :: st) S') : J X G Q nL cs ss pc lv (.int a0 :: .ref b :: st) S := J_callV hC (r := (RX6, TX6, 26)) (n := 1) (ci := 7) (as := [.int a0]) hM (mG 946 (by decide +kernel) rfl) (mG 948 (by decide +kernel) rfl) (mG 25 (by decide +kernel) rfl) (mG 42 (by decide +kernel) rfl) (mG 949 (by decide +kernel) rfl) ⟨by decide +kernel, by decide +kernel, by decide +kernel⟩ rfl rfl hk rfl rfl rfl h8 hr d (fun _ _ h => h.elim) (fun v S' h => by obtain ⟨r, rfl, h⟩ := h; exact kk r S' h)
theorem cl_X6_119 {X : JX} {G : JG} {Q : State → Prop} {nL cs ss pc : Nat} {lv : List (Nat × Value)} {st : List Value} {S : HS} {cc : ByteArray} {ret : Option FieldType} {fr lo mc ms : Nat} {fr' lo' mc' ms' : Nat} {b : Nat}  {P : Int32 → HS → Prop} (hC : JC X G RX6 cc nL ret fr lo mc ms) (hM : Ct G yX6_lightOf cX6_lightOf 1 (some .int) fr' lo' mc' ms' [.ref b] S (rI P) noX) (hk : hK S b = 17) (h8 : (st.map fun v => v.category).sum ≤ 8) (hr : rOK fr lo mc ms cs ss 1 fr' lo' mc' ms') (d : decode cc pc = .ok (.invokevirtual 119, 3)) (kk : ∀ (r : Int32) (S' : HS), P r S' → J X G Q nL (cs + mc') (ss + ms') (pc + 3) lv (.int r :: st) S') : J X G Q nL cs ss pc lv (.ref b :: st) S := J_callV hC (r := (RX6, TX6, 26)) (n := 0) (ci := 7) (as := []) hM (mG 877 (by decide +kernel) rfl) (mG 879 (by decide +kernel) rfl) (mG 20 (by decide +kernel) rfl) (mG 42 (by decide +kernel) rfl) (mG 880 (by decide +kernel) rfl) ⟨by decide +kernel, by decide +kernel, by decide +kernel⟩ rfl rfl hk rfl rfl rfl h8 hr d (fun _ _ h => h.elim) (fun v S' h => by obtain ⟨r, rfl, h⟩ := h; exact kk r S' h)
theorem cl_X6_127 {X : JX} {G : JG} {Q : State → Prop} {nL cs ss pc : Nat} {lv : List (Nat × Value)} {st : List Value} {S : HS} {cc : ByteArray} {ret : Option FieldType} {fr lo mc ms : Nat} {fr' lo' mc' ms' : Nat} {b : Nat} {a0 : Int32} {a1 : Int32} {P : Int32 → HS → Prop} (hC : JC X G RX6 cc nL ret fr lo mc ms) (hM : Ct G yX6_reasonOf cX6_reasonOf 3 (some .int) fr' lo' mc' ms' [.ref b, .int a0, .int a1] S (rI P) noX) (hk : hK S b = 17) (h8 : (st.map fun v => v.category).sum ≤ 8) (hr : rOK fr lo mc ms cs ss 3 fr' lo' mc' ms') (d : decode cc pc = .ok (.invokevirtual 127, 3)) (kk : ∀ (r : Int32) (S' : HS), P r S' → J X G Q nL (cs + mc') (ss + ms') (pc + 3) lv (.int r :: st) S') : J X G Q nL cs ss pc lv (.int a1 :: .int a0 :: .ref b :: st) S := J_callV hC (r := (RX6, TX6, 26)) (n := 2) (ci := 7) (as := [.int a0, .int a1]) hM (mG 962 (by decide +kernel) rfl) (mG 964 (by decide +kernel) rfl) (mG 27 (by decide +kernel) rfl) (mG 42 (by decide +kernel) rfl) (mG 965 (by decide +kernel) rfl) ⟨by decide +kernel, by decide +kernel, by decide +kernel⟩ rfl rfl hk rfl rfl rfl h8 hr d (fun _ _ h => h.elim) (fun v S' h => by obtain ⟨r, rfl, h⟩ := h; exact kk r S' h)
theorem cl_X6_130 {X : JX} {G : JG} {Q : State → Prop} {nL cs ss pc : Nat} {lv : List (Nat × Value)} {st : List Value} {S : HS} {cc : ByteArray} {ret : Option FieldType} {fr lo mc ms : Nat} {fr' lo' mc' ms' : Nat} {b : Nat}  {P : HS → Prop} (hC : JC X G RX6 cc nL ret fr lo mc ms) (hM : Ct G yX6_makePlan cX6_makePlan 9 none fr' lo' mc' ms' [.ref b] S (rV P) noX) (hk : hK S b = 17) (h8 : (st.map fun v => v.category).sum ≤ 8) (hr : rOK fr lo mc ms cs ss 9 fr' lo' mc' ms') (d : decode cc pc = .ok (.invokevirtual 130, 3)) (kk : ∀ S' : HS, P S' → J X G Q nL (cs + mc') (ss + ms') (pc + 3) lv st S') : J X G Q nL cs ss pc lv (.ref b :: st) S := J_callV hC (r := (RX6, TX6, 26)) (n := 0) (ci := 7) (as := []) hM (mG 978 (by decide +kernel) rfl) (mG 980 (by decide +kernel) rfl) (mG 30 (by decide +kernel) rfl) (mG 42 (by decide +kernel) rfl) (mG 981 (by decide +kernel) rfl) ⟨by decide +kernel, by decide +kernel, by decide +kernel⟩ rfl rfl hk rfl rfl rfl h8 hr d (fun _ _ h => h.elim) (fun v S' h => by obtain ⟨rfl, h⟩ := h; exact kk S' h)
theorem cl_X6_136 {X : JX} {G : JG} {Q : State → Prop} {nL cs ss pc : Nat} {lv : List (Nat × Value)} {st : List Value} {S : HS} {cc : ByteArray} {ret : Option FieldType} {fr lo mc ms : Nat} {fr' lo' mc' ms' : Nat} {b : Nat} {a0 : Int32} {P : Int32 → HS → Prop} (hC : JC X G RX6 cc nL ret fr lo mc ms) (hM : Ct G yX6_isOpenNow cX6_isOpenNow 2 (some .boolean) fr' lo' mc' ms' [.ref b, .int a0] S (rI P) noX) (hk : hK S b = 17) (h8 : (st.map fun v => v.category).sum ≤ 8) (hr : rOK fr lo mc ms cs ss 2 fr' lo' mc' ms') (d : decode cc pc = .ok (.invokevirtual 136, 3)) (kk : ∀ (r : Int32) (S' : HS), P r S' → J X G Q nL (cs + mc') (ss + ms') (pc + 3) lv (.int r :: st) S') : J X G Q nL cs ss pc lv (.int a0 :: .ref b :: st) S := J_callV hC (r := (RX6, TX6, 26)) (n := 1) (ci := 7) (as := [.int a0]) hM (mG 982 (by decide +kernel) rfl) (mG 984 (by decide +kernel) rfl) (mG 31 (by decide +kernel) rfl) (mG 42 (by decide +kernel) rfl) (mG 985 (by decide +kernel) rfl) ⟨by decide +kernel, by decide +kernel, by decide +kernel⟩ rfl rfl hk rfl rfl rfl h8 hr d (fun _ _ h => h.elim) (fun v S' h => by obtain ⟨r, rfl, h⟩ := h; exact kk r S' h)
theorem cl_X6_140 {X : JX} {G : JG} {Q : State → Prop} {nL cs ss pc : Nat} {lv : List (Nat × Value)} {st : List Value} {S : HS} {cc : ByteArray} {ret : Option FieldType} {fr lo mc ms : Nat} {fr' lo' mc' ms' : Nat} {b : Nat} {a0 : Int32} {a1 : Int32} {a2 : Int32} {P : Int32 → HS → Prop} (hC : JC X G RX6 cc nL ret fr lo mc ms) (hM : Ct G yX6_ready cX6_ready 6 (some .int) fr' lo' mc' ms' [.ref b, .int a0, .int a1, .int a2] S (rI P) noX) (hk : hK S b = 17) (h8 : (st.map fun v => v.category).sum ≤ 8) (hr : rOK fr lo mc ms cs ss 6 fr' lo' mc' ms') (d : decode cc pc = .ok (.invokevirtual 140, 3)) (kk : ∀ (r : Int32) (S' : HS), P r S' → J X G Q nL (cs + mc') (ss + ms') (pc + 3) lv (.int r :: st) S') : J X G Q nL cs ss pc lv (.int a2 :: .int a1 :: .int a0 :: .ref b :: st) S := J_callV hC (r := (RX6, TX6, 26)) (n := 3) (ci := 7) (as := [.int a0, .int a1, .int a2]) hM (mG 986 (by decide +kernel) rfl) (mG 988 (by decide +kernel) rfl) (mG 32 (by decide +kernel) rfl) (mG 42 (by decide +kernel) rfl) (mG 989 (by decide +kernel) rfl) ⟨by decide +kernel, by decide +kernel, by decide +kernel⟩ rfl rfl hk rfl rfl rfl h8 hr d (fun _ _ h => h.elim) (fun v S' h => by obtain ⟨r, rfl, h⟩ := h; exact kk r S' h)
theorem cl_X6_149 {X : JX} {G : JG} {Q : State → Prop} {nL cs ss pc : Nat} {lv : List (Nat × Value)} {st : List Value} {S : HS} {cc : ByteArray} {ret : Option FieldType} {fr lo mc ms : Nat} {fr' lo' mc' ms' : Nat} {b : Nat} {a0 : Int32} {P : Int32 → HS → Prop} (hC : JC X G RX6 cc nL ret fr lo mc ms) (hM : Ct G yX6_no cX6_no 2 (some .int) fr' lo' mc' ms' [.ref b, .int a0] S (rI P) noX) (hk : hK S b = 17) (h8 : (st.map fun v => v.category).sum ≤ 8) (hr : rOK fr lo mc ms cs ss 2 fr' lo' mc' ms') (d : decode cc pc = .ok (.invokevirtual 149, 3)) (kk : ∀ (r : Int32) (S' : HS), P r S' → J X G Q nL (cs + mc') (ss + ms') (pc + 3) lv (.int r :: st) S') : J X G Q nL cs ss pc lv (.int a0 :: .ref b :: st) S := J_callV hC (r := (RX6, TX6, 26)) (n := 1) (ci := 7) (as := [.int a0]) hM (mG 862 (by decide +kernel) rfl) (mG 864 (by decide +kernel) rfl) (mG 19 (by decide +kernel) rfl) (mG 42 (by decide +kernel) rfl) (mG 865 (by decide +kernel) rfl) ⟨by decide +kernel, by decide +kernel, by decide +kernel⟩ rfl rfl hk rfl rfl rfl h8 hr d (fun _ _ h => h.elim) (fun v S' h => by obtain ⟨r, rfl, h⟩ := h; exact kk r S' h)
theorem cl_X6_152 {X : JX} {G : JG} {Q : State → Prop} {nL cs ss pc : Nat} {lv : List (Nat × Value)} {st : List Value} {S : HS} {cc : ByteArray} {ret : Option FieldType} {fr lo mc ms : Nat} {fr' lo' mc' ms' : Nat} {a0 : Int32} {a1 : Int32} {P : Int32 → HS → Prop} (hC : JC X G RX6 cc nL ret fr lo mc ms) (hM : Ct G yX6_isPoint cX6_isPoint 2 (some .boolean) fr' lo' mc' ms' [.int a0, .int a1] S (rI P) noX) (h8 : (st.map fun v => v.category).sum ≤ 8) (hr : rOK fr lo mc ms cs ss 2 fr' lo' mc' ms') (d : decode cc pc = .ok (.invokestatic 152, 3)) (kk : ∀ (r : Int32) (S' : HS), P r S' → J X G Q nL (cs + mc') (ss + ms') (pc + 3) lv (.int r :: st) S') : J X G Q nL cs ss pc lv (.int a1 :: .int a0 :: st) S := J_callS hC (n := 2) (as := [.int a0, .int a1]) hM (mG 874 (by decide +kernel) rfl) (mG 875 (by decide +kernel) rfl) (mG 42 (by decide +kernel) rfl) (mG 876 (by decide +kernel) rfl) ⟨by decide +kernel, by decide +kernel, by decide +kernel⟩ rfl rfl h8 hr d (fun _ _ h => h.elim) (fun v S' h => by obtain ⟨r, rfl, h⟩ := h; exact kk r S' h)
theorem cl_X6_156 {X : JX} {G : JG} {Q : State → Prop} {nL cs ss pc : Nat} {lv : List (Nat × Value)} {st : List Value} {S : HS} {cc : ByteArray} {ret : Option FieldType} {fr lo mc ms : Nat} {fr' lo' mc' ms' : Nat} {b : Nat} {a0 : Int32} {P : Int32 → HS → Prop} (hC : JC X G RX6 cc nL ret fr lo mc ms) (hM : Ct G yX6_isMinute cX6_isMinute 2 (some .boolean) fr' lo' mc' ms' [.ref b, .int a0] S (rI P) noX) (hk : hK S b = 17) (h8 : (st.map fun v => v.category).sum ≤ 8) (hr : rOK fr lo mc ms cs ss 2 fr' lo' mc' ms') (d : decode cc pc = .ok (.invokevirtual 156, 3)) (kk : ∀ (r : Int32) (S' : HS), P r S' → J X G Q nL (cs + mc') (ss + ms') (pc + 3) lv (.int r :: st) S') : J X G Q nL cs ss pc lv (.int a0 :: .ref b :: st) S := J_callV hC (r := (RX6, TX6, 26)) (n := 1) (ci := 7) (as := [.int a0]) hM (mG 886 (by decide +kernel) rfl) (mG 888 (by decide +kernel) rfl) (mG 21 (by decide +kernel) rfl) (mG 42 (by decide +kernel) rfl) (mG 889 (by decide +kernel) rfl) ⟨by decide +kernel, by decide +kernel, by decide +kernel⟩ rfl rfl hk rfl rfl rfl h8 hr d (fun _ _ h => h.elim) (fun v S' h => by obtain ⟨r, rfl, h⟩ := h; exact kk r S' h)
theorem cl_X6_162 {X : JX} {G : JG} {Q : State → Prop} {nL cs ss pc : Nat} {lv : List (Nat × Value)} {st : List Value} {S : HS} {cc : ByteArray} {ret : Option FieldType} {fr lo mc ms : Nat} {fr' lo' mc' ms' : Nat} {b : Nat} {a0 : Int32} {P : Int32 → HS → Prop} (hC : JC X G RX6 cc nL ret fr lo mc ms) (hM : Ct G yX6_isTarget cX6_isTarget 2 (some .boolean) fr' lo' mc' ms' [.ref b, .int a0] S (rI P) noX) (hk : hK S b = 17) (h8 : (st.map fun v => v.category).sum ≤ 8) (hr : rOK fr lo mc ms cs ss 2 fr' lo' mc' ms') (d : decode cc pc = .ok (.invokevirtual 162, 3)) (kk : ∀ (r : Int32) (S' : HS), P r S' → J X G Q nL (cs + mc') (ss + ms') (pc + 3) lv (.int r :: st) S') : J X G Q nL cs ss pc lv (.int a0 :: .ref b :: st) S := J_callV hC (r := (RX6, TX6, 26)) (n := 1) (ci := 7) (as := [.int a0]) hM (mG 909 (by decide +kernel) rfl) (mG 911 (by decide +kernel) rfl) (mG 22 (by decide +kernel) rfl) (mG 42 (by decide +kernel) rfl) (mG 912 (by decide +kernel) rfl) ⟨by decide +kernel, by decide +kernel, by decide +kernel⟩ rfl rfl hk rfl rfl rfl h8 hr d (fun _ _ h => h.elim) (fun v S' h => by obtain ⟨r, rfl, h⟩ := h; exact kk r S' h)
theorem cl_X6_165 {X : JX} {G : JG} {Q : State → Prop} {nL cs ss pc : Nat} {lv : List (Nat × Value)} {st : List Value} {S : HS} {cc : ByteArray} {ret : Option FieldType} {fr lo mc ms : Nat} {fr' lo' mc' ms' : Nat} {b : Nat} {a0 : Int32} {a1 : Int32} {P : Int32 → HS → Prop} (hC : JC X G RX6 cc nL ret fr lo mc ms) (hM : Ct G yX6_told cX6_told 4 (some .int) fr' lo' mc' ms' [.ref b, .int a0, .int a1] S (rI P) noX) (hk : hK S b = 17) (h8 : (st.map fun v => v.category).sum ≤ 8) (hr : rOK fr lo mc ms cs ss 4 fr' lo' mc' ms') (d : decode cc pc = .ok (.invokevirtual 165, 3)) (kk : ∀ (r : Int32) (S' : HS), P r S' → J X G Q nL (cs + mc') (ss + ms') (pc + 3) lv (.int r :: st) S') : J X G Q nL cs ss pc lv (.int a1 :: .int a0 :: .ref b :: st) S := J_callV hC (r := (RX6, TX6, 26)) (n := 2) (ci := 7) (as := [.int a0, .int a1]) hM (mG 917 (by decide +kernel) rfl) (mG 919 (by decide +kernel) rfl) (mG 23 (by decide +kernel) rfl) (mG 42 (by decide +kernel) rfl) (mG 920 (by decide +kernel) rfl) ⟨by decide +kernel, by decide +kernel, by decide +kernel⟩ rfl rfl hk rfl rfl rfl h8 hr d (fun _ _ h => h.elim) (fun v S' h => by obtain ⟨r, rfl, h⟩ := h; exact kk r S' h)
theorem cl_X6_168 {X : JX} {G : JG} {Q : State → Prop} {nL cs ss pc : Nat} {lv : List (Nat × Value)} {st : List Value} {S : HS} {cc : ByteArray} {ret : Option FieldType} {fr lo mc ms : Nat} {fr' lo' mc' ms' : Nat} {b : Nat}  {P : HS → Prop} (hC : JC X G RX6 cc nL ret fr lo mc ms) (hM : Ct G yX6_workOut cX6_workOut 4 none fr' lo' mc' ms' [.ref b] S (rV P) noX) (hk : hK S b = 17) (h8 : (st.map fun v => v.category).sum ≤ 8) (hr : rOK fr lo mc ms cs ss 4 fr' lo' mc' ms') (d : decode cc pc = .ok (.invokevirtual 168, 3)) (kk : ∀ S' : HS, P S' → J X G Q nL (cs + mc') (ss + ms') (pc + 3) lv st S') : J X G Q nL cs ss pc lv (.ref b :: st) S := J_callV hC (r := (RX6, TX6, 26)) (n := 0) (ci := 7) (as := []) hM (mG 974 (by decide +kernel) rfl) (mG 976 (by decide +kernel) rfl) (mG 29 (by decide +kernel) rfl) (mG 42 (by decide +kernel) rfl) (mG 977 (by decide +kernel) rfl) ⟨by decide +kernel, by decide +kernel, by decide +kernel⟩ rfl rfl hk rfl rfl rfl h8 hr d (fun _ _ h => h.elim) (fun v S' h => by obtain ⟨rfl, h⟩ := h; exact kk S' h)
theorem cl_X6_171 {X : JX} {G : JG} {Q : State → Prop} {nL cs ss pc : Nat} {lv : List (Nat × Value)} {st : List Value} {S : HS} {cc : ByteArray} {ret : Option FieldType} {fr lo mc ms : Nat} {fr' lo' mc' ms' : Nat} {b : Nat} {a0 : Int32} {a1 : Int32} {P : Int32 → HS → Prop} (hC : JC X G RX6 cc nL ret fr lo mc ms) (hM : Ct G yX6_windowOf cX6_windowOf 10 (some .int) fr' lo' mc' ms' [.ref b, .int a0, .int a1] S (rI P) noX) (hk : hK S b = 17) (h8 : (st.map fun v => v.category).sum ≤ 8) (hr : rOK fr lo mc ms cs ss 10 fr' lo' mc' ms') (d : decode cc pc = .ok (.invokevirtual 171, 3)) (kk : ∀ (r : Int32) (S' : HS), P r S' → J X G Q nL (cs + mc') (ss + ms') (pc + 3) lv (.int r :: st) S') : J X G Q nL cs ss pc lv (.int a1 :: .int a0 :: .ref b :: st) S := J_callV hC (r := (RX6, TX6, 26)) (n := 2) (ci := 7) (as := [.int a0, .int a1]) hM (mG 970 (by decide +kernel) rfl) (mG 972 (by decide +kernel) rfl) (mG 28 (by decide +kernel) rfl) (mG 42 (by decide +kernel) rfl) (mG 973 (by decide +kernel) rfl) ⟨by decide +kernel, by decide +kernel, by decide +kernel⟩ rfl rfl hk rfl rfl rfl h8 hr d (fun _ _ h => h.elim) (fun v S' h => by obtain ⟨r, rfl, h⟩ := h; exact kk r S' h)
theorem cl_X6_174 {X : JX} {G : JG} {Q : State → Prop} {nL cs ss pc : Nat} {lv : List (Nat × Value)} {st : List Value} {S : HS} {cc : ByteArray} {ret : Option FieldType} {fr lo mc ms : Nat} {fr' lo' mc' ms' : Nat} {b : Nat}  {P : HS → Prop} (hC : JC X G RX6 cc nL ret fr lo mc ms) (hM : Ct G yX6_nextNight cX6_nextNight 2 none fr' lo' mc' ms' [.ref b] S (rV P) noX) (hk : hK S b = 17) (h8 : (st.map fun v => v.category).sum ≤ 8) (hr : rOK fr lo mc ms cs ss 2 fr' lo' mc' ms') (d : decode cc pc = .ok (.invokevirtual 174, 3)) (kk : ∀ S' : HS, P S' → J X G Q nL (cs + mc') (ss + ms') (pc + 3) lv st S') : J X G Q nL cs ss pc lv (.ref b :: st) S := J_callV hC (r := (RX6, TX6, 26)) (n := 0) (ci := 7) (as := []) hM (mG 1015 (by decide +kernel) rfl) (mG 1017 (by decide +kernel) rfl) (mG 33 (by decide +kernel) rfl) (mG 42 (by decide +kernel) rfl) (mG 1018 (by decide +kernel) rfl) ⟨by decide +kernel, by decide +kernel, by decide +kernel⟩ rfl rfl hk rfl rfl rfl h8 hr d (fun _ _ h => h.elim) (fun v S' h => by obtain ⟨rfl, h⟩ := h; exact kk S' h)
theorem cl_Jxc12de_1 {X : JX} {G : JG} {Q : State → Prop} {nL cs ss pc : Nat} {lv : List (Nat × Value)} {st : List Value} {S : HS} {cc : ByteArray} {ret : Option FieldType} {fr lo mc ms : Nat} {fr' lo' mc' ms' : Nat} {b : Nat}  {P : HS → Prop} (hC : JC X G RJxc12de cc nL ret fr lo mc ms) (hM : Ct G yJxa1e45_init_da8c8 cJxa1e45_init_da8c8 1 none fr' lo' mc' ms' [.ref b] S (rV P) noX) (h8 : (st.map fun v => v.category).sum ≤ 8) (hr : rOK fr lo mc ms cs ss 1 fr' lo' mc' ms') (d : decode cc pc = .ok (.invokespecial 1, 3)) (kk : ∀ S' : HS, P S' → J X G Q nL (cs + mc') (ss + ms') (pc + 3) lv st S') : J X G Q nL cs ss pc lv (.ref b :: st) S := J_callI hC (n := 0) (as := []) hM (mG 120 (by decide +kernel) rfl) (mG 121 (by decide +kernel) rfl) (mG 38 (by decide +kernel) rfl) (mG 122 (by decide +kernel) rfl) ⟨by decide +kernel, by decide +kernel, by decide +kernel⟩ rfl rfl rfl h8 hr d (fun v S' h => by obtain ⟨rfl, h⟩ := h; exact kk S' h)
theorem cl_Jx4a65c_1 {X : JX} {G : JG} {Q : State → Prop} {nL cs ss pc : Nat} {lv : List (Nat × Value)} {st : List Value} {S : HS} {cc : ByteArray} {ret : Option FieldType} {fr lo mc ms : Nat} {fr' lo' mc' ms' : Nat} {b : Nat}  {P : HS → Prop} (hC : JC X G RJx4a65c cc nL ret fr lo mc ms) (hM : Ct G yJxc12de_init_da8c8 cJxc12de_init_da8c8 1 none fr' lo' mc' ms' [.ref b] S (rV P) noX) (h8 : (st.map fun v => v.category).sum ≤ 8) (hr : rOK fr lo mc ms cs ss 1 fr' lo' mc' ms') (d : decode cc pc = .ok (.invokespecial 1, 3)) (kk : ∀ S' : HS, P S' → J X G Q nL (cs + mc') (ss + ms') (pc + 3) lv st S') : J X G Q nL cs ss pc lv (.ref b :: st) S := J_callI hC (n := 0) (as := []) hM (mG 117 (by decide +kernel) rfl) (mG 118 (by decide +kernel) rfl) (mG 39 (by decide +kernel) rfl) (mG 119 (by decide +kernel) rfl) ⟨by decide +kernel, by decide +kernel, by decide +kernel⟩ rfl rfl rfl h8 hr d (fun v S' h => by obtain ⟨rfl, h⟩ := h; exact kk S' h)
theorem cl_Jx4a65c_66 {X : JX} {G : JG} {Q : State → Prop} {nL cs ss pc : Nat} {lv : List (Nat × Value)} {st : List Value} {S : HS} {cc : ByteArray} {ret : Option FieldType} {fr lo mc ms : Nat} {fr' lo' mc' ms' : Nat} {a0 : Nat} {a1 : Int32} {P : Nat → HS → Prop} (hC : JC X G RJx4a65c cc nL ret fr lo mc ms) (hM : Ct G yJ7_copyOf_1904c cJ7_copyOf_1904c 2 (some (FieldType.array (FieldType.object "java/lang/Object"))) fr' lo' mc' ms' [.ref a0, .int a1] S (rA P) noX) (h8 : (st.map fun v => v.category).sum ≤ 8) (hr : rOK fr lo mc ms cs ss 2 fr' lo' mc' ms') (d : decode cc pc = .ok (.invokestatic 66, 3)) (kk : ∀ (r : Nat) (S' : HS), P r S' → J X G Q nL (cs + mc') (ss + ms') (pc + 3) lv (.ref r :: st) S') : J X G Q nL cs ss pc lv (.int a1 :: .ref a0 :: st) S := J_callS hC (n := 2) (as := [.ref a0, .int a1]) hM (mG 596 (by decide +kernel) rfl) (mG 597 (by decide +kernel) rfl) (mG 54 (by decide +kernel) rfl) (mG 598 (by decide +kernel) rfl) ⟨by decide +kernel, by decide +kernel, by decide +kernel⟩ rfl rfl h8 hr d (fun _ _ h => h.elim) (fun v S' h => by obtain ⟨r, rfl, h⟩ := h; exact kk r S' h)
theorem cl_Jx4a65c_69 {X : JX} {G : JG} {Q : State → Prop} {nL cs ss pc : Nat} {lv : List (Nat × Value)} {st : List Value} {S : HS} {cc : ByteArray} {ret : Option FieldType} {fr lo mc ms : Nat} {fr' lo' mc' ms' : Nat} {b : Nat} {a0 : Int32} {P : Nat → HS → Prop} (hC : JC X G RJx4a65c cc nL ret fr lo mc ms) (hM : Ct G yJx4a65c_grow_92f84 cJx4a65c_grow_92f84 4 (some (FieldType.array (FieldType.object "java/lang/Object"))) fr' lo' mc' ms' [.ref b, .int a0] S (rA P) noX) (hk : hK S b = 1) (h8 : (st.map fun v => v.category).sum ≤ 8) (hr : rOK fr lo mc ms cs ss 4 fr' lo' mc' ms') (d : decode cc pc = .ok (.invokevirtual 69, 3)) (kk : ∀ (r : Nat) (S' : HS), P r S' → J X G Q nL (cs + mc') (ss + ms') (pc + 3) lv (.ref r :: st) S') : J X G Q nL cs ss pc lv (.int a0 :: .ref b :: st) S := J_callV hC (r := (RJx4a65c, TJx4a65c, 3)) (n := 1) (ci := 0) (as := [.int a0]) hM (mG 584 (by decide +kernel) rfl) (mG 586 (by decide +kernel) rfl) (mG 14 (by decide +kernel) rfl) (mG 40 (by decide +kernel) rfl) (mG 587 (by decide +kernel) rfl) ⟨by decide +kernel, by decide +kernel, by decide +kernel⟩ rfl rfl hk rfl rfl rfl h8 hr d (fun _ _ h => h.elim) (fun v S' h => by obtain ⟨r, rfl, h⟩ := h; exact kk r S' h)
theorem cl_Jx4a65c_73 {X : JX} {G : JG} {Q : State → Prop} {nL cs ss pc : Nat} {lv : List (Nat × Value)} {st : List Value} {S : HS} {cc : ByteArray} {ret : Option FieldType} {fr lo mc ms : Nat} {fr' lo' mc' ms' : Nat} {a0 : Int32} {a1 : Int32} {a2 : Int32} {P : Int32 → HS → Prop} (hC : JC X G RJx4a65c cc nL ret fr lo mc ms) (hM : Ct G yJ8_newLength_cabcc cJ8_newLength_cabcc 4 (some .int) fr' lo' mc' ms' [.int a0, .int a1, .int a2] S (rI P) noX) (h8 : (st.map fun v => v.category).sum ≤ 8) (hr : rOK fr lo mc ms cs ss 4 fr' lo' mc' ms') (d : decode cc pc = .ok (.invokestatic 73, 3)) (kk : ∀ (r : Int32) (S' : HS), P r S' → J X G Q nL (cs + mc') (ss + ms') (pc + 3) lv (.int r :: st) S') : J X G Q nL cs ss pc lv (.int a2 :: .int a1 :: .int a0 :: st) S := J_callS hC (n := 3) (as := [.int a0, .int a1, .int a2]) hM (mG 588 (by decide +kernel) rfl) (mG 589 (by decide +kernel) rfl) (mG 53 (by decide +kernel) rfl) (mG 590 (by decide +kernel) rfl) ⟨by decide +kernel, by decide +kernel, by decide +kernel⟩ rfl rfl h8 hr d (fun _ _ h => h.elim) (fun v S' h => by obtain ⟨r, rfl, h⟩ := h; exact kk r S' h)
theorem cl_Jx4a65c_79 {X : JX} {G : JG} {Q : State → Prop} {nL cs ss pc : Nat} {lv : List (Nat × Value)} {st : List Value} {S : HS} {cc : ByteArray} {ret : Option FieldType} {fr lo mc ms : Nat} {fr' lo' mc' ms' : Nat} {a0 : Int32} {a1 : Int32} {P : Int32 → HS → Prop} (hC : JC X G RJx4a65c cc nL ret fr lo mc ms) (hM : Ct G yJ9_max_7cf53 cJ9_max_7cf53 2 (some .int) fr' lo' mc' ms' [.int a0, .int a1] S (rI P) noX) (h8 : (st.map fun v => v.category).sum ≤ 8) (hr : rOK fr lo mc ms cs ss 2 fr' lo' mc' ms') (d : decode cc pc = .ok (.invokestatic 79, 3)) (kk : ∀ (r : Int32) (S' : HS), P r S' → J X G Q nL (cs + mc') (ss + ms') (pc + 3) lv (.int r :: st) S') : J X G Q nL cs ss pc lv (.int a1 :: .int a0 :: st) S := J_callS hC (n := 2) (as := [.int a0, .int a1]) hM (mG 626 (by decide +kernel) rfl) (mG 294 (by decide +kernel) rfl) (mG 49 (by decide +kernel) rfl) (mG 295 (by decide +kernel) rfl) ⟨by decide +kernel, by decide +kernel, by decide +kernel⟩ rfl rfl h8 hr d (fun _ _ h => h.elim) (fun v S' h => by obtain ⟨r, rfl, h⟩ := h; exact kk r S' h)
theorem cl_Jx4a65c_118 {X : JX} {G : JG} {Q : State → Prop} {nL cs ss pc : Nat} {lv : List (Nat × Value)} {st : List Value} {S : HS} {cc : ByteArray} {ret : Option FieldType} {fr lo mc ms : Nat} {fr' lo' mc' ms' : Nat} {a0 : Int32} {a1 : Int32} {P : Int32 → HS → Prop} (hC : JC X G RJx4a65c cc nL ret fr lo mc ms) (hM : Ct G yJ15_checkIndex_7cf53 cJ15_checkIndex_7cf53 2 (some .int) fr' lo' mc' ms' [.int a0, .int a1] S (rI P) noX) (h8 : (st.map fun v => v.category).sum ≤ 8) (hr : rOK fr lo mc ms cs ss 2 fr' lo' mc' ms') (d : decode cc pc = .ok (.invokestatic 118, 3)) (kk : ∀ (r : Int32) (S' : HS), P r S' → J X G Q nL (cs + mc') (ss + ms') (pc + 3) lv (.int r :: st) S') : J X G Q nL cs ss pc lv (.int a1 :: .int a0 :: st) S := J_callS hC (n := 2) (as := [.int a0, .int a1]) hM (mG 210 (by decide +kernel) rfl) (mG 211 (by decide +kernel) rfl) (mG 47 (by decide +kernel) rfl) (mG 212 (by decide +kernel) rfl) ⟨by decide +kernel, by decide +kernel, by decide +kernel⟩ rfl rfl h8 hr d (fun _ _ h => h.elim) (fun v S' h => by obtain ⟨r, rfl, h⟩ := h; exact kk r S' h)
theorem cl_Jx4a65c_123 {X : JX} {G : JG} {Q : State → Prop} {nL cs ss pc : Nat} {lv : List (Nat × Value)} {st : List Value} {S : HS} {cc : ByteArray} {ret : Option FieldType} {fr lo mc ms : Nat} {fr' lo' mc' ms' : Nat} {b : Nat} {a0 : Int32} {P : Nat → HS → Prop} (hC : JC X G RJx4a65c cc nL ret fr lo mc ms) (hM : Ct G yJx4a65c_elementData_915e3 cJx4a65c_elementData_915e3 2 (some (FieldType.object "java/lang/Object")) fr' lo' mc' ms' [.ref b, .int a0] S (rA P) noX) (hk : hK S b = 1) (h8 : (st.map fun v => v.category).sum ≤ 8) (hr : rOK fr lo mc ms cs ss 2 fr' lo' mc' ms') (d : decode cc pc = .ok (.invokevirtual 123, 3)) (kk : ∀ (r : Nat) (S' : HS), P r S' → J X G Q nL (cs + mc') (ss + ms') (pc + 3) lv (.ref r :: st) S') : J X G Q nL cs ss pc lv (.int a0 :: .ref b :: st) S := J_callV hC (r := (RJx4a65c, TJx4a65c, 3)) (n := 1) (ci := 0) (as := [.int a0]) hM (mG 216 (by decide +kernel) rfl) (mG 217 (by decide +kernel) rfl) (mG 218 (by decide +kernel) rfl) (mG 40 (by decide +kernel) rfl) (mG 219 (by decide +kernel) rfl) ⟨by decide +kernel, by decide +kernel, by decide +kernel⟩ rfl rfl hk rfl rfl rfl h8 hr d (fun _ _ h => h.elim) (fun v S' h => by obtain ⟨r, rfl, h⟩ := h; exact kk r S' h)
theorem cl_Jx4a65c_129 {X : JX} {G : JG} {Q : State → Prop} {nL cs ss pc : Nat} {lv : List (Nat × Value)} {st : List Value} {S : HS} {cc : ByteArray} {ret : Option FieldType} {fr lo mc ms : Nat} {fr' lo' mc' ms' : Nat} {b : Nat}  {P : Nat → HS → Prop} (hC : JC X G RJx4a65c cc nL ret fr lo mc ms) (hM : Ct G yJx4a65c_grow_d5877 cJx4a65c_grow_d5877 1 (some (FieldType.array (FieldType.object "java/lang/Object"))) fr' lo' mc' ms' [.ref b] S (rA P) noX) (hk : hK S b = 1) (h8 : (st.map fun v => v.category).sum ≤ 8) (hr : rOK fr lo mc ms cs ss 1 fr' lo' mc' ms') (d : decode cc pc = .ok (.invokevirtual 129, 3)) (kk : ∀ (r : Nat) (S' : HS), P r S' → J X G Q nL (cs + mc') (ss + ms') (pc + 3) lv (.ref r :: st) S') : J X G Q nL cs ss pc lv (.ref b :: st) S := J_callV hC (r := (RJx4a65c, TJx4a65c, 3)) (n := 0) (ci := 0) (as := []) hM (mG 580 (by decide +kernel) rfl) (mG 582 (by decide +kernel) rfl) (mG 13 (by decide +kernel) rfl) (mG 40 (by decide +kernel) rfl) (mG 583 (by decide +kernel) rfl) ⟨by decide +kernel, by decide +kernel, by decide +kernel⟩ rfl rfl hk rfl rfl rfl h8 hr d (fun _ _ h => h.elim) (fun v S' h => by obtain ⟨r, rfl, h⟩ := h; exact kk r S' h)
theorem cl_Jx4a65c_131 {X : JX} {G : JG} {Q : State → Prop} {nL cs ss pc : Nat} {lv : List (Nat × Value)} {st : List Value} {S : HS} {cc : ByteArray} {ret : Option FieldType} {fr lo mc ms : Nat} {fr' lo' mc' ms' : Nat} {b : Nat} {a0 : Nat} {a1 : Nat} {a2 : Int32} {P : HS → Prop} (hC : JC X G RJx4a65c cc nL ret fr lo mc ms) (hM : Ct G yJx4a65c_add_72be8 cJx4a65c_add_72be8 4 none fr' lo' mc' ms' [.ref b, .ref a0, .ref a1, .int a2] S (rV P) noX) (hk : hK S b = 1) (h8 : (st.map fun v => v.category).sum ≤ 8) (hr : rOK fr lo mc ms cs ss 4 fr' lo' mc' ms') (d : decode cc pc = .ok (.invokevirtual 131, 3)) (kk : ∀ S' : HS, P S' → J X G Q nL (cs + mc') (ss + ms') (pc + 3) lv st S') : J X G Q nL cs ss pc lv (.int a2 :: .ref a1 :: .ref a0 :: .ref b :: st) S := J_callV hC (r := (RJx4a65c, TJx4a65c, 3)) (n := 3) (ci := 0) (as := [.ref a0, .ref a1, .int a2]) hM (mG 576 (by decide +kernel) rfl) (mG 578 (by decide +kernel) rfl) (mG 12 (by decide +kernel) rfl) (mG 40 (by decide +kernel) rfl) (mG 579 (by decide +kernel) rfl) ⟨by decide +kernel, by decide +kernel, by decide +kernel⟩ rfl rfl hk rfl rfl rfl h8 hr d (fun _ _ h => h.elim) (fun v S' h => by obtain ⟨rfl, h⟩ := h; exact kk S' h)
theorem cl_J7_300 {X : JX} {G : JG} {Q : State → Prop} {nL cs ss pc : Nat} {lv : List (Nat × Value)} {st : List Value} {S : HS} {cc : ByteArray} {ret : Option FieldType} {fr lo mc ms : Nat} {fr' lo' mc' ms' : Nat} {a0 : Nat} {a1 : Int32} {a2 : Nat} {P : Nat → HS → Prop} (hC : JC X G RJ7 cc nL ret fr lo mc ms) (hM : Ct G yJ7_copyOf_6403c cJ7_copyOf_6403c 4 (some (FieldType.array (FieldType.object "java/lang/Object"))) fr' lo' mc' ms' [.ref a0, .int a1, .ref a2] S (rA P) noX) (h8 : (st.map fun v => v.category).sum ≤ 8) (hr : rOK fr lo mc ms cs ss 4 fr' lo' mc' ms') (d : decode cc pc = .ok (.invokestatic 300, 3)) (kk : ∀ (r : Nat) (S' : HS), P r S' → J X G Q nL (cs + mc') (ss + ms') (pc + 3) lv (.ref r :: st) S') : J X G Q nL cs ss pc lv (.ref a2 :: .int a1 :: .ref a0 :: st) S := J_callS hC (n := 3) (as := [.ref a0, .int a1, .ref a2]) hM (mG 614 (by decide +kernel) rfl) (mG 615 (by decide +kernel) rfl) (mG 54 (by decide +kernel) rfl) (mG 616 (by decide +kernel) rfl) ⟨by decide +kernel, by decide +kernel, by decide +kernel⟩ rfl rfl h8 hr d (fun _ _ h => h.elim) (fun v S' h => by obtain ⟨r, rfl, h⟩ := h; exact kk r S' h)
theorem cl_J7_304 {X : JX} {G : JG} {Q : State → Prop} {nL cs ss pc : Nat} {lv : List (Nat × Value)} {st : List Value} {S : HS} {cc : ByteArray} {ret : Option FieldType} {fr lo mc ms : Nat} {fr' lo' mc' ms' : Nat} {a0 : Int32} {a1 : Int32} {P : Int32 → HS → Prop} (hC : JC X G RJ7 cc nL ret fr lo mc ms) (hM : Ct G yJ9_min_7cf53 cJ9_min_7cf53 2 (some .int) fr' lo' mc' ms' [.int a0, .int a1] S (rI P) noX) (h8 : (st.map fun v => v.category).sum ≤ 8) (hr : rOK fr lo mc ms cs ss 2 fr' lo' mc' ms') (d : decode cc pc = .ok (.invokestatic 304, 3)) (kk : ∀ (r : Int32) (S' : HS), P r S' → J X G Q nL (cs + mc') (ss + ms') (pc + 3) lv (.int r :: st) S') : J X G Q nL cs ss pc lv (.int a1 :: .int a0 :: st) S := J_callS hC (n := 2) (as := [.int a0, .int a1]) hM (mG 620 (by decide +kernel) rfl) (mG 621 (by decide +kernel) rfl) (mG 49 (by decide +kernel) rfl) (mG 622 (by decide +kernel) rfl) ⟨by decide +kernel, by decide +kernel, by decide +kernel⟩ rfl rfl h8 hr d (fun _ _ h => h.elim) (fun v S' h => by obtain ⟨r, rfl, h⟩ := h; exact kk r S' h)
theorem cl_J15_105 {X : JX} {G : JG} {Q : State → Prop} {nL cs ss pc : Nat} {lv : List (Nat × Value)} {st : List Value} {S : HS} {cc : ByteArray} {ret : Option FieldType} {fr lo mc ms : Nat} {fr' lo' mc' ms' : Nat} {a0 : Int32} {a1 : Int32} {a2 : Nat} {P : Int32 → HS → Prop} (hC : JC X G RJ15 cc nL ret fr lo mc ms) (hM : Ct G yJ3_checkIndex_8e157 cJ3_checkIndex_8e157 3 (some .int) fr' lo' mc' ms' [.int a0, .int a1, .ref a2] S (rI P) noX) (h8 : (st.map fun v => v.category).sum ≤ 8) (hr : rOK fr lo mc ms cs ss 3 fr' lo' mc' ms') (d : decode cc pc = .ok (.invokestatic 105, 3)) (kk : ∀ (r : Int32) (S' : HS), P r S' → J X G Q nL (cs + mc') (ss + ms') (pc + 3) lv (.int r :: st) S') : J X G Q nL cs ss pc lv (.ref a2 :: .int a1 :: .int a0 :: st) S := J_callS hC (n := 3) (as := [.int a0, .int a1, .ref a2]) hM (mG 213 (by decide +kernel) rfl) (mG 214 (by decide +kernel) rfl) (mG 48 (by decide +kernel) rfl) (mG 215 (by decide +kernel) rfl) ⟨by decide +kernel, by decide +kernel, by decide +kernel⟩ rfl rfl h8 hr d (fun _ _ h => h.elim) (fun v S' h => by obtain ⟨r, rfl, h⟩ := h; exact kk r S' h)
theorem cl_J8_194 {X : JX} {G : JG} {Q : State → Prop} {nL cs ss pc : Nat} {lv : List (Nat × Value)} {st : List Value} {S : HS} {cc : ByteArray} {ret : Option FieldType} {fr lo mc ms : Nat} {fr' lo' mc' ms' : Nat} {a0 : Int32} {a1 : Int32} {P : Int32 → HS → Prop} (hC : JC X G RJ8 cc nL ret fr lo mc ms) (hM : Ct G yJ9_max_7cf53 cJ9_max_7cf53 2 (some .int) fr' lo' mc' ms' [.int a0, .int a1] S (rI P) noX) (h8 : (st.map fun v => v.category).sum ≤ 8) (hr : rOK fr lo mc ms cs ss 2 fr' lo' mc' ms') (d : decode cc pc = .ok (.invokestatic 194, 3)) (kk : ∀ (r : Int32) (S' : HS), P r S' → J X G Q nL (cs + mc') (ss + ms') (pc + 3) lv (.int r :: st) S') : J X G Q nL cs ss pc lv (.int a1 :: .int a0 :: st) S := J_callS hC (n := 2) (as := [.int a0, .int a1]) hM (mG 591 (by decide +kernel) rfl) (mG 294 (by decide +kernel) rfl) (mG 49 (by decide +kernel) rfl) (mG 295 (by decide +kernel) rfl) ⟨by decide +kernel, by decide +kernel, by decide +kernel⟩ rfl rfl h8 hr d (fun _ _ h => h.elim) (fun v S' h => by obtain ⟨r, rfl, h⟩ := h; exact kk r S' h)
theorem cl_J8_201 {X : JX} {G : JG} {Q : State → Prop} {nL cs ss pc : Nat} {lv : List (Nat × Value)} {st : List Value} {S : HS} {cc : ByteArray} {ret : Option FieldType} {fr lo mc ms : Nat} {fr' lo' mc' ms' : Nat} {a0 : Int32} {a1 : Int32} {P : Int32 → HS → Prop} (hC : JC X G RJ8 cc nL ret fr lo mc ms) (hM : Ct G yJ8_hugeLength_7cf53 cJ8_hugeLength_7cf53 3 (some .int) fr' lo' mc' ms' [.int a0, .int a1] S (rI P) noX) (h8 : (st.map fun v => v.category).sum ≤ 8) (hr : rOK fr lo mc ms cs ss 3 fr' lo' mc' ms') (d : decode cc pc = .ok (.invokestatic 201, 3)) (kk : ∀ (r : Int32) (S' : HS), P r S' → J X G Q nL (cs + mc') (ss + ms') (pc + 3) lv (.int r :: st) S') : J X G Q nL cs ss pc lv (.int a1 :: .int a0 :: st) S := J_callS hC (n := 2) (as := [.int a0, .int a1]) hM (mG 593 (by decide +kernel) rfl) (mG 594 (by decide +kernel) rfl) (mG 53 (by decide +kernel) rfl) (mG 595 (by decide +kernel) rfl) ⟨by decide +kernel, by decide +kernel, by decide +kernel⟩ rfl rfl h8 hr d (fun _ _ h => h.elim) (fun v S' h => by obtain ⟨r, rfl, h⟩ := h; exact kk r S' h)
theorem oi_X5_3 {X : JX} {G : JG} {Q : State → Prop} {nL cs ss pc : Nat} {lv : List (Nat × Value)} {st : List Value} {S : HS} {cc : ByteArray} {ret : Option FieldType} {fr lo mc ms : Nat} {a : Nat} (hC : JC X G RX5 cc nL ret fr lo mc ms) (hf : 1 ≤ fr) (hlo : (st.map fun v => v.category).sum + 12 ≤ lo) (d : decode cc pc = .ok (.invokespecial 3, 3)) (k : J X G Q nL cs ss (pc + 3) lv st S) : J X G Q nL cs ss pc lv (.ref a :: st) S := J_objInit hC (mG 62 (by decide +kernel) rfl) (mG 63 (by decide +kernel) rfl) (mG 64 (by decide +kernel) rfl) hf hlo d k
theorem oi_X0_3 {X : JX} {G : JG} {Q : State → Prop} {nL cs ss pc : Nat} {lv : List (Nat × Value)} {st : List Value} {S : HS} {cc : ByteArray} {ret : Option FieldType} {fr lo mc ms : Nat} {a : Nat} (hC : JC X G RX0 cc nL ret fr lo mc ms) (hf : 1 ≤ fr) (hlo : (st.map fun v => v.category).sum + 12 ≤ lo) (d : decode cc pc = .ok (.invokespecial 3, 3)) (k : J X G Q nL cs ss (pc + 3) lv st S) : J X G Q nL cs ss pc lv (.ref a :: st) S := J_objInit hC (mG 99 (by decide +kernel) rfl) (mG 63 (by decide +kernel) rfl) (mG 64 (by decide +kernel) rfl) hf hlo d k
theorem oi_X1_3 {X : JX} {G : JG} {Q : State → Prop} {nL cs ss pc : Nat} {lv : List (Nat × Value)} {st : List Value} {S : HS} {cc : ByteArray} {ret : Option FieldType} {fr lo mc ms : Nat} {a : Nat} (hC : JC X G RX1 cc nL ret fr lo mc ms) (hf : 1 ≤ fr) (hlo : (st.map fun v => v.category).sum + 12 ≤ lo) (d : decode cc pc = .ok (.invokespecial 3, 3)) (k : J X G Q nL cs ss (pc + 3) lv st S) : J X G Q nL cs ss pc lv (.ref a :: st) S := J_objInit hC (mG 495 (by decide +kernel) rfl) (mG 63 (by decide +kernel) rfl) (mG 64 (by decide +kernel) rfl) hf hlo d k
theorem oi_X2_3 {X : JX} {G : JG} {Q : State → Prop} {nL cs ss pc : Nat} {lv : List (Nat × Value)} {st : List Value} {S : HS} {cc : ByteArray} {ret : Option FieldType} {fr lo mc ms : Nat} {a : Nat} (hC : JC X G RX2 cc nL ret fr lo mc ms) (hf : 1 ≤ fr) (hlo : (st.map fun v => v.category).sum + 12 ≤ lo) (d : decode cc pc = .ok (.invokespecial 3, 3)) (k : J X G Q nL cs ss (pc + 3) lv st S) : J X G Q nL cs ss pc lv (.ref a :: st) S := J_objInit hC (mG 143 (by decide +kernel) rfl) (mG 63 (by decide +kernel) rfl) (mG 64 (by decide +kernel) rfl) hf hlo d k
theorem oi_X3_1 {X : JX} {G : JG} {Q : State → Prop} {nL cs ss pc : Nat} {lv : List (Nat × Value)} {st : List Value} {S : HS} {cc : ByteArray} {ret : Option FieldType} {fr lo mc ms : Nat} {a : Nat} (hC : JC X G RX3 cc nL ret fr lo mc ms) (hf : 1 ≤ fr) (hlo : (st.map fun v => v.category).sum + 12 ≤ lo) (d : decode cc pc = .ok (.invokespecial 1, 3)) (k : J X G Q nL cs ss (pc + 3) lv st S) : J X G Q nL cs ss pc lv (.ref a :: st) S := J_objInit hC (mG 70 (by decide +kernel) rfl) (mG 63 (by decide +kernel) rfl) (mG 64 (by decide +kernel) rfl) hf hlo d k
theorem oi_X4_1 {X : JX} {G : JG} {Q : State → Prop} {nL cs ss pc : Nat} {lv : List (Nat × Value)} {st : List Value} {S : HS} {cc : ByteArray} {ret : Option FieldType} {fr lo mc ms : Nat} {a : Nat} (hC : JC X G RX4 cc nL ret fr lo mc ms) (hf : 1 ≤ fr) (hlo : (st.map fun v => v.category).sum + 12 ≤ lo) (d : decode cc pc = .ok (.invokespecial 1, 3)) (k : J X G Q nL cs ss (pc + 3) lv st S) : J X G Q nL cs ss pc lv (.ref a :: st) S := J_objInit hC (mG 489 (by decide +kernel) rfl) (mG 63 (by decide +kernel) rfl) (mG 64 (by decide +kernel) rfl) hf hlo d k
theorem oi_X6_1 {X : JX} {G : JG} {Q : State → Prop} {nL cs ss pc : Nat} {lv : List (Nat × Value)} {st : List Value} {S : HS} {cc : ByteArray} {ret : Option FieldType} {fr lo mc ms : Nat} {a : Nat} (hC : JC X G RX6 cc nL ret fr lo mc ms) (hf : 1 ≤ fr) (hlo : (st.map fun v => v.category).sum + 12 ≤ lo) (d : decode cc pc = .ok (.invokespecial 1, 3)) (k : J X G Q nL cs ss (pc + 3) lv st S) : J X G Q nL cs ss pc lv (.ref a :: st) S := J_objInit hC (mG 770 (by decide +kernel) rfl) (mG 63 (by decide +kernel) rfl) (mG 64 (by decide +kernel) rfl) hf hlo d k
theorem oi_Jxa1e45_1 {X : JX} {G : JG} {Q : State → Prop} {nL cs ss pc : Nat} {lv : List (Nat × Value)} {st : List Value} {S : HS} {cc : ByteArray} {ret : Option FieldType} {fr lo mc ms : Nat} {a : Nat} (hC : JC X G RJxa1e45 cc nL ret fr lo mc ms) (hf : 1 ≤ fr) (hlo : (st.map fun v => v.category).sum + 12 ≤ lo) (d : decode cc pc = .ok (.invokespecial 1, 3)) (k : J X G Q nL cs ss (pc + 3) lv st S) : J X G Q nL cs ss pc lv (.ref a :: st) S := J_objInit hC (mG 123 (by decide +kernel) rfl) (mG 63 (by decide +kernel) rfl) (mG 64 (by decide +kernel) rfl) hf hlo d k
theorem nw_X5_9 {X : JX} {G : JG} {Q : State → Prop} {nL cs ss pc : Nat} {lv : List (Nat × Value)} {st : List Value} {S : HS} {cc : ByteArray} {ret : Option FieldType} {fr lo mc ms : Nat} (hC : JC X G RX5 cc nL ret fr lo mc ms) (h1 : cs + 1 ≤ mc) (h2 : ss + 4 ≤ ms) (d : decode cc pc = .ok (.new 9, 3)) (kk : ∀ q : Nat, hK S q = 0 → J X G Q nL (cs + 1) (ss + 4) (pc + 3) lv (.ref q :: st) (sNew S q 5 0)) : J X G Q nL cs ss pc lv st S := J_new hC inwX3 tyX3 tyX3_ok (ci := 4) rfl (mG 65 (by decide +kernel) rfl) (mG 66 (by decide +kernel) rfl) (mG 36 (by decide +kernel) rfl) 5 (fs := [.int 0, .int 0, .int 0, .int 0]) (fun j hj => by rcases (show j = 0 ∨ j = 1 ∨ j = 2 ∨ j = 3 by omega) with rfl | rfl | rfl | rfl <;> rfl) (fun q => by simp [hsh, hI_sNew, hP_sNew, va_rf]) h1 h2 d kk
theorem nw_X5_27 {X : JX} {G : JG} {Q : State → Prop} {nL cs ss pc : Nat} {lv : List (Nat × Value)} {st : List Value} {S : HS} {cc : ByteArray} {ret : Option FieldType} {fr lo mc ms : Nat} (hC : JC X G RX5 cc nL ret fr lo mc ms) (h1 : cs + 1 ≤ mc) (h2 : ss + 3 ≤ ms) (d : decode cc pc = .ok (.new 27, 3)) (kk : ∀ q : Nat, hK S q = 0 → J X G Q nL (cs + 1) (ss + 3) (pc + 3) lv (.ref q :: st) (sNew S q 2 0)) : J X G Q nL cs ss pc lv st S := J_new hC inwX0 tyX0 tyX0_ok (ci := 1) rfl (mG 94 (by decide +kernel) rfl) (mG 95 (by decide +kernel) rfl) (mG 37 (by decide +kernel) rfl) 2 (fs := [.null, .null, .int 0]) (fun j hj => by rcases (show j = 0 ∨ j = 1 ∨ j = 2 by omega) with rfl | rfl | rfl <;> rfl) (fun q => by simp [hsh, hI_sNew, hP_sNew, va_rf]) h1 h2 d kk
theorem nw_X5_34 {X : JX} {G : JG} {Q : State → Prop} {nL cs ss pc : Nat} {lv : List (Nat × Value)} {st : List Value} {S : HS} {cc : ByteArray} {ret : Option FieldType} {fr lo mc ms : Nat} (hC : JC X G RX5 cc nL ret fr lo mc ms) (h1 : cs + 1 ≤ mc) (h2 : ss + 3 ≤ ms) (d : decode cc pc = .ok (.new 34, 3)) (kk : ∀ q : Nat, hK S q = 0 → J X G Q nL (cs + 1) (ss + 3) (pc + 3) lv (.ref q :: st) (sNew S q 1 0)) : J X G Q nL cs ss pc lv st S := J_new hC inwJx4a65c tyJx4a65c tyJx4a65c_ok (ci := 0) rfl (mG 112 (by decide +kernel) rfl) (mG 113 (by decide +kernel) rfl) (mG 40 (by decide +kernel) rfl) 1 (fs := [.int 0, .null, .int 0]) (fun j hj => by rcases (show j = 0 ∨ j = 1 ∨ j = 2 by omega) with rfl | rfl | rfl <;> rfl) (fun q => by simp [hsh, hI_sNew, hP_sNew, va_rf]) h1 h2 d kk
theorem nw_X5_41 {X : JX} {G : JG} {Q : State → Prop} {nL cs ss pc : Nat} {lv : List (Nat × Value)} {st : List Value} {S : HS} {cc : ByteArray} {ret : Option FieldType} {fr lo mc ms : Nat} (hC : JC X G RX5 cc nL ret fr lo mc ms) (h1 : cs + 1 ≤ mc) (h2 : ss + 5 ≤ ms) (d : decode cc pc = .ok (.new 41, 3)) (kk : ∀ q : Nat, hK S q = 0 → J X G Q nL (cs + 1) (ss + 5) (pc + 3) lv (.ref q :: st) (sNew S q 4 0)) : J X G Q nL cs ss pc lv st S := J_new hC inwX2 tyX2 tyX2_ok (ci := 3) rfl (mG 138 (by decide +kernel) rfl) (mG 139 (by decide +kernel) rfl) (mG 41 (by decide +kernel) rfl) 4 (fs := [.null, .int 0, .int 0, .int 0, .null]) (fun j hj => by rcases (show j = 0 ∨ j = 1 ∨ j = 2 ∨ j = 3 ∨ j = 4 by omega) with rfl | rfl | rfl | rfl | rfl <;> rfl) (fun q => by simp [hsh, hI_sNew, hP_sNew, va_rf]) h1 h2 d kk
theorem nw_X5_109 {X : JX} {G : JG} {Q : State → Prop} {nL cs ss pc : Nat} {lv : List (Nat × Value)} {st : List Value} {S : HS} {cc : ByteArray} {ret : Option FieldType} {fr lo mc ms : Nat} (hC : JC X G RX5 cc nL ret fr lo mc ms) (h1 : cs + 1 ≤ mc) (h2 : ss + 12 ≤ ms) (d : decode cc pc = .ok (.new 109, 3)) (kk : ∀ q : Nat, hK S q = 0 → J X G Q nL (cs + 1) (ss + 12) (pc + 3) lv (.ref q :: st) (sNew S q 6 0)) : J X G Q nL cs ss pc lv st S := J_new hC inwX4 tyX4 tyX4_ok (ci := 5) rfl (mG 220 (by decide +kernel) rfl) (mG 485 (by decide +kernel) rfl) (mG 51 (by decide +kernel) rfl) 6 (fs := [.int 0, .null, .int 0, .int 0, .int 0, .null, .int 0, .int 0, .int 0, .int 0, .int 0, .int 0]) (fun j hj => by rcases (show j = 0 ∨ j = 1 ∨ j = 2 ∨ j = 3 ∨ j = 4 ∨ j = 5 ∨ j = 6 ∨ j = 7 ∨ j = 8 ∨ j = 9 ∨ j = 10 ∨ j = 11 by omega) with rfl | rfl | rfl | rfl | rfl | rfl | rfl | rfl | rfl | rfl | rfl | rfl <;> rfl) (fun q => by simp [hsh, hI_sNew, hP_sNew, va_rf]) h1 h2 d kk
theorem nw_X4_7 {X : JX} {G : JG} {Q : State → Prop} {nL cs ss pc : Nat} {lv : List (Nat × Value)} {st : List Value} {S : HS} {cc : ByteArray} {ret : Option FieldType} {fr lo mc ms : Nat} (hC : JC X G RX4 cc nL ret fr lo mc ms) (h1 : cs + 1 ≤ mc) (h2 : ss + 8 ≤ ms) (d : decode cc pc = .ok (.new 7, 3)) (kk : ∀ q : Nat, hK S q = 0 → J X G Q nL (cs + 1) (ss + 8) (pc + 3) lv (.ref q :: st) (sNew S q 3 0)) : J X G Q nL cs ss pc lv st S := J_new hC inwX1 tyX1 tyX1_ok (ci := 2) rfl (mG 490 (by decide +kernel) rfl) (mG 491 (by decide +kernel) rfl) (mG 52 (by decide +kernel) rfl) 3 (fs := [.null, .int 0, .int 0, .int 0, .int 0, .int 0, .int 0, .int 0]) (fun j hj => by rcases (show j = 0 ∨ j = 1 ∨ j = 2 ∨ j = 3 ∨ j = 4 ∨ j = 5 ∨ j = 6 ∨ j = 7 by omega) with rfl | rfl | rfl | rfl | rfl | rfl | rfl | rfl <;> rfl) (fun q => by simp [hsh, hI_sNew, hP_sNew, va_rf]) h1 h2 d kk
theorem nw_L_8 {X : JX} {G : JG} {Q : State → Prop} {nL cs ss pc : Nat} {lv : List (Nat × Value)} {st : List Value} {S : HS} {cc : ByteArray} {ret : Option FieldType} {fr lo mc ms : Nat} (hC : JC X G RL cc nL ret fr lo mc ms) (h1 : cs + 1 ≤ mc) (h2 : ss + 8 ≤ ms) (d : decode cc pc = .ok (.new 8, 3)) (kk : ∀ q : Nat, hK S q = 0 → J X G Q nL (cs + 1) (ss + 8) (pc + 3) lv (.ref q :: st) (sNew S q 7 0)) : J X G Q nL cs ss pc lv st S := J_new hC inwX5 tyX5 tyX5_ok (ci := 6) rfl (mG 57 (by decide +kernel) rfl) (mG 58 (by decide +kernel) rfl) (mG 35 (by decide +kernel) rfl) 7 (fs := [.null, .null, .int 0, .int 0, .int 0, .null, .null, .null]) (fun j hj => by rcases (show j = 0 ∨ j = 1 ∨ j = 2 ∨ j = 3 ∨ j = 4 ∨ j = 5 ∨ j = 6 ∨ j = 7 by omega) with rfl | rfl | rfl | rfl | rfl | rfl | rfl | rfl <;> rfl) (fun q => by simp [hsh, hI_sNew, hP_sNew, va_rf]) h1 h2 d kk
theorem nw_L_80 {X : JX} {G : JG} {Q : State → Prop} {nL cs ss pc : Nat} {lv : List (Nat × Value)} {st : List Value} {S : HS} {cc : ByteArray} {ret : Option FieldType} {fr lo mc ms : Nat} (hC : JC X G RL cc nL ret fr lo mc ms) (h1 : cs + 1 ≤ mc) (h2 : ss + 26 ≤ ms) (d : decode cc pc = .ok (.new 80, 3)) (kk : ∀ q : Nat, hK S q = 0 → J X G Q nL (cs + 1) (ss + 26) (pc + 3) lv (.ref q :: st) (sNew S q 17 0)) : J X G Q nL cs ss pc lv st S := J_new hC inwX6 tyX6 tyX6_ok (ci := 7) rfl (mG 765 (by decide +kernel) rfl) (mG 766 (by decide +kernel) rfl) (mG 42 (by decide +kernel) rfl) 17 (fs := [.int 0, .int 0, .int 0, .int 0, .int 0, .int 0, .int 0, .int 0, .int 0, .null, .int 0, .null, .null, .null, .null, .null, .null, .null, .null, .null, .null, .int 0, .null, .null, .int 0, .null]) (fun j hj => by rcases (show j = 0 ∨ j = 1 ∨ j = 2 ∨ j = 3 ∨ j = 4 ∨ j = 5 ∨ j = 6 ∨ j = 7 ∨ j = 8 ∨ j = 9 ∨ j = 10 ∨ j = 11 ∨ j = 12 ∨ j = 13 ∨ j = 14 ∨ j = 15 ∨ j = 16 ∨ j = 17 ∨ j = 18 ∨ j = 19 ∨ j = 20 ∨ j = 21 ∨ j = 22 ∨ j = 23 ∨ j = 24 ∨ j = 25 by omega) with rfl | rfl | rfl | rfl | rfl | rfl | rfl | rfl | rfl | rfl | rfl | rfl | rfl | rfl | rfl | rfl | rfl | rfl | rfl | rfl | rfl | rfl | rfl | rfl | rfl | rfl <;> rfl) (fun q => by simp [hsh, hI_sNew, hP_sNew, va_rf]) h1 h2 d kk
end
section
/-! ends by type, and what else stands alone -/
theorem J_iretI {X : JX} {G : JG} {nL cs ss pc : Nat} {lv : List (Nat × Value)} {S : HS} {own : String} {cc : ByteArray} {fr lo mc ms : Nat} {v : Int32} {P : Int32 → HS → Prop} {RX : String → HS → Prop} (hC : JC X G own cc nL (some .int) fr lo mc ms) (d : decode cc pc = .ok (.ireturn, 1)) (h1 : cs ≤ mc) (h2 : ss ≤ ms) (h : P v S) : J X G (QQ X G (rI P) RX mc ms) nL cs ss pc lv [.int v] S := J_iret hC d h1 h2 ⟨v, rfl, h⟩
theorem J_zretI {X : JX} {G : JG} {nL cs ss pc : Nat} {lv : List (Nat × Value)} {S : HS} {own : String} {cc : ByteArray} {fr lo mc ms : Nat} {v : Int32} {P : Int32 → HS → Prop} {RX : String → HS → Prop} (hC : JC X G own cc nL (some .boolean) fr lo mc ms) (d : decode cc pc = .ok (.ireturn, 1)) (hn : narrow .boolean (.int v) = .int v) (h1 : cs ≤ mc) (h2 : ss ≤ ms) (h : P v S) : J X G (QQ X G (rI P) RX mc ms) nL cs ss pc lv [.int v] S := J_zret hC d hn h1 h2 ⟨v, rfl, h⟩
theorem J_lretI {X : JX} {G : JG} {nL cs ss pc : Nat} {lv : List (Nat × Value)} {S : HS} {own : String} {cc : ByteArray} {fr lo mc ms : Nat} {v : Int64} {P : Int64 → HS → Prop} {RX : String → HS → Prop} (hC : JC X G own cc nL (some .long) fr lo mc ms) (d : decode cc pc = .ok (.lreturn, 1)) (h1 : cs ≤ mc) (h2 : ss ≤ ms) (h : P v S) : J X G (QQ X G (rL P) RX mc ms) nL cs ss pc lv [.long v] S := J_lret hC d h1 h2 ⟨v, rfl, h⟩
theorem J_dretI {X : JX} {G : JG} {nL cs ss pc : Nat} {lv : List (Nat × Value)} {S : HS} {own : String} {cc : ByteArray} {fr lo mc ms : Nat} {v : UInt64} {P : UInt64 → HS → Prop} {RX : String → HS → Prop} (hC : JC X G own cc nL (some .double) fr lo mc ms) (d : decode cc pc = .ok (.dreturn, 1)) (h1 : cs ≤ mc) (h2 : ss ≤ ms) (h : P v S) : J X G (QQ X G (rD P) RX mc ms) nL cs ss pc lv [.double v] S := J_dret hC d h1 h2 ⟨v, rfl, h⟩
theorem J_vretI {X : JX} {G : JG} {nL cs ss pc : Nat} {lv : List (Nat × Value)} {S : HS} {own : String} {cc : ByteArray} {fr lo mc ms : Nat} {P : HS → Prop} {RX : String → HS → Prop} (hC : JC X G own cc nL none fr lo mc ms) (d : decode cc pc = .ok (.return_, 1)) (h1 : cs ≤ mc) (h2 : ss ≤ ms) (h : P S) : J X G (QQ X G (rV P) RX mc ms) nL cs ss pc lv [] S := J_vret hC d h1 h2 ⟨rfl, h⟩
theorem J_aretI {X : JX} {G : JG} {nL cs ss pc : Nat} {lv : List (Nat × Value)} {S : HS} {own : String} {cc : ByteArray} {fr lo mc ms : Nat} {a : Nat} {rt : FieldType} {P : Nat → HS → Prop} {RX : String → HS → Prop} (hC : JC X G own cc nL (some rt) fr lo mc ms) (d : decode cc pc = .ok (.areturn, 1)) (hrt : (∃ n, rt = .object n) ∨ ∃ t, rt = .array t) (h1 : cs ≤ mc) (h2 : ss ≤ ms) (h : P a S) : J X G (QQ X G (rA P) RX mc ms) nL cs ss pc lv [.ref a] S := J_aret hC d hrt h1 h2 ⟨a, rfl, h⟩
theorem J_ldcw {X : JX} {G : JG} {Q : State → Prop} {nL cs ss pc : Nat} {lv : List (Nat × Value)} {st : List Value} {S : HS} {own : String} {cc : ByteArray} {ret : Option FieldType} {fr lo mc ms : Nat} {i : Nat} {v : Int32} (hC : JC X G own cc nL ret fr lo mc ms) (d : decode cc pc = .ok (.ldc_w i, 3)) (hw : Cond.constant own i v ∈ wG)
    (k : J X G Q nL cs ss (pc + 3) lv (.int v :: st) S) : J X G Q nL cs ss pc lv st S := by
  intro H locs ls hR hS hl
  exact lv_ldcw hC.1 hC.2.1 hC.2.2.2.1 (hC.w hw) d (k H locs ls hR hS hl)
theorem J_ifnonnullN {X : JX} {G : JG} {Q : State → Prop} {nL cs ss pc : Nat} {lv : List (Nat × Value)} {st : List Value} {S : HS} {own : String} {cc : ByteArray} {ret : Option FieldType} {fr lo mc ms : Nat} {off : Int} (hC : JC X G own cc nL ret fr lo mc ms) (d : decode cc pc = .ok (.ifnonnull off, 3))
    (k : J X G Q nL cs ss (pc + 3) lv st S) : J X G Q nL cs ss pc lv (.null :: st) S := by
  intro H locs ls hR hS hl
  exact lv_ifnonnullN hC.1 hC.2.1 d (k H locs ls hR hS hl)
theorem J_castT {X : JX} {G : JG} {Q : State → Prop} {nL cs ss pc : Nat} {lv : List (Nat × Value)} {st : List Value} {S : HS} {cc : ByteArray} {ret : Option FieldType} {fr lo mc ms a : Nat} (hC : JC X G RX5 cc nL ret fr lo mc ms) (h : hK S a = 6) (d : decode cc pc = .ok (.checkcast 109, 3))
    (k : J X G Q nL cs ss (pc + 3) lv (.ref a :: st) S) : J X G Q nL cs ss pc lv (.ref a :: st) S := by
  intro H locs ls hR hS hl
  exact va_castS hC.1 hC.2.1 hC.2.2.2.1 (hC.w (w := .classLink RX5 109 RX4) (mG 220 (by decide +kernel) rfl)) (hC.k.1 5 (RX4, TX4, 12) rfl).2 (va_recv (q0 := 0) (ci := 5) hC.k (hR.one (hob_of h)) (q := (RX4, TX4, 12)) rfl rfl) d (k H locs ls hR hS hl)
/-- a contract's start for the JDK's own methods: no native entry stands for the method -/
theorem Ct.ofF {G : JG} {y : MethodName} {cc : ByteArray} {nL : Nat} {ret : Option FieldType} {fr lo mc ms : Nat} {as : List Value} {S : HS} {R : Option Value → HS → Prop} {RX : String → HS → Prop} (hy : plainFor y = true) (hn : (lg_sl as).length ≤ nL)
    (body : ∀ X : JX, JC X G y.cls cc nL ret fr lo mc ms → noT X → (xt X).name = y.name → J X G (QQ X G R RX mc ms) nL 0 0 0 (lv_args 0 as) [] S) : Ct G y cc nL ret fr lo mc ms as S R RX := by
  intro l hl
  refine MetFree.of_bodySF (code := cc) (maxLocals := nL) (ret := ret) hy ?_ ?_
  · intro args s m h hn
    obtain ⟨meth, c, h1, h2, h3, h4, h5, h6, -, -⟩ := Cond.code_spec hn (atoms_spec (ws := .code y cc nL ret :: wG) h _ List.mem_cons_self)
    exact ⟨meth, c, h1, h2, h3, h4, h5, h6⟩
  · intro p e s m args below meth c s₁ B hml hv _
    obtain ⟨rfl, hG, hR⟩ := hv
    have hh0 : s₁.heap = s.heap := by rw [B.state]; rfl
    have hts := atoms_spec (ws := .code y cc nL ret :: wG) B.pre
    have ht : ∀ x ∈ c.exceptionTable.toList, False := by
      obtain ⟨meth9, c9, h1, h2, -, -, -, -, h7, -⟩ := Cond.code_spec B.named (hts _ List.mem_cons_self)
      cases Option.some.inj (h1.symm.trans B.method)
      cases Option.some.inj (h2.symm.trans (Stand.of_body B).code)
      intro x hx
      rw [Array.isEmpty_iff.mp h7] at hx
      cases hx
    have hown : s.vm.findClass y.cls = some m.cls := findClass_of_methodNamed B.named
    have hin : meth.name = y.name := (name_of_methodNamed B.named B.method).1
    have K := body (p, l, e, jRm fr lo mc ms, s, m, as.toArray, below, meth, c) ⟨B.exec, B.bytes, hml, hown, fun w hw => hts w (List.mem_cons_of_mem _ hw), hG, B.notSynchronized, B.returns, hl, rfl⟩ ht hin
    have K2 := K s.heap [] _ hR va_S.rf (lv_entry as hn)
    obtain ⟨t, a1, o, b1, b2, b3⟩ := K2 s₁ hh0 (Stand.of_body B)
    rw [lg_entry_eq]
    exact ⟨t, o, a1, b1, b2, b3⟩
/-! the sky's numbers -/
def iabs (x : Int32) : Int32 := if 0 ≤ x then x else -x
def bI (c : Prop) [Decidable c] : Int32 := if c then 1 else 0
def snT (d : Int32) : Int32 := im (im d 360 + 360) 360
def snH (d : Int32) : Int32 := im (snT d) 180
def snA (d : Int32) : Int32 := snH d * (180 - snH d)
def snZ (d : Int32) : Int32 := if 40500 - snA d ≤ 0 then 0 else 4000 * snA d / (40500 - snA d)
/-- the sine in thousandths -/
def sn (d : Int32) : Int32 := if 180 ≤ snT d then -(snZ d) else snZ d
def cl4 (s1 c1 s2 c2 cosine : Int32) : Int32 := (s1 * s2 + c1 * c2 / 1000 * cosine) / 1000
/-- height or nearness by two declinations and an angle -/
def mx (one other angle : Int32) : Int32 := cl4 (sn one) (sn (one + 90)) (sn other) (sn (other + 90)) (sn (angle + 90))
def nearV (r1 d1 r2 d2 : Int32) : Int32 := mx d1 d2 (iabs (r1 - r2) / 4)
def angV (start night t rise : Int32) : Int32 := im (im (start + 4 * night + t) 1440 - rise + 1440) 1440 / 4
def lightV (age : Int32) : Int32 := 100 - 100 * iabs (age - 15) / 15
def fmV (x y : Int32) : Int32 := if 0 ≤ x ^^^ y then im x y else if im x y = 0 then im x y else im x y + y
end
section
/-! leaves: printed by wip/whole/leaves.py -/
set_option maxHeartbeats 4000000 in
set_option maxRecDepth 100000 in
/-- whether a value lies within -/
theorem c_X5_isWithin {G : JG} (S : HS) (v lo hi : Int32) : Ct G yX5_isWithin cX5_isWithin 3 (some .boolean) 0 0 0 0 [.int v, .int lo, .int hi] S (rI (fun r S' => r = bI (lo ≤ v ∧ v ≤ hi) ∧ S' = S)) noX := by
  refine Ct.of (by decide) (Nat.le_of_ble_eq_true rfl) (fun X hC hT hin => ?_)
  refine J_iload_n 0 hC dX5_isWithin_0 rfl rfl ?_
  refine J_iload_n 1 hC dX5_isWithin_1 rfl rfl ?_
  refine J_icmp_lt 14 hC dX5_isWithin_2 (by decide) (fun c2 => ?_) (fun c2 => ?_)
  · refine J_iconst (v := 0) hC dX5_isWithin_14 (by decide) ?_
    exact J_zretI hC dX5_isWithin_15 rfl (Nat.le_of_ble_eq_true rfl) (Nat.le_of_ble_eq_true rfl) ⟨(if_neg (fun z => absurd z.1 (Int32.not_le.mpr c2))).symm, rfl⟩
  · refine J_iload_n 0 hC dX5_isWithin_5 rfl rfl ?_
    refine J_iload_n 2 hC dX5_isWithin_6 rfl rfl ?_
    refine J_icmp_gt 14 hC dX5_isWithin_7 (by decide) (fun c7 => ?_) (fun c7 => ?_)
    · refine J_iconst (v := 0) hC dX5_isWithin_14 (by decide) ?_
      exact J_zretI hC dX5_isWithin_15 rfl (Nat.le_of_ble_eq_true rfl) (Nat.le_of_ble_eq_true rfl) ⟨(if_neg (fun z => absurd z.2 (Int32.not_le.mpr c7))).symm, rfl⟩
    · refine J_iconst (v := 1) hC dX5_isWithin_10 (by decide) ?_
      refine J_goto 15 hC dX5_isWithin_11 (by decide) ?_
      exact J_zretI hC dX5_isWithin_15 rfl (Nat.le_of_ble_eq_true rfl) (Nat.le_of_ble_eq_true rfl) ⟨(if_pos ⟨Int32.not_lt.mp c2, Int32.not_lt.mp c7⟩).symm, rfl⟩

set_option maxHeartbeats 4000000 in
set_option maxRecDepth 100000 in
/-- whether a value lies within -/
theorem c_X6_isIn {G : JG} (S : HS) (v lo hi : Int32) : Ct G yX6_isIn cX6_isIn 3 (some .boolean) 0 0 0 0 [.int v, .int lo, .int hi] S (rI (fun r S' => r = bI (lo ≤ v ∧ v ≤ hi) ∧ S' = S)) noX := by
  refine Ct.of (by decide) (Nat.le_of_ble_eq_true rfl) (fun X hC hT hin => ?_)
  refine J_iload_n 0 hC dX6_isIn_0 rfl rfl ?_
  refine J_iload_n 1 hC dX6_isIn_1 rfl rfl ?_
  refine J_icmp_lt 14 hC dX6_isIn_2 (by decide) (fun c2 => ?_) (fun c2 => ?_)
  · refine J_iconst (v := 0) hC dX6_isIn_14 (by decide) ?_
    exact J_zretI hC dX6_isIn_15 rfl (Nat.le_of_ble_eq_true rfl) (Nat.le_of_ble_eq_true rfl) ⟨(if_neg (fun z => absurd z.1 (Int32.not_le.mpr c2))).symm, rfl⟩
  · refine J_iload_n 0 hC dX6_isIn_5 rfl rfl ?_
    refine J_iload_n 2 hC dX6_isIn_6 rfl rfl ?_
    refine J_icmp_gt 14 hC dX6_isIn_7 (by decide) (fun c7 => ?_) (fun c7 => ?_)
    · refine J_iconst (v := 0) hC dX6_isIn_14 (by decide) ?_
      exact J_zretI hC dX6_isIn_15 rfl (Nat.le_of_ble_eq_true rfl) (Nat.le_of_ble_eq_true rfl) ⟨(if_neg (fun z => absurd z.2 (Int32.not_le.mpr c7))).symm, rfl⟩
    · refine J_iconst (v := 1) hC dX6_isIn_10 (by decide) ?_
      refine J_goto 15 hC dX6_isIn_11 (by decide) ?_
      exact J_zretI hC dX6_isIn_15 rfl (Nat.le_of_ble_eq_true rfl) (Nat.le_of_ble_eq_true rfl) ⟨(if_pos ⟨Int32.not_lt.mp c2, Int32.not_lt.mp c7⟩).symm, rfl⟩

set_option maxHeartbeats 4000000 in
set_option maxRecDepth 100000 in
/-- Math.abs -/
theorem c_J9_abs_0f7a4 {G : JG} (S : HS) (v : Int32) : Ct G yJ9_abs_0f7a4 cJ9_abs_0f7a4 1 (some .int) 0 0 0 0 [.int v] S (rI (fun r S' => r = iabs v ∧ S' = S)) noX := by
  refine Ct.ofF (by decide +kernel) (Nat.le_of_ble_eq_true rfl) (fun X hC hT hin => ?_)
  refine J_iload_n 0 hC dJ9_abs_0f7a4_0 rfl rfl ?_
  refine J_if_ge 9 hC dJ9_abs_0f7a4_1 (by decide) (fun c1 => ?_) (fun c1 => ?_)
  · refine J_iload_n 0 hC dJ9_abs_0f7a4_9 rfl rfl ?_
    exact J_iretI hC dJ9_abs_0f7a4_10 (Nat.le_of_ble_eq_true rfl) (Nat.le_of_ble_eq_true rfl) ⟨(if_pos c1).symm, rfl⟩
  · refine J_iload_n 0 hC dJ9_abs_0f7a4_4 rfl rfl ?_
    refine J_ineg hC dJ9_abs_0f7a4_5 ?_
    refine J_goto 10 hC dJ9_abs_0f7a4_6 (by decide) ?_
    exact J_iretI hC dJ9_abs_0f7a4_10 (Nat.le_of_ble_eq_true rfl) (Nat.le_of_ble_eq_true rfl) ⟨(if_neg c1).symm, rfl⟩

set_option maxHeartbeats 4000000 in
set_option maxRecDepth 100000 in
/-- Math.floorMod -/
theorem c_J9_floorMod_7cf53 {G : JG} (S : HS) (v w : Int32) (h0 : ¬ w = 0) : Ct G yJ9_floorMod_7cf53 cJ9_floorMod_7cf53 3 (some .int) 0 0 0 0 [.int v, .int w] S (rI (fun r S' => r = fmV v w ∧ S' = S)) noX := by
  refine Ct.ofF (by decide +kernel) (Nat.le_of_ble_eq_true rfl) (fun X hC hT hin => ?_)
  refine J_iload_n 0 hC dJ9_floorMod_7cf53_0 rfl rfl ?_
  refine J_iload_n 1 hC dJ9_floorMod_7cf53_1 rfl rfl ?_
  refine J_irem hC dJ9_floorMod_7cf53_2 h0 ?_
  refine J_istore_n (lv' := [(2, _), (0, _), (1, _)]) hC dJ9_floorMod_7cf53_3 rfl (by decide) rfl ?_
  refine J_iload_n 1 hC dJ9_floorMod_7cf53_4 rfl rfl ?_
  refine J_iload_n 2 hC dJ9_floorMod_7cf53_5 rfl rfl ?_
  refine J_ixor hC dJ9_floorMod_7cf53_6 ?_
  refine J_if_ge 18 hC dJ9_floorMod_7cf53_7 (by decide) (fun c7 => ?_) (fun c7 => ?_)
  · refine J_iload_n 0 hC dJ9_floorMod_7cf53_18 rfl rfl ?_
    exact J_iretI hC dJ9_floorMod_7cf53_19 (Nat.le_of_ble_eq_true rfl) (Nat.le_of_ble_eq_true rfl) ⟨(if_pos c7).symm, rfl⟩
  · refine J_iload_n 0 hC dJ9_floorMod_7cf53_10 rfl rfl ?_
    refine J_if_eq 18 hC dJ9_floorMod_7cf53_11 (by decide) (fun c11 => ?_) (fun c11 => ?_)
    · refine J_iload_n 0 hC dJ9_floorMod_7cf53_18 rfl rfl ?_
      exact J_iretI hC dJ9_floorMod_7cf53_19 (Nat.le_of_ble_eq_true rfl) (Nat.le_of_ble_eq_true rfl) ⟨((if_neg c7).trans (if_pos c11)).symm, rfl⟩
    · refine J_iload_n 0 hC dJ9_floorMod_7cf53_14 rfl rfl ?_
      refine J_iload_n 2 hC dJ9_floorMod_7cf53_15 rfl rfl ?_
      refine J_iadd hC dJ9_floorMod_7cf53_16 ?_
      exact J_iretI hC dJ9_floorMod_7cf53_17 (Nat.le_of_ble_eq_true rfl) (Nat.le_of_ble_eq_true rfl) ⟨((if_neg c7).trans (if_neg c11)).symm, rfl⟩

set_option maxHeartbeats 4000000 in
set_option maxRecDepth 100000 in
/-- Math.max -/
theorem c_J9_max_7cf53 {G : JG} (S : HS) (v w : Int32) : Ct G yJ9_max_7cf53 cJ9_max_7cf53 2 (some .int) 0 0 0 0 [.int v, .int w] S (rI (fun r S' => r = (if v < w then w else v) ∧ S' = S)) noX := by
  refine Ct.ofF (by decide +kernel) (Nat.le_of_ble_eq_true rfl) (fun X hC hT hin => ?_)
  refine J_iload_n 0 hC dJ9_max_7cf53_0 rfl rfl ?_
  refine J_iload_n 1 hC dJ9_max_7cf53_1 rfl rfl ?_
  refine J_icmp_lt 9 hC dJ9_max_7cf53_2 (by decide) (fun c2 => ?_) (fun c2 => ?_)
  · refine J_iload_n 1 hC dJ9_max_7cf53_9 rfl rfl ?_
    exact J_iretI hC dJ9_max_7cf53_10 (Nat.le_of_ble_eq_true rfl) (Nat.le_of_ble_eq_true rfl) ⟨(if_pos c2).symm, rfl⟩
  · refine J_iload_n 0 hC dJ9_max_7cf53_5 rfl rfl ?_
    refine J_goto 10 hC dJ9_max_7cf53_6 (by decide) ?_
    exact J_iretI hC dJ9_max_7cf53_10 (Nat.le_of_ble_eq_true rfl) (Nat.le_of_ble_eq_true rfl) ⟨(if_neg c2).symm, rfl⟩

set_option maxHeartbeats 4000000 in
set_option maxRecDepth 100000 in
/-- Math.min -/
theorem c_J9_min_7cf53 {G : JG} (S : HS) (v w : Int32) : Ct G yJ9_min_7cf53 cJ9_min_7cf53 2 (some .int) 0 0 0 0 [.int v, .int w] S (rI (fun r S' => r = (if w < v then w else v) ∧ S' = S)) noX := by
  refine Ct.ofF (by decide +kernel) (Nat.le_of_ble_eq_true rfl) (fun X hC hT hin => ?_)
  refine J_iload_n 0 hC dJ9_min_7cf53_0 rfl rfl ?_
  refine J_iload_n 1 hC dJ9_min_7cf53_1 rfl rfl ?_
  refine J_icmp_gt 9 hC dJ9_min_7cf53_2 (by decide) (fun c2 => ?_) (fun c2 => ?_)
  · refine J_iload_n 1 hC dJ9_min_7cf53_9 rfl rfl ?_
    exact J_iretI hC dJ9_min_7cf53_10 (Nat.le_of_ble_eq_true rfl) (Nat.le_of_ble_eq_true rfl) ⟨(if_pos c2).symm, rfl⟩
  · refine J_iload_n 0 hC dJ9_min_7cf53_5 rfl rfl ?_
    refine J_goto 10 hC dJ9_min_7cf53_6 (by decide) ?_
    exact J_iretI hC dJ9_min_7cf53_10 (Nat.le_of_ble_eq_true rfl) (Nat.le_of_ble_eq_true rfl) ⟨(if_neg c2).symm, rfl⟩

set_option maxHeartbeats 4000000 in
set_option maxRecDepth 100000 in
/-- the sine -/
theorem c_X5_sineOf {G : JG} (S : HS) (d : Int32) : Ct G yX5_sineOf cX5_sineOf 6 (some .int) 0 0 0 0 [.int d] S (rI (fun r S' => r = sn d ∧ S' = S)) noX := by
  refine Ct.of (by decide) (Nat.le_of_ble_eq_true rfl) (fun X hC hT hin => ?_)
  refine J_iload_n 0 hC dX5_sineOf_0 rfl rfl ?_
  refine J_sipush (v := 360) hC dX5_sineOf_1 (by decide) ?_
  refine J_irem hC dX5_sineOf_4 (by decide) ?_
  refine J_sipush (v := 360) hC dX5_sineOf_5 (by decide) ?_
  refine J_iadd hC dX5_sineOf_8 ?_
  refine J_sipush (v := 360) hC dX5_sineOf_9 (by decide) ?_
  refine J_irem hC dX5_sineOf_12 (by decide) ?_
  refine J_istore_n (lv' := [(1, _), (0, _)]) hC dX5_sineOf_13 rfl (by decide) rfl ?_
  refine J_iload_n 0 hC dX5_sineOf_14 rfl rfl ?_
  refine J_sipush (v := 180) hC dX5_sineOf_15 (by decide) ?_
  refine J_irem hC dX5_sineOf_18 (by decide) ?_
  refine J_istore_n (lv' := [(2, _), (1, _), (0, _)]) hC dX5_sineOf_19 rfl (by decide) rfl ?_
  refine J_iload_n 0 hC dX5_sineOf_20 rfl rfl ?_
  refine J_sipush (v := 180) hC dX5_sineOf_21 (by decide) ?_
  refine J_iload_n 0 hC dX5_sineOf_24 rfl rfl ?_
  refine J_isub hC dX5_sineOf_25 ?_
  refine J_imul hC dX5_sineOf_26 ?_
  refine J_istore_n (lv' := [(3, _), (2, _), (1, _), (0, _)]) hC dX5_sineOf_27 rfl (by decide) rfl ?_
  refine J_ldc (v := 40500) hC dX5_sineOf_28 (mG 74 (by decide +kernel) rfl) ?_
  refine J_iload_n 0 hC dX5_sineOf_30 rfl rfl ?_
  refine J_isub hC dX5_sineOf_31 ?_
  refine J_istore (lv' := [(4, _), (3, _), (2, _), (1, _), (0, _)]) hC dX5_sineOf_32 (by decide) rfl ?_
  refine J_iload 0 hC dX5_sineOf_34 rfl ?_
  refine J_if_le 50 hC dX5_sineOf_36 (by decide) (fun c36 => ?_) (fun c36 => ?_)
  · refine J_iconst (v := 0) hC dX5_sineOf_50 (by decide) ?_
    refine J_istore (lv' := [(5, _), (4, _), (3, _), (2, _), (1, _), (0, _)]) hC dX5_sineOf_51 (by decide) rfl ?_
    refine J_iload_n 4 hC dX5_sineOf_53 rfl rfl ?_
    refine J_sipush (v := 180) hC dX5_sineOf_54 (by decide) ?_
    refine J_icmp_ge 65 hC dX5_sineOf_57 (by decide) (fun c57 => ?_) (fun c57 => ?_)
    · refine J_iload 0 hC dX5_sineOf_65 rfl ?_
      refine J_ineg hC dX5_sineOf_67 ?_
      exact J_iretI hC dX5_sineOf_68 (Nat.le_of_ble_eq_true rfl) (Nat.le_of_ble_eq_true rfl) ⟨((if_pos (show 180 ≤ snT d from c57)).trans (congrArg (fun z => -z) (if_pos (show 40500 - snA d ≤ 0 from c36)))).symm, rfl⟩
    · refine J_iload 0 hC dX5_sineOf_60 rfl ?_
      refine J_goto 68 hC dX5_sineOf_62 (by decide) ?_
      exact J_iretI hC dX5_sineOf_68 (Nat.le_of_ble_eq_true rfl) (Nat.le_of_ble_eq_true rfl) ⟨((if_neg (show ¬ 180 ≤ snT d from c57)).trans (if_pos (show 40500 - snA d ≤ 0 from c36))).symm, rfl⟩
  · refine J_sipush (v := 4000) hC dX5_sineOf_39 (by decide) ?_
    refine J_iload_n 1 hC dX5_sineOf_42 rfl rfl ?_
    refine J_imul hC dX5_sineOf_43 ?_
    refine J_iload 0 hC dX5_sineOf_44 rfl ?_
    refine J_idiv hC dX5_sineOf_46 (fun e => c36 (by rw [e]; exact Int32.le_refl 0)) ?_
    refine J_goto 51 hC dX5_sineOf_47 (by decide) ?_
    refine J_istore (lv' := [(5, _), (4, _), (3, _), (2, _), (1, _), (0, _)]) hC dX5_sineOf_51 (by decide) rfl ?_
    refine J_iload_n 4 hC dX5_sineOf_53 rfl rfl ?_
    refine J_sipush (v := 180) hC dX5_sineOf_54 (by decide) ?_
    refine J_icmp_ge 65 hC dX5_sineOf_57 (by decide) (fun c57 => ?_) (fun c57 => ?_)
    · refine J_iload 0 hC dX5_sineOf_65 rfl ?_
      refine J_ineg hC dX5_sineOf_67 ?_
      exact J_iretI hC dX5_sineOf_68 (Nat.le_of_ble_eq_true rfl) (Nat.le_of_ble_eq_true rfl) ⟨((if_pos (show 180 ≤ snT d from c57)).trans (congrArg (fun z => -z) (if_neg (show ¬ 40500 - snA d ≤ 0 from c36)))).symm, rfl⟩
    · refine J_iload 0 hC dX5_sineOf_60 rfl ?_
      refine J_goto 68 hC dX5_sineOf_62 (by decide) ?_
      exact J_iretI hC dX5_sineOf_68 (Nat.le_of_ble_eq_true rfl) (Nat.le_of_ble_eq_true rfl) ⟨((if_neg (show ¬ 180 ≤ snT d from c57)).trans (if_neg (show ¬ 40500 - snA d ≤ 0 from c36))).symm, rfl⟩

set_option maxHeartbeats 4000000 in
set_option maxRecDepth 100000 in
/-- the formula of heights and nearnesses -/
theorem c_X5_closeness {G : JG} (S : HS) (a b : Nat) (w : Int32) (h0 : hK S a = 5) (h1 : hK S b = 5) : Ct G yX5_closeness cX5_closeness 3 (some .int) 0 0 0 0 [.ref a, .ref b, .int w] S (rI (fun r S' => r = cl4 (hI S 2 a) (hI S 3 a) (hI S 2 b) (hI S 3 b) w ∧ S' = S)) noX := by
  refine Ct.of (by decide) (Nat.le_of_ble_eq_true rfl) (fun X hC hT hin => ?_)
  refine J_aload_n 0 hC dX5_closeness_0 rfl rfl ?_
  refine fg_X5_239 hC h0 dX5_closeness_1 ?_
  refine J_aload_n 1 hC dX5_closeness_4 rfl rfl ?_
  refine fg_X5_239 hC h1 dX5_closeness_5 ?_
  refine J_imul hC dX5_closeness_8 ?_
  refine J_aload_n 0 hC dX5_closeness_9 rfl rfl ?_
  refine fg_X5_242 hC h0 dX5_closeness_10 ?_
  refine J_aload_n 1 hC dX5_closeness_13 rfl rfl ?_
  refine fg_X5_242 hC h1 dX5_closeness_14 ?_
  refine J_imul hC dX5_closeness_17 ?_
  refine J_sipush (v := 1000) hC dX5_closeness_18 (by decide) ?_
  refine J_idiv hC dX5_closeness_21 (by decide) ?_
  refine J_iload_n 2 hC dX5_closeness_22 rfl rfl ?_
  refine J_imul hC dX5_closeness_23 ?_
  refine J_iadd hC dX5_closeness_24 ?_
  refine J_sipush (v := 1000) hC dX5_closeness_25 (by decide) ?_
  refine J_idiv hC dX5_closeness_28 (by decide) ?_
  exact J_iretI hC dX5_closeness_29 (Nat.le_of_ble_eq_true rfl) (Nat.le_of_ble_eq_true rfl) ⟨rfl, rfl⟩

set_option maxHeartbeats 4000000 in
set_option maxRecDepth 100000 in
/-- the nearness of two points -/
theorem c_X5_nearnessOf {G : JG} (S : HS) (a b : Nat) (h0 : hK S a = 5) (h1 : hK S b = 5) : Ct G yX5_nearnessOf cX5_nearnessOf 3 (some .int) 2 60 0 0 [.ref a, .ref b] S (rI (fun r S' => r = cl4 (hI S 2 a) (hI S 3 a) (hI S 2 b) (hI S 3 b) (sn (iabs (hI S 0 a - hI S 0 b) / 4 + 90)) ∧ S' = S)) noX := by
  refine Ct.of (by decide) (Nat.le_of_ble_eq_true rfl) (fun X hC hT hin => ?_)
  refine J_aload_n 0 hC dX5_nearnessOf_0 rfl rfl ?_
  refine fg_X5_222 hC h0 dX5_nearnessOf_1 ?_
  refine J_aload_n 1 hC dX5_nearnessOf_4 rfl rfl ?_
  refine fg_X5_222 hC h1 dX5_nearnessOf_5 ?_
  refine J_isub hC dX5_nearnessOf_8 ?_
  refine cl_X5_245 hC (c_J9_abs_0f7a4 S _) (Nat.le_of_ble_eq_true rfl) ⟨⟨Nat.le_of_ble_eq_true rfl, Nat.le_of_ble_eq_true rfl⟩, Nat.le_of_ble_eq_true rfl, Nat.le_of_ble_eq_true rfl⟩ dX5_nearnessOf_9 (fun r9 S9 e9 => ?_)
  obtain ⟨rfl, e9⟩ := e9
  subst S9
  refine J_iconst (v := 4) hC dX5_nearnessOf_12 (by decide) ?_
  refine J_idiv hC dX5_nearnessOf_13 (by decide) ?_
  refine J_istore_n (lv' := [(2, _), (0, _), (1, _)]) hC dX5_nearnessOf_14 rfl (by decide) rfl ?_
  refine J_aload_n 1 hC dX5_nearnessOf_15 rfl rfl ?_
  refine J_aload_n 2 hC dX5_nearnessOf_16 rfl rfl ?_
  refine J_iload_n 0 hC dX5_nearnessOf_17 rfl rfl ?_
  refine J_bipush (v := 90) hC dX5_nearnessOf_18 (by decide) ?_
  refine J_iadd hC dX5_nearnessOf_20 ?_
  refine cl_X5_98 hC (c_X5_sineOf S _) (Nat.le_of_ble_eq_true rfl) ⟨⟨Nat.le_of_ble_eq_true rfl, Nat.le_of_ble_eq_true rfl⟩, Nat.le_of_ble_eq_true rfl, Nat.le_of_ble_eq_true rfl⟩ dX5_nearnessOf_21 (fun r21 S21 e21 => ?_)
  obtain ⟨rfl, e21⟩ := e21
  subst S21
  refine cl_X5_250 hC (c_X5_closeness S a b _ h0 h1) (Nat.le_of_ble_eq_true rfl) ⟨⟨Nat.le_of_ble_eq_true rfl, Nat.le_of_ble_eq_true rfl⟩, Nat.le_of_ble_eq_true rfl, Nat.le_of_ble_eq_true rfl⟩ dX5_nearnessOf_24 (fun r24 S24 e24 => ?_)
  obtain ⟨rfl, e24⟩ := e24
  subst S24
  exact J_iretI hC dX5_nearnessOf_27 (Nat.le_of_ble_eq_true rfl) (Nat.le_of_ble_eq_true rfl) ⟨rfl, rfl⟩

set_option maxHeartbeats 4000000 in
set_option maxRecDepth 100000 in
/-- the height of a point -/
theorem c_X5_heightOf {G : JG} (S : HS) (x z a : Nat) (t : Int32) (h0 : hK S x = 7) (pz : hP S 0 x = some z) (hz : hK S z = 5) (h1 : hK S a = 5) : Ct G yX5_heightOf cX5_heightOf 5 (some .int) 2 60 0 0 [.ref x, .ref a, .int t] S (rI (fun r S' => r = cl4 (hI S 2 z) (hI S 3 z) (hI S 2 a) (hI S 3 a) (sn (angV (hI S 0 z) (hI S 4 x) t (hI S 0 a) + 90)) ∧ S' = S)) noX := by
  refine Ct.of (by decide) (Nat.le_of_ble_eq_true rfl) (fun X hC hT hin => ?_)
  refine J_aload_n 0 hC dX5_heightOf_0 rfl rfl ?_
  refine fg_X5_14 hC h0 pz dX5_heightOf_1 ?_
  refine fg_X5_222 hC hz dX5_heightOf_4 ?_
  refine J_iconst (v := 4) hC dX5_heightOf_7 (by decide) ?_
  refine J_aload_n 0 hC dX5_heightOf_8 rfl rfl ?_
  refine fg_X5_174 hC h0 dX5_heightOf_9 ?_
  refine J_imul hC dX5_heightOf_12 ?_
  refine J_iadd hC dX5_heightOf_13 ?_
  refine J_iload_n 2 hC dX5_heightOf_14 rfl rfl ?_
  refine J_iadd hC dX5_heightOf_15 ?_
  refine J_sipush (v := 1440) hC dX5_heightOf_16 (by decide) ?_
  refine J_irem hC dX5_heightOf_19 (by decide) ?_
  refine J_istore_n (lv' := [(3, _), (0, _), (1, _), (2, _)]) hC dX5_heightOf_20 rfl (by decide) rfl ?_
  refine J_iload_n 0 hC dX5_heightOf_21 rfl rfl ?_
  refine J_aload_n 2 hC dX5_heightOf_22 rfl rfl ?_
  refine fg_X5_222 hC h1 dX5_heightOf_23 ?_
  refine J_isub hC dX5_heightOf_26 ?_
  refine J_sipush (v := 1440) hC dX5_heightOf_27 (by decide) ?_
  refine J_iadd hC dX5_heightOf_30 ?_
  refine J_sipush (v := 1440) hC dX5_heightOf_31 (by decide) ?_
  refine J_irem hC dX5_heightOf_34 (by decide) ?_
  refine J_iconst (v := 4) hC dX5_heightOf_35 (by decide) ?_
  refine J_idiv hC dX5_heightOf_36 (by decide) ?_
  refine J_istore (lv' := [(4, _), (3, _), (0, _), (1, _), (2, _)]) hC dX5_heightOf_37 (by decide) rfl ?_
  refine J_aload_n 2 hC dX5_heightOf_39 rfl rfl ?_
  refine fg_X5_14 hC h0 pz dX5_heightOf_40 ?_
  refine J_aload_n 3 hC dX5_heightOf_43 rfl rfl ?_
  refine J_iload 0 hC dX5_heightOf_44 rfl ?_
  refine J_bipush (v := 90) hC dX5_heightOf_46 (by decide) ?_
  refine J_iadd hC dX5_heightOf_48 ?_
  refine cl_X5_98 hC (c_X5_sineOf S _) (Nat.le_of_ble_eq_true rfl) ⟨⟨Nat.le_of_ble_eq_true rfl, Nat.le_of_ble_eq_true rfl⟩, Nat.le_of_ble_eq_true rfl, Nat.le_of_ble_eq_true rfl⟩ dX5_heightOf_49 (fun r49 S49 e49 => ?_)
  obtain ⟨rfl, e49⟩ := e49
  subst S49
  refine cl_X5_250 hC (c_X5_closeness S z a _ hz h1) (Nat.le_of_ble_eq_true rfl) ⟨⟨Nat.le_of_ble_eq_true rfl, Nat.le_of_ble_eq_true rfl⟩, Nat.le_of_ble_eq_true rfl, Nat.le_of_ble_eq_true rfl⟩ dX5_heightOf_52 (fun r52 S52 e52 => ?_)
  obtain ⟨rfl, e52⟩ := e52
  subst S52
  exact J_iretI hC dX5_heightOf_55 (Nat.le_of_ble_eq_true rfl) (Nat.le_of_ble_eq_true rfl) ⟨rfl, rfl⟩

set_option maxHeartbeats 4000000 in
set_option maxRecDepth 100000 in
/-- the moon's light -/
theorem c_X5_moonLight {G : JG} (S : HS) (x : Nat) (h0 : hK S x = 7) : Ct G yX5_moonLight cX5_moonLight 1 (some .int) 2 60 0 0 [.ref x] S (rI (fun r S' => r = lightV (hI S 2 x) ∧ S' = S)) noX := by
  refine Ct.of (by decide) (Nat.le_of_ble_eq_true rfl) (fun X hC hT hin => ?_)
  refine J_bipush (v := 100) hC dX5_moonLight_0 (by decide) ?_
  refine J_bipush (v := 100) hC dX5_moonLight_2 (by decide) ?_
  refine J_aload_n 0 hC dX5_moonLight_4 rfl rfl ?_
  refine fg_X5_73 hC h0 dX5_moonLight_5 ?_
  refine J_bipush (v := 15) hC dX5_moonLight_8 (by decide) ?_
  refine J_isub hC dX5_moonLight_10 ?_
  refine cl_X5_245 hC (c_J9_abs_0f7a4 S _) (Nat.le_of_ble_eq_true rfl) ⟨⟨Nat.le_of_ble_eq_true rfl, Nat.le_of_ble_eq_true rfl⟩, Nat.le_of_ble_eq_true rfl, Nat.le_of_ble_eq_true rfl⟩ dX5_moonLight_11 (fun r11 S11 e11 => ?_)
  obtain ⟨rfl, e11⟩ := e11
  subst S11
  refine J_imul hC dX5_moonLight_14 ?_
  refine J_bipush (v := 15) hC dX5_moonLight_15 (by decide) ?_
  refine J_idiv hC dX5_moonLight_17 (by decide) ?_
  refine J_isub hC dX5_moonLight_18 ?_
  exact J_iretI hC dX5_moonLight_19 (Nat.le_of_ble_eq_true rfl) (Nat.le_of_ble_eq_true rfl) ⟨rfl, rfl⟩

set_option maxHeartbeats 4000000 in
set_option maxRecDepth 100000 in
/-- one number more in the checksum -/
theorem c_X5_blend {G : JG} (S : HS) (d : Int64) (v : Int32) : Ct G yX5_blend cX5_blend 3 (some .long) 0 0 0 0 [.long d, .int v] S (rL (fun r S' => r = d * 31 + v.toInt64 ∧ S' = S)) noX := by
  refine Ct.of (by decide) (Nat.le_of_ble_eq_true rfl) (fun X hC hT hin => ?_)
  refine J_lload_n 0 hC dX5_blend_0 rfl rfl ?_
  refine J_ldc2 (v := 31) hC dX5_blend_1 (mG 316 (by decide +kernel) rfl) ?_
  refine J_lmul hC dX5_blend_4 ?_
  refine J_iload_n 1 hC dX5_blend_5 rfl rfl ?_
  refine J_i2l hC dX5_blend_6 ?_
  refine J_ladd hC dX5_blend_7 ?_
  exact J_lretI hC dX5_blend_8 (Nat.le_of_ble_eq_true rfl) (Nat.le_of_ble_eq_true rfl) ⟨rfl, rfl⟩
end
section
/-! the heap rewritten, and the planner's numbers as functions of its state -/
def wIV (S : HS) (I V : Nat → Nat → Int32) : HS := (S.1, I, S.2.2.1, S.2.2.2.1, S.2.2.2.2.1, V)
theorem hK_wIV (S : HS) (I V : Nat → Nat → Int32) (a : Nat) : hK (wIV S I V) a = hK S a := rfl
theorem hI_wIV (S : HS) (I V : Nat → Nat → Int32) (k a : Nat) : hI (wIV S I V) k a = I k a := rfl
theorem hV_wIV (S : HS) (I V : Nat → Nat → Int32) (k a : Nat) : hV (wIV S I V) k a = V k a := rfl
theorem hP_wIV (S : HS) (I V : Nat → Nat → Int32) (k a : Nat) : hP (wIV S I V) k a = hP S k a := rfl
theorem hN_wIV (S : HS) (I V : Nat → Nat → Int32) (a : Nat) : hN (wIV S I V) a = hN S a := rfl
theorem hL_wIV (S : HS) (I V : Nat → Nat → Int32) (k a : Nat) : hL (wIV S I V) k a = hL S k a := rfl
theorem wIV_self (S : HS) : wIV S (hI S) (hV S) = S := rfl
def up2 (f : Nat → Nat → Int32) (k a : Nat) (v : Int32) : Nat → Nat → Int32 := fun k' a' => if k' = k ∧ a' = a then v else f k' a'
theorem sI_wIV (S : HS) (I V : Nat → Nat → Int32) (k a : Nat) (v : Int32) : sI (wIV S I V) k a v = wIV S (up2 I k a v) V := rfl
theorem sV_wIV (S : HS) (I V : Nat → Nat → Int32) (k a : Nat) (v : Int32) : sV (wIV S I V) k a v = wIV S I (up2 V k a v) := rfl
theorem sI_w (S : HS) (k a : Nat) (v : Int32) : sI S k a v = wIV S (up2 (hI S) k a v) (hV S) := rfl
theorem sV_w (S : HS) (k a : Nat) (v : Int32) : sV S k a v = wIV S (hI S) (up2 (hV S) k a v) := rfl
theorem wIV_wIV (S : HS) (I V I' V' : Nat → Nat → Int32) : wIV (wIV S I V) I' V' = wIV S I' V' := rfl
theorem wIV_ext {S : HS} {I V I' V' : Nat → Nat → Int32} (h1 : ∀ k a, I k a = I' k a) (h2 : ∀ k a, V k a = V' k a) : wIV S I V = wIV S I' V' := by
  rw [show I = I' from funext fun k => funext fun a => h1 k a, show V = V' from funext fun k => funext fun a => h2 k a]
theorem up2_same (f : Nat → Nat → Int32) (k a : Nat) (v : Int32) : up2 f k a v k a = v := if_pos ⟨rfl, rfl⟩
theorem up2_na {f : Nat → Nat → Int32} {k a : Nat} {v : Int32} {j b : Nat} (h : b ≠ a) : up2 f k a v j b = f j b := if_neg (fun z => h z.2)
theorem up2_nk {f : Nat → Nat → Int32} {k a : Nat} {v : Int32} {j b : Nat} (h : j ≠ k) : up2 f k a v j b = f j b := if_neg (fun z => h z.1)
theorem J_eqS {X : JX} {G : JG} {Q : State → Prop} {nL cs ss pc : Nat} {lv : List (Nat × Value)} {st : List Value} {S S' : HS} (h : S = S') (k : J X G Q nL cs ss pc lv st S') : J X G Q nL cs ss pc lv st S := h ▸ k
theorem J_eqL {X : JX} {G : JG} {Q : State → Prop} {nL cs ss pc : Nat} {lv lv' : List (Nat × Value)} {st : List Value} {S : HS} (h : lv = lv') (k : J X G Q nL cs ss pc lv' st S) : J X G Q nL cs ss pc lv st S := h ▸ k
/-! state: g 0 latitude 1 start 2 length 3 night 4 the moon's rise 5 its declination 6 its age; t k j: target k's fact j; how many targets; how many clouds, from, to -/
abbrev Sg : Type := (Nat → Int32) × (Nat → Nat → Int32) × Nat × Nat × (Nat → Int32) × (Nat → Int32)
abbrev vg (σ : Sg) (i : Nat) : Int32 := σ.1 i
abbrev vt (σ : Sg) (k j : Nat) : Int32 := σ.2.1 k j
abbrev vn (σ : Sg) : Nat := σ.2.2.1
abbrev vc (σ : Sg) : Nat := σ.2.2.2.1
abbrev vf (σ : Sg) (i : Nat) : Int32 := σ.2.2.2.2.1 i
abbrev vo (σ : Sg) (i : Nat) : Int32 := σ.2.2.2.2.2 i
/-- is a minute under one of the first m clouds? -/
def cvB (ff tt : Nat → Int32) : Nat → Int32 → Bool
  | 0, _ => false
  | m + 1, t => cvB ff tt m t || (decide (ff m ≤ t) && decide (t ≤ tt m))
theorem cvB_iff {ff tt : Nat → Int32} {m : Nat} {t : Int32} : cvB ff tt m t = true ↔ ∃ i, i < m ∧ ff i ≤ t ∧ t ≤ tt i := by
  induction m with
  | zero => simp [cvB]
  | succ m ih =>
    rw [cvB, Bool.or_eq_true, ih, Bool.and_eq_true, decide_eq_true_eq, decide_eq_true_eq]
    constructor
    · rintro (⟨i, h1, h2⟩ | h)
      · exact ⟨i, by omega, h2⟩
      · exact ⟨m, by omega, h⟩
    · rintro ⟨i, h1, h2⟩
      by_cases e : i = m
      · subst e; exact Or.inr h2
      · exact Or.inl ⟨i, by omega, h2⟩
theorem cvB_no {ff tt : Nat → Int32} {m : Nat} {t : Int32} (h : ∀ i, i < m → ¬ (ff i ≤ t ∧ t ≤ tt i)) : cvB ff tt m t = false := by
  cases e : cvB ff tt m t with
  | false => rfl
  | true => obtain ⟨i, h1, h2⟩ := cvB_iff.mp e; exact (h i h1 h2).elim
def zI (b : Bool) : Int32 := if b = true then 1 else 0
def cldV (σ : Sg) (t : Int32) : Bool := cvB (vf σ) (vo σ) (vc σ) t
def hgtV (σ : Sg) (rise decl t : Int32) : Int32 := mx (vg σ 0) decl (angV (vg σ 1) (vg σ 3) t rise)
def mhV (σ : Sg) (t : Int32) : Int32 := hgtV σ (vg σ 4) (vg σ 5) t
def mnV (σ : Sg) (k : Nat) : Int32 := nearV (vt σ k 0) (vt σ k 1) (vg σ 4) (vg σ 5)
def liV (σ : Sg) : Int32 := lightV (vg σ 6)
def thV (σ : Sg) (k : Nat) (t : Int32) : Int32 := hgtV σ (vt σ k 0) (vt σ k 1) t
def rsnV (σ : Sg) (k : Nat) (t : Int32) : Int32 := if cldV σ t = true then 1 else if thV σ k t < vt σ k 4 then 2 else if mnV σ k ≤ 1000 - 5 * liV σ then 0 else if mhV σ t ≤ 0 then 0 else 3
/-- the night's length as a number -/
def lnV (σ : Sg) : Nat := (vg σ 2).toNatClampNeg
/-- on how many minutes on end target k can be seen from the minute L - d on -/
def rnD (σ : Sg) (k L : Nat) : Nat → Nat
  | 0 => 0
  | d + 1 => if rsnV σ k (nI (L - (d + 1))) = 0 then rnD σ k L d + 1 else 0
theorem rnD_le (σ : Sg) (k L : Nat) : ∀ d, rnD σ k L d ≤ d
  | 0 => Nat.le_refl 0
  | d + 1 => by
    have := rnD_le σ k L d
    unfold rnD
    split <;> omega
/-- .. from the minute i on, nothing behind the night -/
def rnA (σ : Sg) (k i : Nat) : Nat := if i < lnV σ then rnD σ k (lnV σ) (lnV σ - i) else 0
/-- the class's notes over the last d minutes, by slot: 2 first 3 last 4 seen 5 highest 6 its height 7 begin -/
def oF (σ : Sg) (k L : Nat) : Nat → Nat → Int32
  | 0, j => if j = 4 ∨ j = 6 then 0 else -1
  | d + 1, j =>
    let t := L - (d + 1)
    let r := rnD σ k L (d + 1)
    let hi := oF σ k L d 5 < 0 ∨ oF σ k L d 6 ≤ thV σ k (nI t)
    if j = 5 then (if hi then nI t else oF σ k L d 5)
    else if j = 6 then (if hi then thV σ k (nI t) else oF σ k L d 6)
    else if 0 < r then
      (if j = 2 then nI t else if j = 3 then (if oF σ k L d 3 < 0 then nI t else oF σ k L d 3) else if j = 4 then oF σ k L d 4 + 1 else if j = 7 then (if vt σ k 5 ≤ nI r then nI t else oF σ k L d 7) else oF σ k L d j)
    else oF σ k L d j
def opV (σ : Sg) (k : Nat) : Bool := decide (vt σ k 8 < vt σ k 6) && (decide (vt σ k 8 = 0) || decide (vt σ k 7 ≤ vg σ 3 - vt σ k 9))
theorem in8 {x : Int32} (h : 0 ≤ x) (h2 : x < 8) : vp_in x 8 := vp_in_iff.mpr ⟨Int32.le_iff_toInt_le.mp h, Int32.lt_iff_toInt_lt.mp h2⟩
/-- the locals in another order -/
theorem J_re {X : JX} {G : JG} {Q : State → Prop} {nL cs ss pc : Nat} {lv lv' : List (Nat × Value)} {st : List Value} {S : HS} (ks : List Nat) (h : lv_pick lv ks = lv') (k : J X G Q nL cs ss pc lv' st S) : J X G Q nL cs ss pc lv st S := fun H locs ls hR hS hl => k H locs ls hR hS (lv_sub hl ks h)
theorem J_wd {X : JX} {G : JG} {Q : State → Prop} {nL cs ss cs' ss' pc : Nat} {lv : List (Nat × Value)} {st : List Value} {S : HS} (h1 : cs ≤ cs') (h2 : ss ≤ ss') (k : J X G Q nL cs' ss' pc lv st S) : J X G Q nL cs ss pc lv st S := fun H locs ls hR hS hl => W.widen h1 h2 (k H locs ls hR hS hl)
theorem in900 {x : Int32} (h : 0 ≤ x) (h2 : x < 900) : vp_in x 900 := vp_in_iff.mpr ⟨Int32.le_iff_toInt_le.mp h, Int32.lt_iff_toInt_lt.mp h2⟩
theorem in20 {x : Int32} (h : 0 ≤ x) (h2 : x < 20) : vp_in x 20 := vp_in_iff.mpr ⟨Int32.le_iff_toInt_le.mp h, Int32.lt_iff_toInt_lt.mp h2⟩
/-- a target's fact out of the heap -/
def tfS (S : HS) (g pt j : Nat) : Int32 := if j = 0 then hI S 0 pt else if j = 1 then hI S 1 pt else hI S (if j = 2 then 2 else if j = 3 then 3 else if j = 4 then 6 else if j = 5 then 4 else if j = 6 then 7 else if j = 7 then 8 else if j = 8 then 9 else 10) g
def nrP (S : HS) (a b : Nat) : Int32 := cl4 (hI S 2 a) (hI S 3 a) (hI S 2 b) (hI S 3 b) (sn (iabs (hI S 0 a - hI S 0 b) / 4 + 90))
/-- how long the telescope of the plan p takes to the target g -/
def wtS (S : HS) (p g : Nat) : Int32 := match hP S 4 p with
  | none => if hI S 2 g = 0 then 2 else 2 + 3
  | some q => if hI S 2 g = hI S 2 q then 1 + (1000 - nrP S ((hP S 1 q).getD 0) ((hP S 1 g).getD 0)) / 250 else 1 + (1000 - nrP S ((hP S 1 q).getD 0) ((hP S 1 g).getD 0)) / 250 + 3
theorem inN {S : HS} {a n : Nat} {i : Int32} (h1 : hN S a = n) (h : vp_in i n) : vp_in i (hN S a) := by rw [h1]; exact h
end
section
/-! the inner classes' methods: printed by wip/whole/class1.py -/
set_option maxHeartbeats 4000000 in
set_option maxRecDepth 100000 in
/-- Clouds.tell -/
theorem c_X0_tell {G : JG} (S : HS) (c f t : Nat) (v w : Int32) (h0 : hK S c = 2) (pf : hP S 0 c = some f) (hf : hK S f = 8) (nf : hN S f = 8) (pt : hP S 1 c = some t) (ht : hK S t = 9) (nt : hN S t = 8) (hm : 0 ≤ hI S 2 c) (hm2 : hI S 2 c < 8) : Ct G yX0_tell cX0_tell 3 none 0 0 0 0 [.ref c, .int v, .int w] S (rV (fun S' => S' = sI (sV (sV S (hI S 2 c).toNatClampNeg f v) (hI S 2 c).toNatClampNeg t w) 2 c (hI S 2 c + 1))) noX := by
  refine Ct.of (by decide) (Nat.le_of_ble_eq_true rfl) (fun X hC hT hin => ?_)
  refine J_aload_n 0 hC dX0_tell_0 rfl rfl ?_
  refine fg_X0_18 hC h0 dX0_tell_1 ?_
  refine J_if_lt 46 hC dX0_tell_4 (by decide) (fun c4 => absurd c4 (Int32.not_lt.mpr hm)) (fun c4 => ?_)
  refine J_aload_n 0 hC dX0_tell_7 rfl rfl ?_
  refine fg_X0_18 hC h0 dX0_tell_8 ?_
  refine J_bipush (v := 8) hC dX0_tell_11 (by decide) ?_
  refine J_icmp_ge 46 hC dX0_tell_13 (by decide) (fun c13 => absurd c13 (Int32.not_le.mpr hm2)) (fun c13 => ?_)
  refine J_aload_n 0 hC dX0_tell_16 rfl rfl ?_
  refine fg_X0_9 hC h0 pf dX0_tell_17 ?_
  refine J_aload_n 0 hC dX0_tell_20 rfl rfl ?_
  refine fg_X0_18 hC h0 dX0_tell_21 ?_
  refine J_iload_n 1 hC dX0_tell_24 rfl rfl ?_
  refine J_iast hC hf rfl (by rw [nf]; exact in8 hm hm2) dX0_tell_25 ?_
  refine J_aload_n 0 hC dX0_tell_26 rfl rfl ?_
  refine fg_X0_15 hC h0 pt dX0_tell_27 ?_
  refine J_aload_n 0 hC dX0_tell_30 rfl rfl ?_
  refine fg_X0_18 hC h0 dX0_tell_31 ?_
  refine J_iload_n 2 hC dX0_tell_34 rfl rfl ?_
  refine J_iast hC ht rfl (by rw [show hN (sV S (hI S 2 c).toNatClampNeg f v) t = 8 from nt]; exact in8 hm hm2) dX0_tell_35 ?_
  refine J_aload_n 0 hC dX0_tell_36 rfl rfl ?_
  refine J_dup hC dX0_tell_37 rfl ?_
  refine fg_X0_18 hC h0 dX0_tell_38 ?_
  refine J_iconst (v := 1) hC dX0_tell_41 (by decide) ?_
  refine J_iadd hC dX0_tell_42 ?_
  refine fp_X0_18 hC h0 dX0_tell_43 ?_
  exact J_vretI hC dX0_tell_46 (Nat.le_of_ble_eq_true rfl) (Nat.le_of_ble_eq_true rfl) rfl

set_option maxHeartbeats 4000000 in
set_option maxRecDepth 100000 in
/-- Clouds.cover -/
theorem c_X0_cover {G : JG} (S : HS) (c f t m : Nat) (w : Int32) (h0 : hK S c = 2) (pf : hP S 0 c = some f) (hf : hK S f = 8) (nf : hN S f = 8) (pt : hP S 1 c = some t) (ht : hK S t = 9) (nt : hN S t = 8) (hm : hI S 2 c = nI m) (hm2 : m ≤ 8) : Ct G yX0_cover cX0_cover 3 (some .boolean) 0 0 0 0 [.ref c, .int w] S (rI (fun r S' => r = zI (cvB (fun i => hV S i f) (fun i => hV S i t) m w) ∧ S' = S)) noX := by
  refine Ct.of (by decide) (Nat.le_of_ble_eq_true rfl) (fun X hC hT hin => ?_)
  have loop : ∀ (n i : Nat), m - i < n → i ≤ m → (∀ j, j < i → ¬ (hV S j f ≤ w ∧ w ≤ hV S j t)) → J X G (QQ X G (rI (fun r S' => r = zI (cvB (fun i => hV S i f) (fun i => hV S i t) m w) ∧ S' = S)) noX 0 0) 3 0 0 2 [(2, .int (nI i)), (0, .ref c), (1, .int w)] [] S := by
    intro n
    induction n with
    | zero => intro i h; omega
    | succ n ih =>
    intro i hn hi hno
    have him : i < m → (nI i).toNatClampNeg = i := fun h => nI_clamp (by omega)
    refine J_iload_n 0 hC dX0_cover_2 rfl rfl ?_
    refine J_aload_n 1 hC dX0_cover_3 rfl rfl ?_
    refine fg_X0_18 hC h0 dX0_cover_4 ?_
    rw [hm]
    refine J_icmp_ge 44 hC dX0_cover_7 (by decide) (fun c7 => ?_) (fun c7 => ?_)
    · refine J_iconst (v := 0) hC dX0_cover_44 (by decide) ?_
      refine J_zretI hC dX0_cover_45 rfl (Nat.le_of_ble_eq_true rfl) (Nat.le_of_ble_eq_true rfl) ?_
      have him2 : i = m := Nat.le_antisymm hi (Nat.not_lt.mp (fun q => absurd c7 (nI_ge q (by omega))))
      subst him2
      exact ⟨(if_neg (by rw [cvB_no hno]; decide)).symm, rfl⟩
    · have hlt : i < m := Nat.not_le.mp (fun q => c7 (nI_le q (by omega)))
      refine J_iload_n 0 hC dX0_cover_10 rfl rfl ?_
      refine J_bipush (v := 8) hC dX0_cover_11 (by decide) ?_
      refine J_icmp_ge 44 hC dX0_cover_13 (by decide) (fun c13 => absurd c13 (nI_ge (show i < 8 by omega) (by decide))) (fun c13 => ?_)
      refine J_aload_n 1 hC dX0_cover_16 rfl rfl ?_
      refine fg_X0_9 hC h0 pf dX0_cover_17 ?_
      refine J_iload_n 0 hC dX0_cover_20 rfl rfl ?_
      refine J_iald hC hf rfl (by rw [nf]; exact vp_in_nI (by omega) (by decide)) dX0_cover_21 ?_
      refine J_iload_n 2 hC dX0_cover_22 rfl rfl ?_
      refine J_icmp_gt 38 hC dX0_cover_23 (by decide) (fun c23 => ?_) (fun c23 => ?_)
      · refine J_iinc (lv' := [(2, _), (0, _), (1, _)]) 0 hC dX0_cover_38 rfl (nI_1 i) (by decide) rfl ?_
        refine J_goto 2 hC dX0_cover_41 (by decide) ?_
        refine J_re [0, 1, 2] rfl (ih (i + 1) (by omega) (by omega) (fun j hj => ?_))
        rcases Nat.lt_succ_iff_lt_or_eq.mp hj with h | rfl
        · exact hno j h
        · rw [him hlt] at c23
          exact fun z => absurd z.1 (Int32.not_le.mpr c23)
      · refine J_iload_n 2 hC dX0_cover_26 rfl rfl ?_
        refine J_aload_n 1 hC dX0_cover_27 rfl rfl ?_
        refine fg_X0_15 hC h0 pt dX0_cover_28 ?_
        refine J_iload_n 0 hC dX0_cover_31 rfl rfl ?_
        refine J_iald hC ht rfl (by rw [nt]; exact vp_in_nI (by omega) (by decide)) dX0_cover_32 ?_
        refine J_icmp_gt 38 hC dX0_cover_33 (by decide) (fun c33 => ?_) (fun c33 => ?_)
        · refine J_iinc (lv' := [(2, _), (0, _), (1, _)]) 0 hC dX0_cover_38 rfl (nI_1 i) (by decide) rfl ?_
          refine J_goto 2 hC dX0_cover_41 (by decide) ?_
          refine J_re [0, 1, 2] rfl (ih (i + 1) (by omega) (by omega) (fun j hj => ?_))
          rcases Nat.lt_succ_iff_lt_or_eq.mp hj with h | rfl
          · exact hno j h
          · rw [him hlt] at c33
            exact fun z => absurd z.2 (Int32.not_le.mpr c33)
        · refine J_iconst (v := 1) hC dX0_cover_36 (by decide) ?_
          refine J_zretI hC dX0_cover_37 rfl (Nat.le_of_ble_eq_true rfl) (Nat.le_of_ble_eq_true rfl) ?_
          rw [him hlt] at c23 c33
          exact ⟨(if_pos (cvB_iff.mpr ⟨i, hlt, Int32.not_lt.mp c23, Int32.not_lt.mp c33⟩)).symm, rfl⟩
  refine J_iconst (v := 0) hC dX0_cover_0 (by decide) ?_
  refine J_istore_n (lv' := [(2, _), (0, _), (1, _)]) hC dX0_cover_1 rfl (by decide) rfl ?_
  exact J_re [0, 1, 2] rfl (loop (m + 1) 0 (by omega) (by omega) (fun j hj => absurd hj (Nat.not_lt_zero j)))

set_option maxHeartbeats 4000000 in
set_option maxRecDepth 100000 in
/-- Arrays.fill over int[] -/
theorem c_J7_fill_53178 {G : JG} (S : HS) (a lab N : Nat) (v : Int32) (h0 : hK S a = lab) (hl0 : isIA lab = true) (hn : hN S a = N) (hbig : N < 2147483648) : Ct G yJ7_fill_53178 cJ7_fill_53178 4 none 0 0 0 0 [.ref a, .int v] S (rV (fun S' => S' = wIV S (hI S) (fun k b => if b = a ∧ k < N then v else hV S k b))) noX := by
  refine Ct.of (by decide) (Nat.le_of_ble_eq_true rfl) (fun X hC hT hin => ?_)
  have loop : ∀ (n i : Nat), N - i < n → i ≤ N → J X G (QQ X G (rV (fun S' => S' = wIV S (hI S) (fun k b => if b = a ∧ k < N then v else hV S k b))) noX 0 0) 4 0 0 5 [(2, .int (nI i)), (3, .int (nI N)), (0, .ref a), (1, .int v)] [] (wIV S (hI S) (fun k b => if b = a ∧ k < i then v else hV S k b)) := by
    intro n
    induction n with
    | zero => intro i h; omega
    | succ n ih =>
    intro i hn2 hi
    refine J_iload_n 0 hC dJ7_fill_53178_5 rfl rfl ?_
    refine J_iload_n 1 hC dJ7_fill_53178_6 rfl rfl ?_
    refine J_icmp_ge 20 hC dJ7_fill_53178_7 (by decide) (fun c7 => ?_) (fun c7 => ?_)
    · refine J_vretI hC dJ7_fill_53178_20 (Nat.le_of_ble_eq_true rfl) (Nat.le_of_ble_eq_true rfl) ?_
      have him2 : i = N := Nat.le_antisymm hi (Nat.not_lt.mp (fun q => absurd c7 (nI_ge q (by omega))))
      subst him2
      rfl
    · have hlt : i < N := Nat.not_le.mp (fun q => c7 (nI_le q (by omega)))
      refine J_aload_n 2 hC dJ7_fill_53178_10 rfl rfl ?_
      refine J_iload_n 0 hC dJ7_fill_53178_11 rfl rfl ?_
      refine J_iload_n 3 hC dJ7_fill_53178_12 rfl rfl ?_
      refine J_iast hC h0 hl0 (by rw [show hN (wIV S (hI S) (fun k b => if b = a ∧ k < i then v else hV S k b)) a = N from hn]; exact vp_in_nI hlt (by omega)) dJ7_fill_53178_13 ?_
      refine J_iinc (lv' := [(2, _), (3, _), (0, _), (1, _)]) 0 hC dJ7_fill_53178_14 rfl (nI_1 i) (by decide) rfl ?_
      refine J_goto 5 hC dJ7_fill_53178_17 (by decide) ?_
      refine J_eqS ?_ (J_re [0, 1, 2, 3] rfl (ih (i + 1) (by omega) (by omega)))
      rw [nI_clamp (by omega), sV_wIV]
      refine wIV_ext (fun _ _ => rfl) (fun k b => ?_)
      unfold up2
      by_cases e : b = a
      · subst e
        by_cases e2 : k = i
        · subst e2
          simp
        · have : (k < i + 1) ↔ k < i := by omega
          simp [e2, this]
      · simp [e]
  refine J_iconst (v := 0) hC dJ7_fill_53178_0 (by decide) ?_
  refine J_istore_n (lv' := [(2, _), (0, _), (1, _)]) hC dJ7_fill_53178_1 rfl (by decide) rfl ?_
  refine J_aload_n 1 hC dJ7_fill_53178_2 rfl rfl ?_
  refine J_alen hC (t0 := 0) h0 (hsh_IA hl0) rfl (show Int32.ofNat (hN S a) = nI N by rw [hn]; rfl) dJ7_fill_53178_3 ?_
  refine J_istore_n (lv' := [(3, _), (2, _), (0, _), (1, _)]) hC dJ7_fill_53178_4 rfl (by decide) rfl ?_
  refine J_eqS (show S = wIV S (hI S) (fun k b => if b = a ∧ k < 0 then v else hV S k b) from ?_) (J_re [1, 0, 2, 3] rfl (loop (N + 1) 0 (by omega) (by omega)))
  exact (wIV_self S).symm.trans (wIV_ext (fun _ _ => rfl) (fun k b => (if_neg (fun z => Nat.not_lt_zero k z.2)).symm))

set_option maxHeartbeats 4000000 in
set_option maxRecDepth 100000 in
/-- Outlook.clear -/
theorem c_X1_clear {G : JG} (S : HS) (o r : Nat) (h0 : hK S o = 3) (pr : hP S 0 o = some r) (hr : hK S r = 10) (nr : hN S r = 900) : Ct G yX1_clear cX1_clear 1 none 1 30 0 0 [.ref o] S (rV (fun S' => S' = sI (sI (sI (sI (sI (sI (wIV S (hI S) (fun k b => if b = r ∧ k < 900 then 0 else hV S k b)) 2 o (-1)) 3 o (-1)) 4 o 0) 5 o (-1)) 6 o 0) 7 o (-1))) noX := by
  refine Ct.of (by decide) (Nat.le_of_ble_eq_true rfl) (fun X hC hT hin => ?_)
  refine J_aload_n 0 hC dX1_clear_0 rfl rfl ?_
  refine fg_X1_9 hC h0 pr dX1_clear_1 ?_
  refine J_iconst (v := 0) hC dX1_clear_4 (by decide) ?_
  refine cl_X1_15 hC (c_J7_fill_53178 S r 10 900 0 hr rfl nr (by decide)) (Nat.le_of_ble_eq_true rfl) ⟨⟨Nat.le_of_ble_eq_true rfl, Nat.le_of_ble_eq_true rfl⟩, Nat.le_of_ble_eq_true rfl, Nat.le_of_ble_eq_true rfl⟩ dX1_clear_5 (fun S5 e5 => ?_)
  subst S5
  refine J_aload_n 0 hC dX1_clear_8 rfl rfl ?_
  refine J_iconst (v := (-1)) hC dX1_clear_9 (by decide) ?_
  refine fp_X1_21 hC h0 dX1_clear_10 ?_
  refine J_aload_n 0 hC dX1_clear_13 rfl rfl ?_
  refine J_iconst (v := (-1)) hC dX1_clear_14 (by decide) ?_
  refine fp_X1_25 hC h0 dX1_clear_15 ?_
  refine J_aload_n 0 hC dX1_clear_18 rfl rfl ?_
  refine J_iconst (v := 0) hC dX1_clear_19 (by decide) ?_
  refine fp_X1_28 hC h0 dX1_clear_20 ?_
  refine J_aload_n 0 hC dX1_clear_23 rfl rfl ?_
  refine J_iconst (v := (-1)) hC dX1_clear_24 (by decide) ?_
  refine fp_X1_31 hC h0 dX1_clear_25 ?_
  refine J_aload_n 0 hC dX1_clear_28 rfl rfl ?_
  refine J_iconst (v := 0) hC dX1_clear_29 (by decide) ?_
  refine fp_X1_34 hC h0 dX1_clear_30 ?_
  refine J_aload_n 0 hC dX1_clear_33 rfl rfl ?_
  refine J_iconst (v := (-1)) hC dX1_clear_34 (by decide) ?_
  refine fp_X1_37 hC h0 dX1_clear_35 ?_
  exact J_vretI hC dX1_clear_38 (Nat.le_of_ble_eq_true rfl) (Nat.le_of_ble_eq_true rfl) rfl

set_option maxHeartbeats 4000000 in
set_option maxRecDepth 100000 in
/-- Outlook.noteHeight -/
theorem c_X1_noteHeight {G : JG} (S : HS) (o : Nat) (t w : Int32) (h0 : hK S o = 3) : Ct G yX1_noteHeight cX1_noteHeight 3 none 0 0 0 0 [.ref o, .int t, .int w] S (rV (fun S' => S' = if hI S 5 o < 0 ∨ hI S 6 o ≤ w then sI (sI S 5 o t) 6 o w else S)) noX := by
  refine Ct.of (by decide) (Nat.le_of_ble_eq_true rfl) (fun X hC hT hin => ?_)
  refine J_aload_n 0 hC dX1_noteHeight_0 rfl rfl ?_
  refine fg_X1_31 hC h0 dX1_noteHeight_1 ?_
  refine J_if_lt 15 hC dX1_noteHeight_4 (by decide) (fun c4 => ?_) (fun c4 => ?_)
  · refine J_aload_n 0 hC dX1_noteHeight_15 rfl rfl ?_
    refine J_iload_n 1 hC dX1_noteHeight_16 rfl rfl ?_
    refine fp_X1_31 hC h0 dX1_noteHeight_17 ?_
    refine J_aload_n 0 hC dX1_noteHeight_20 rfl rfl ?_
    refine J_iload_n 2 hC dX1_noteHeight_21 rfl rfl ?_
    refine fp_X1_34 hC h0 dX1_noteHeight_22 ?_
    exact J_vretI hC dX1_noteHeight_25 (Nat.le_of_ble_eq_true rfl) (Nat.le_of_ble_eq_true rfl) (if_pos (Or.inl c4)).symm
  · refine J_iload_n 2 hC dX1_noteHeight_7 rfl rfl ?_
    refine J_aload_n 0 hC dX1_noteHeight_8 rfl rfl ?_
    refine fg_X1_34 hC h0 dX1_noteHeight_9 ?_
    refine J_icmp_lt 25 hC dX1_noteHeight_12 (by decide) (fun c12 => ?_) (fun c12 => ?_)
    · exact J_vretI hC dX1_noteHeight_25 (Nat.le_of_ble_eq_true rfl) (Nat.le_of_ble_eq_true rfl) (if_neg (fun z => z.elim c4 (Int32.not_le.mpr c12))).symm
    · refine J_aload_n 0 hC dX1_noteHeight_15 rfl rfl ?_
      refine J_iload_n 1 hC dX1_noteHeight_16 rfl rfl ?_
      refine fp_X1_31 hC h0 dX1_noteHeight_17 ?_
      refine J_aload_n 0 hC dX1_noteHeight_20 rfl rfl ?_
      refine J_iload_n 2 hC dX1_noteHeight_21 rfl rfl ?_
      refine fp_X1_34 hC h0 dX1_noteHeight_22 ?_
      exact J_vretI hC dX1_noteHeight_25 (Nat.le_of_ble_eq_true rfl) (Nat.le_of_ble_eq_true rfl) (if_pos (Or.inr (Int32.not_lt.mp c12))).symm

set_option maxHeartbeats 4000000 in
set_option maxRecDepth 100000 in
/-- Outlook.noteRun -/
theorem c_X1_noteRun {G : JG} (S : HS) (o r : Nat) (t w m : Int32) (h0 : hK S o = 3) (pr : hP S 0 o = some r) (hr : hK S r = 10) (nr : hN S r = 900) (ht : 0 ≤ t) (ht2 : t < 900) : Ct G yX1_noteRun cX1_noteRun 4 none 0 0 0 0 [.ref o, .int t, .int w, .int m] S (rV (fun S' => S' = if 0 < w then sI (sI (sI (sI (sV S t.toNatClampNeg r w) 2 o t) 3 o (if hI S 3 o < 0 then t else hI S 3 o)) 4 o (hI S 4 o + 1)) 7 o (if m ≤ w then t else hI S 7 o) else S)) noX := by
  refine Ct.of (by decide) (Nat.le_of_ble_eq_true rfl) (fun X hC hT hin => ?_)
  refine J_iload_n 2 hC dX1_noteRun_0 rfl rfl ?_
  refine J_if_le 75 hC dX1_noteRun_1 (by decide) (fun c1 => ?_) (fun c1 => ?_)
  · exact J_vretI hC dX1_noteRun_75 (Nat.le_of_ble_eq_true rfl) (Nat.le_of_ble_eq_true rfl) (if_neg (Int32.not_lt.mpr c1)).symm
  · refine J_iload_n 1 hC dX1_noteRun_4 rfl rfl ?_
    refine J_if_lt 75 hC dX1_noteRun_5 (by decide) (fun c5 => absurd c5 (Int32.not_lt.mpr ht)) (fun c5 => ?_)
    refine J_iload_n 1 hC dX1_noteRun_8 rfl rfl ?_
    refine J_aload_n 0 hC dX1_noteRun_9 rfl rfl ?_
    refine fg_X1_9 hC h0 pr dX1_noteRun_10 ?_
    refine J_alen hC (t0 := 0) hr rfl rfl (show Int32.ofNat (hN S r) = 900 by rw [nr]; rfl) dX1_noteRun_13 ?_
    refine J_icmp_ge 75 hC dX1_noteRun_14 (by decide) (fun c14 => absurd c14 (Int32.not_le.mpr ht2)) (fun c14 => ?_)
    refine J_aload_n 0 hC dX1_noteRun_17 rfl rfl ?_
    refine fg_X1_9 hC h0 pr dX1_noteRun_18 ?_
    refine J_iload_n 1 hC dX1_noteRun_21 rfl rfl ?_
    refine J_iload_n 2 hC dX1_noteRun_22 rfl rfl ?_
    refine J_iast hC hr rfl (by rw [nr]; exact in900 ht ht2) dX1_noteRun_23 ?_
    refine J_aload_n 0 hC dX1_noteRun_24 rfl rfl ?_
    refine J_iload_n 1 hC dX1_noteRun_25 rfl rfl ?_
    refine fp_X1_21 hC h0 dX1_noteRun_26 ?_
    refine J_aload_n 0 hC dX1_noteRun_29 rfl rfl ?_
    refine J_aload_n 0 hC dX1_noteRun_30 rfl rfl ?_
    refine fg_X1_25 hC h0 dX1_noteRun_31 ?_
    refine J_if_ge 41 hC dX1_noteRun_34 (by decide) (fun c34 => ?_) (fun c34 => ?_)
    · refine J_aload_n 0 hC dX1_noteRun_41 rfl rfl ?_
      refine fg_X1_25 hC h0 dX1_noteRun_42 ?_
      refine fp_X1_25 hC h0 dX1_noteRun_45 ?_
      refine J_aload_n 0 hC dX1_noteRun_48 rfl rfl ?_
      refine J_dup hC dX1_noteRun_49 rfl ?_
      refine fg_X1_28 hC h0 dX1_noteRun_50 ?_
      refine J_iconst (v := 1) hC dX1_noteRun_53 (by decide) ?_
      refine J_iadd hC dX1_noteRun_54 ?_
      refine fp_X1_28 hC h0 dX1_noteRun_55 ?_
      refine J_aload_n 0 hC dX1_noteRun_58 rfl rfl ?_
      refine J_iload_n 2 hC dX1_noteRun_59 rfl rfl ?_
      refine J_iload_n 3 hC dX1_noteRun_60 rfl rfl ?_
      refine J_icmp_lt 68 hC dX1_noteRun_61 (by decide) (fun c61 => ?_) (fun c61 => ?_)
      · refine J_aload_n 0 hC dX1_noteRun_68 rfl rfl ?_
        refine fg_X1_37 hC h0 dX1_noteRun_69 ?_
        refine fp_X1_37 hC h0 dX1_noteRun_72 ?_
        refine J_vretI hC dX1_noteRun_75 (Nat.le_of_ble_eq_true rfl) (Nat.le_of_ble_eq_true rfl) ?_
        rw [if_pos (Int32.not_le.mp c1)]
        rw [if_neg (show ¬ hI S 3 o < 0 from Int32.not_lt.mpr c34)]
        rw [if_neg (show ¬ m ≤ w from Int32.not_le.mpr c61)]
        rfl
      · refine J_iload_n 1 hC dX1_noteRun_64 rfl rfl ?_
        refine J_goto 72 hC dX1_noteRun_65 (by decide) ?_
        refine fp_X1_37 hC h0 dX1_noteRun_72 ?_
        refine J_vretI hC dX1_noteRun_75 (Nat.le_of_ble_eq_true rfl) (Nat.le_of_ble_eq_true rfl) ?_
        rw [if_pos (Int32.not_le.mp c1)]
        rw [if_neg (show ¬ hI S 3 o < 0 from Int32.not_lt.mpr c34)]
        rw [if_pos (show m ≤ w from Int32.not_lt.mp c61)]
        rfl
    · refine J_iload_n 1 hC dX1_noteRun_37 rfl rfl ?_
      refine J_goto 45 hC dX1_noteRun_38 (by decide) ?_
      refine fp_X1_25 hC h0 dX1_noteRun_45 ?_
      refine J_aload_n 0 hC dX1_noteRun_48 rfl rfl ?_
      refine J_dup hC dX1_noteRun_49 rfl ?_
      refine fg_X1_28 hC h0 dX1_noteRun_50 ?_
      refine J_iconst (v := 1) hC dX1_noteRun_53 (by decide) ?_
      refine J_iadd hC dX1_noteRun_54 ?_
      refine fp_X1_28 hC h0 dX1_noteRun_55 ?_
      refine J_aload_n 0 hC dX1_noteRun_58 rfl rfl ?_
      refine J_iload_n 2 hC dX1_noteRun_59 rfl rfl ?_
      refine J_iload_n 3 hC dX1_noteRun_60 rfl rfl ?_
      refine J_icmp_lt 68 hC dX1_noteRun_61 (by decide) (fun c61 => ?_) (fun c61 => ?_)
      · refine J_aload_n 0 hC dX1_noteRun_68 rfl rfl ?_
        refine fg_X1_37 hC h0 dX1_noteRun_69 ?_
        refine fp_X1_37 hC h0 dX1_noteRun_72 ?_
        refine J_vretI hC dX1_noteRun_75 (Nat.le_of_ble_eq_true rfl) (Nat.le_of_ble_eq_true rfl) ?_
        rw [if_pos (Int32.not_le.mp c1)]
        rw [if_pos (show hI S 3 o < 0 from Int32.not_le.mp c34)]
        rw [if_neg (show ¬ m ≤ w from Int32.not_le.mpr c61)]
        rfl
      · refine J_iload_n 1 hC dX1_noteRun_64 rfl rfl ?_
        refine J_goto 72 hC dX1_noteRun_65 (by decide) ?_
        refine fp_X1_37 hC h0 dX1_noteRun_72 ?_
        refine J_vretI hC dX1_noteRun_75 (Nat.le_of_ble_eq_true rfl) (Nat.le_of_ble_eq_true rfl) ?_
        rw [if_pos (Int32.not_le.mp c1)]
        rw [if_pos (show hI S 3 o < 0 from Int32.not_le.mp c34)]
        rw [if_pos (show m ≤ w from Int32.not_lt.mp c61)]
        rfl

set_option maxHeartbeats 4000000 in
set_option maxRecDepth 100000 in
/-- Outlook.lasts -/
theorem c_X1_lasts {G : JG} (S : HS) (o ru : Nat) (t m : Int32) (h0 : hK S o = 3) (pr : hP S 0 o = some ru) (hr : hK S ru = 10) (nr : hN S ru = 900) : Ct G yX1_lasts cX1_lasts 3 (some .boolean) 0 0 0 0 [.ref o, .int t, .int m] S (rI (fun r S' => r = bI (0 ≤ t ∧ t < 900 ∧ m ≤ hV S t.toNatClampNeg ru) ∧ S' = S)) noX := by
  refine Ct.of (by decide) (Nat.le_of_ble_eq_true rfl) (fun X hC hT hin => ?_)
  refine J_iload_n 1 hC dX1_lasts_0 rfl rfl ?_
  refine J_if_lt 27 hC dX1_lasts_1 (by decide) (fun c1 => ?_) (fun c1 => ?_)
  · refine J_iconst (v := 0) hC dX1_lasts_27 (by decide) ?_
    exact J_zretI hC dX1_lasts_28 rfl (Nat.le_of_ble_eq_true rfl) (Nat.le_of_ble_eq_true rfl) ⟨(if_neg (fun z => absurd z.1 (Int32.not_le.mpr c1))).symm, rfl⟩
  · refine J_iload_n 1 hC dX1_lasts_4 rfl rfl ?_
    refine J_aload_n 0 hC dX1_lasts_5 rfl rfl ?_
    refine fg_X1_9 hC h0 pr dX1_lasts_6 ?_
    refine J_alen hC (t0 := 0) hr rfl rfl (show Int32.ofNat (hN S ru) = 900 by rw [nr]; rfl) dX1_lasts_9 ?_
    refine J_icmp_ge 27 hC dX1_lasts_10 (by decide) (fun c10 => ?_) (fun c10 => ?_)
    · refine J_iconst (v := 0) hC dX1_lasts_27 (by decide) ?_
      exact J_zretI hC dX1_lasts_28 rfl (Nat.le_of_ble_eq_true rfl) (Nat.le_of_ble_eq_true rfl) ⟨(if_neg (fun z => absurd z.2.1 (Int32.not_lt.mpr c10))).symm, rfl⟩
    · refine J_aload_n 0 hC dX1_lasts_13 rfl rfl ?_
      refine fg_X1_9 hC h0 pr dX1_lasts_14 ?_
      refine J_iload_n 1 hC dX1_lasts_17 rfl rfl ?_
      refine J_iald hC hr rfl (by rw [nr]; exact in900 (Int32.not_lt.mp c1) (Int32.not_le.mp c10)) dX1_lasts_18 ?_
      refine J_iload_n 2 hC dX1_lasts_19 rfl rfl ?_
      refine J_icmp_lt 27 hC dX1_lasts_20 (by decide) (fun c20 => ?_) (fun c20 => ?_)
      · refine J_iconst (v := 0) hC dX1_lasts_27 (by decide) ?_
        exact J_zretI hC dX1_lasts_28 rfl (Nat.le_of_ble_eq_true rfl) (Nat.le_of_ble_eq_true rfl) ⟨(if_neg (fun z => absurd z.2.2 (Int32.not_le.mpr c20))).symm, rfl⟩
      · refine J_iconst (v := 1) hC dX1_lasts_23 (by decide) ?_
        refine J_goto 28 hC dX1_lasts_24 (by decide) ?_
        exact J_zretI hC dX1_lasts_28 rfl (Nat.le_of_ble_eq_true rfl) (Nat.le_of_ble_eq_true rfl) ⟨(if_pos ⟨Int32.not_lt.mp c1, Int32.not_le.mp c10, Int32.not_lt.mp c20⟩).symm, rfl⟩

set_option maxHeartbeats 4000000 in
set_option maxRecDepth 100000 in
/-- Target.isOpenOn -/
theorem c_X4_isOpenOn {G : JG} (S : HS) (g : Nat) (n : Int32) (h0 : hK S g = 6) : Ct G yX4_isOpenOn cX4_isOpenOn 2 (some .boolean) 0 0 0 0 [.ref g, .int n] S (rI (fun r S' => r = bI (hI S 9 g < hI S 7 g ∧ (hI S 9 g = 0 ∨ hI S 8 g ≤ n - hI S 10 g)) ∧ S' = S)) noX := by
  refine Ct.of (by decide) (Nat.le_of_ble_eq_true rfl) (fun X hC hT hin => ?_)
  refine J_aload_n 0 hC dX4_isOpenOn_0 rfl rfl ?_
  refine fg_X4_45 hC h0 dX4_isOpenOn_1 ?_
  refine J_aload_n 0 hC dX4_isOpenOn_4 rfl rfl ?_
  refine fg_X4_20 hC h0 dX4_isOpenOn_5 ?_
  refine J_icmp_ge 35 hC dX4_isOpenOn_8 (by decide) (fun c8 => ?_) (fun c8 => ?_)
  · refine J_iconst (v := 0) hC dX4_isOpenOn_35 (by decide) ?_
    exact J_zretI hC dX4_isOpenOn_36 rfl (Nat.le_of_ble_eq_true rfl) (Nat.le_of_ble_eq_true rfl) ⟨(if_neg (fun z => absurd z.1 (Int32.not_lt.mpr c8))).symm, rfl⟩
  · refine J_aload_n 0 hC dX4_isOpenOn_11 rfl rfl ?_
    refine fg_X4_45 hC h0 dX4_isOpenOn_12 ?_
    refine J_if_eq 31 hC dX4_isOpenOn_15 (by decide) (fun c15 => ?_) (fun c15 => ?_)
    · refine J_iconst (v := 1) hC dX4_isOpenOn_31 (by decide) ?_
      refine J_goto 36 hC dX4_isOpenOn_32 (by decide) ?_
      exact J_zretI hC dX4_isOpenOn_36 rfl (Nat.le_of_ble_eq_true rfl) (Nat.le_of_ble_eq_true rfl) ⟨(if_pos ⟨Int32.not_le.mp c8, Or.inl c15⟩).symm, rfl⟩
    · refine J_iload_n 1 hC dX4_isOpenOn_18 rfl rfl ?_
      refine J_aload_n 0 hC dX4_isOpenOn_19 rfl rfl ?_
      refine fg_X4_26 hC h0 dX4_isOpenOn_20 ?_
      refine J_isub hC dX4_isOpenOn_23 ?_
      refine J_aload_n 0 hC dX4_isOpenOn_24 rfl rfl ?_
      refine fg_X4_23 hC h0 dX4_isOpenOn_25 ?_
      refine J_icmp_lt 35 hC dX4_isOpenOn_28 (by decide) (fun c28 => ?_) (fun c28 => ?_)
      · refine J_iconst (v := 0) hC dX4_isOpenOn_35 (by decide) ?_
        exact J_zretI hC dX4_isOpenOn_36 rfl (Nat.le_of_ble_eq_true rfl) (Nat.le_of_ble_eq_true rfl) ⟨(if_neg (fun z => z.2.elim c15 (fun y => absurd y (Int32.not_le.mpr c28)))).symm, rfl⟩
      · refine J_iconst (v := 1) hC dX4_isOpenOn_31 (by decide) ?_
        refine J_goto 36 hC dX4_isOpenOn_32 (by decide) ?_
        exact J_zretI hC dX4_isOpenOn_36 rfl (Nat.le_of_ble_eq_true rfl) (Nat.le_of_ble_eq_true rfl) ⟨(if_pos ⟨Int32.not_le.mp c8, Or.inr (Int32.not_lt.mp c28)⟩).symm, rfl⟩

set_option maxHeartbeats 4000000 in
set_option maxRecDepth 100000 in
/-- Target.takeVisit -/
theorem c_X4_takeVisit {G : JG} (S : HS) (g : Nat) (n : Int32) (h0 : hK S g = 6) : Ct G yX4_takeVisit cX4_takeVisit 2 none 0 0 0 0 [.ref g, .int n] S (rV (fun S' => S' = if hI S 11 g = 0 then S else sI (sI S 9 g (hI S 9 g + 1)) 10 g n)) noX := by
  refine Ct.of (by decide) (Nat.le_of_ble_eq_true rfl) (fun X hC hT hin => ?_)
  refine J_aload_n 0 hC dX4_takeVisit_0 rfl rfl ?_
  refine fg_X4_48 hC h0 dX4_takeVisit_1 ?_
  refine J_if_eq 22 hC dX4_takeVisit_4 (by decide) (fun c4 => ?_) (fun c4 => ?_)
  · exact J_vretI hC dX4_takeVisit_22 (Nat.le_of_ble_eq_true rfl) (Nat.le_of_ble_eq_true rfl) (if_pos c4).symm
  · refine J_aload_n 0 hC dX4_takeVisit_7 rfl rfl ?_
    refine J_dup hC dX4_takeVisit_8 rfl ?_
    refine fg_X4_45 hC h0 dX4_takeVisit_9 ?_
    refine J_iconst (v := 1) hC dX4_takeVisit_12 (by decide) ?_
    refine J_iadd hC dX4_takeVisit_13 ?_
    refine fp_X4_45 hC h0 dX4_takeVisit_14 ?_
    refine J_aload_n 0 hC dX4_takeVisit_17 rfl rfl ?_
    refine J_iload_n 1 hC dX4_takeVisit_18 rfl rfl ?_
    refine fp_X4_26 hC h0 dX4_takeVisit_19 ?_
    exact J_vretI hC dX4_takeVisit_22 (Nat.le_of_ble_eq_true rfl) (Nat.le_of_ble_eq_true rfl) (if_neg c4).symm

set_option maxHeartbeats 4000000 in
set_option maxRecDepth 100000 in
/-- Plan.clear -/
theorem c_X2_clear {G : JG} (S : HS) (p : Nat) (h0 : hK S p = 4) : Ct G yX2_clear cX2_clear 1 none 0 0 0 0 [.ref p] S (rV (fun S' => S' = sP (sI (sI S 2 p 0) 3 p 0) 4 p none)) noX := by
  refine Ct.of (by decide) (Nat.le_of_ble_eq_true rfl) (fun X hC hT hin => ?_)
  refine J_aload_n 0 hC dX2_clear_0 rfl rfl ?_
  refine J_iconst (v := 0) hC dX2_clear_1 (by decide) ?_
  refine fp_X2_16 hC h0 dX2_clear_2 ?_
  refine J_aload_n 0 hC dX2_clear_5 rfl rfl ?_
  refine J_iconst (v := 0) hC dX2_clear_6 (by decide) ?_
  refine fp_X2_20 hC h0 dX2_clear_7 ?_
  refine J_aload_n 0 hC dX2_clear_10 rfl rfl ?_
  refine J_null hC dX2_clear_11 ?_
  refine fpn_X2_23 hC h0 dX2_clear_12 ?_
  exact J_vretI hC dX2_clear_15 (Nat.le_of_ble_eq_true rfl) (Nat.le_of_ble_eq_true rfl) rfl

set_option maxHeartbeats 4000000 in
set_option maxRecDepth 100000 in
/-- Outlook.fact -/
theorem c_X1_fact {G : JG} (S : HS) (o j : Nat) (h0 : hK S o = 3) (hj : j < 5) : Ct G yX1_fact cX1_fact 2 (some .int) 0 0 0 0 [.ref o, .int (nI j)] S (rI (fun r S' => r = hI S (if j = 0 then 2 else if j = 1 then 3 else if j = 2 then 4 else if j = 3 then 5 else 7) o ∧ S' = S)) noX := by
  refine Ct.of (by decide) (Nat.le_of_ble_eq_true rfl) (fun X hC hT hin => ?_)
  rcases (show j = 0 ∨ j = 1 ∨ j = 2 ∨ j = 3 ∨ j = 4 by omega) with rfl | rfl | rfl | rfl | rfl
  · refine J_iload_n 1 hC dX1_fact_0 rfl rfl ?_
    refine J_tableIn (off := 31) 32 hC dX1_fact_1 (by decide) (by decide) (by decide) (by decide) ?_
    refine J_aload_n 0 hC dX1_fact_32 rfl rfl ?_
    refine fg_X1_21 hC h0 dX1_fact_33 ?_
    exact J_iretI hC dX1_fact_36 (Nat.le_of_ble_eq_true rfl) (Nat.le_of_ble_eq_true rfl) ⟨rfl, rfl⟩
  · refine J_iload_n 1 hC dX1_fact_0 rfl rfl ?_
    refine J_tableIn (off := 36) 37 hC dX1_fact_1 (by decide) (by decide) (by decide) (by decide) ?_
    refine J_aload_n 0 hC dX1_fact_37 rfl rfl ?_
    refine fg_X1_25 hC h0 dX1_fact_38 ?_
    exact J_iretI hC dX1_fact_41 (Nat.le_of_ble_eq_true rfl) (Nat.le_of_ble_eq_true rfl) ⟨rfl, rfl⟩
  · refine J_iload_n 1 hC dX1_fact_0 rfl rfl ?_
    refine J_tableIn (off := 41) 42 hC dX1_fact_1 (by decide) (by decide) (by decide) (by decide) ?_
    refine J_aload_n 0 hC dX1_fact_42 rfl rfl ?_
    refine fg_X1_28 hC h0 dX1_fact_43 ?_
    exact J_iretI hC dX1_fact_46 (Nat.le_of_ble_eq_true rfl) (Nat.le_of_ble_eq_true rfl) ⟨rfl, rfl⟩
  · refine J_iload_n 1 hC dX1_fact_0 rfl rfl ?_
    refine J_tableIn (off := 46) 47 hC dX1_fact_1 (by decide) (by decide) (by decide) (by decide) ?_
    refine J_aload_n 0 hC dX1_fact_47 rfl rfl ?_
    refine fg_X1_31 hC h0 dX1_fact_48 ?_
    exact J_iretI hC dX1_fact_51 (Nat.le_of_ble_eq_true rfl) (Nat.le_of_ble_eq_true rfl) ⟨rfl, rfl⟩
  · refine J_iload_n 1 hC dX1_fact_0 rfl rfl ?_
    refine J_tableOut 52 hC dX1_fact_1 (by decide) (by decide) ?_
    refine J_aload_n 0 hC dX1_fact_52 rfl rfl ?_
    refine fg_X1_37 hC h0 dX1_fact_53 ?_
    exact J_iretI hC dX1_fact_56 (Nat.le_of_ble_eq_true rfl) (Nat.le_of_ble_eq_true rfl) ⟨rfl, rfl⟩

set_option maxHeartbeats 4000000 in
set_option maxRecDepth 100000 in
/-- Target.fact -/
theorem c_X4_fact {G : JG} (S : HS) (g pt j : Nat) (h0 : hK S g = 6) (pp : hP S 1 g = some pt) (hp : hK S pt = 5) (hj : j < 10) : Ct G yX4_fact cX4_fact 2 (some .int) 0 0 0 0 [.ref g, .int (nI j)] S (rI (fun r S' => r = tfS S g pt j ∧ S' = S)) noX := by
  refine Ct.of (by decide) (Nat.le_of_ble_eq_true rfl) (fun X hC hT hin => ?_)
  rcases (show j = 0 ∨ j = 1 ∨ j = 2 ∨ j = 3 ∨ j = 4 ∨ j = 5 ∨ j = 6 ∨ j = 7 ∨ j = 8 ∨ j = 9 by omega) with rfl | rfl | rfl | rfl | rfl | rfl | rfl | rfl | rfl | rfl
  · refine J_iload_n 1 hC dX4_fact_0 rfl rfl ?_
    refine J_tableIn (off := 51) 52 hC dX4_fact_1 (by decide) (by decide) (by decide) (by decide) ?_
    refine J_aload_n 0 hC dX4_fact_52 rfl rfl ?_
    refine fg_X4_32 hC h0 pp dX4_fact_53 ?_
    refine fg_X4_52 hC hp dX4_fact_56 ?_
    exact J_iretI hC dX4_fact_59 (Nat.le_of_ble_eq_true rfl) (Nat.le_of_ble_eq_true rfl) ⟨rfl, rfl⟩
  · refine J_iload_n 1 hC dX4_fact_0 rfl rfl ?_
    refine J_tableIn (off := 59) 60 hC dX4_fact_1 (by decide) (by decide) (by decide) (by decide) ?_
    refine J_aload_n 0 hC dX4_fact_60 rfl rfl ?_
    refine fg_X4_32 hC h0 pp dX4_fact_61 ?_
    refine fg_X4_57 hC hp dX4_fact_64 ?_
    exact J_iretI hC dX4_fact_67 (Nat.le_of_ble_eq_true rfl) (Nat.le_of_ble_eq_true rfl) ⟨rfl, rfl⟩
  · refine J_iload_n 1 hC dX4_fact_0 rfl rfl ?_
    refine J_tableIn (off := 67) 68 hC dX4_fact_1 (by decide) (by decide) (by decide) (by decide) ?_
    refine J_aload_n 0 hC dX4_fact_68 rfl rfl ?_
    refine fg_X4_36 hC h0 dX4_fact_69 ?_
    exact J_iretI hC dX4_fact_72 (Nat.le_of_ble_eq_true rfl) (Nat.le_of_ble_eq_true rfl) ⟨rfl, rfl⟩
  · refine J_iload_n 1 hC dX4_fact_0 rfl rfl ?_
    refine J_tableIn (off := 72) 73 hC dX4_fact_1 (by decide) (by decide) (by decide) (by decide) ?_
    refine J_aload_n 0 hC dX4_fact_73 rfl rfl ?_
    refine fg_X4_39 hC h0 dX4_fact_74 ?_
    exact J_iretI hC dX4_fact_77 (Nat.le_of_ble_eq_true rfl) (Nat.le_of_ble_eq_true rfl) ⟨rfl, rfl⟩
  · refine J_iload_n 1 hC dX4_fact_0 rfl rfl ?_
    refine J_tableIn (off := 77) 78 hC dX4_fact_1 (by decide) (by decide) (by decide) (by decide) ?_
    refine J_aload_n 0 hC dX4_fact_78 rfl rfl ?_
    refine fg_X4_16 hC h0 dX4_fact_79 ?_
    exact J_iretI hC dX4_fact_82 (Nat.le_of_ble_eq_true rfl) (Nat.le_of_ble_eq_true rfl) ⟨rfl, rfl⟩
  · refine J_iload_n 1 hC dX4_fact_0 rfl rfl ?_
    refine J_tableIn (off := 82) 83 hC dX4_fact_1 (by decide) (by decide) (by decide) (by decide) ?_
    refine J_aload_n 0 hC dX4_fact_83 rfl rfl ?_
    refine fg_X4_42 hC h0 dX4_fact_84 ?_
    exact J_iretI hC dX4_fact_87 (Nat.le_of_ble_eq_true rfl) (Nat.le_of_ble_eq_true rfl) ⟨rfl, rfl⟩
  · refine J_iload_n 1 hC dX4_fact_0 rfl rfl ?_
    refine J_tableIn (off := 87) 88 hC dX4_fact_1 (by decide) (by decide) (by decide) (by decide) ?_
    refine J_aload_n 0 hC dX4_fact_88 rfl rfl ?_
    refine fg_X4_20 hC h0 dX4_fact_89 ?_
    exact J_iretI hC dX4_fact_92 (Nat.le_of_ble_eq_true rfl) (Nat.le_of_ble_eq_true rfl) ⟨rfl, rfl⟩
  · refine J_iload_n 1 hC dX4_fact_0 rfl rfl ?_
    refine J_tableIn (off := 92) 93 hC dX4_fact_1 (by decide) (by decide) (by decide) (by decide) ?_
    refine J_aload_n 0 hC dX4_fact_93 rfl rfl ?_
    refine fg_X4_23 hC h0 dX4_fact_94 ?_
    exact J_iretI hC dX4_fact_97 (Nat.le_of_ble_eq_true rfl) (Nat.le_of_ble_eq_true rfl) ⟨rfl, rfl⟩
  · refine J_iload_n 1 hC dX4_fact_0 rfl rfl ?_
    refine J_tableIn (off := 97) 98 hC dX4_fact_1 (by decide) (by decide) (by decide) (by decide) ?_
    refine J_aload_n 0 hC dX4_fact_98 rfl rfl ?_
    refine fg_X4_45 hC h0 dX4_fact_99 ?_
    exact J_iretI hC dX4_fact_102 (Nat.le_of_ble_eq_true rfl) (Nat.le_of_ble_eq_true rfl) ⟨rfl, rfl⟩
  · refine J_iload_n 1 hC dX4_fact_0 rfl rfl ?_
    refine J_tableOut 103 hC dX4_fact_1 (by decide) (by decide) ?_
    refine J_aload_n 0 hC dX4_fact_103 rfl rfl ?_
    refine fg_X4_26 hC h0 dX4_fact_104 ?_
    exact J_iretI hC dX4_fact_107 (Nat.le_of_ble_eq_true rfl) (Nat.le_of_ble_eq_true rfl) ⟨rfl, rfl⟩

set_option maxHeartbeats 4000000 in
set_option maxRecDepth 100000 in
/-- minutesUntilReady, pointing nowhere -/
theorem c_mur_n {G : JG} (S : HS) (p g pg : Nat) (h0 : hK S p = 4) (h1 : hK S g = 6) (pp1 : hP S 1 g = some pg) (hp1 : hK S pg = 5) (hn : hP S 4 p = none) : Ct G yX2_minutesUntilReady cX2_minutesUntilReady 4 (some .int) 3 100 0 0 [.ref p, .ref g] S (rI (fun r S' => r = (if hI S 2 g = 0 then 2 else 2 + 3) ∧ S' = S)) noX := by
  refine Ct.of (by decide) (Nat.le_of_ble_eq_true rfl) (fun X hC hT hin => ?_)
  refine J_aload_n 0 hC dX2_minutesUntilReady_0 rfl rfl ?_
  refine fgn_X2_23 hC h0 hn dX2_minutesUntilReady_1 ?_
  refine J_ifnonnullN hC dX2_minutesUntilReady_4 ?_
  refine J_iconst (v := 0) hC dX2_minutesUntilReady_7 (by decide) ?_
  refine J_goto 18 hC dX2_minutesUntilReady_8 (by decide) ?_
  refine J_istore_n (lv' := [(2, _), (0, _), (1, _)]) hC dX2_minutesUntilReady_18 rfl (by decide) rfl ?_
  refine J_aload_n 1 hC dX2_minutesUntilReady_19 rfl rfl ?_
  refine fgn_X2_23 hC h0 hn dX2_minutesUntilReady_20 ?_
  refine J_ifnonnullN hC dX2_minutesUntilReady_23 ?_
  refine J_iconst (v := 2) hC dX2_minutesUntilReady_26 (by decide) ?_
  refine J_goto 54 hC dX2_minutesUntilReady_27 (by decide) ?_
  refine J_istore_n (lv' := [(3, _), (2, _), (0, _), (1, _)]) hC dX2_minutesUntilReady_54 rfl (by decide) rfl ?_
  refine J_aload_n 3 hC dX2_minutesUntilReady_55 rfl rfl ?_
  refine fg_X2_27 hC h1 dX2_minutesUntilReady_56 ?_
  refine J_iload_n 1 hC dX2_minutesUntilReady_59 rfl rfl ?_
  refine J_icmp_ne 67 hC dX2_minutesUntilReady_60 (by decide) (fun c60 => ?_) (fun c60 => ?_)
  · refine J_iload_n 0 hC dX2_minutesUntilReady_67 rfl rfl ?_
    refine J_iconst (v := 3) hC dX2_minutesUntilReady_68 (by decide) ?_
    refine J_iadd hC dX2_minutesUntilReady_69 ?_
    exact J_iretI hC dX2_minutesUntilReady_70 (Nat.le_of_ble_eq_true rfl) (Nat.le_of_ble_eq_true rfl) ⟨(if_neg c60).symm, rfl⟩
  · refine J_iload_n 0 hC dX2_minutesUntilReady_63 rfl rfl ?_
    refine J_goto 70 hC dX2_minutesUntilReady_64 (by decide) ?_
    exact J_iretI hC dX2_minutesUntilReady_70 (Nat.le_of_ble_eq_true rfl) (Nat.le_of_ble_eq_true rfl) ⟨(if_pos c60).symm, rfl⟩

set_option maxHeartbeats 4000000 in
set_option maxRecDepth 100000 in
/-- minutesUntilReady, pointing at a target -/
theorem c_mur_s {G : JG} (S : HS) (p g pg : Nat) (h0 : hK S p = 4) (h1 : hK S g = 6) (pp1 : hP S 1 g = some pg) (hp1 : hK S pg = 5) (q pq : Nat) (pq0 : hP S 4 p = some q) (hq : hK S q = 6) (ppq : hP S 1 q = some pq) (hpq : hK S pq = 5) : Ct G yX2_minutesUntilReady cX2_minutesUntilReady 4 (some .int) 3 100 0 0 [.ref p, .ref g] S (rI (fun r S' => r = (if hI S 2 g = hI S 2 q then 1 + (1000 - nrP S pq pg) / 250 else 1 + (1000 - nrP S pq pg) / 250 + 3) ∧ S' = S)) noX := by
  refine Ct.of (by decide) (Nat.le_of_ble_eq_true rfl) (fun X hC hT hin => ?_)
  refine J_aload_n 0 hC dX2_minutesUntilReady_0 rfl rfl ?_
  refine fg_X2_23 hC h0 pq0 dX2_minutesUntilReady_1 ?_
  refine J_ifnonnull 11 hC dX2_minutesUntilReady_4 (by decide) ?_
  refine J_aload_n 0 hC dX2_minutesUntilReady_11 rfl rfl ?_
  refine fg_X2_23 hC h0 pq0 dX2_minutesUntilReady_12 ?_
  refine fg_X2_27 hC hq dX2_minutesUntilReady_15 ?_
  refine J_istore_n (lv' := [(2, _), (0, _), (1, _)]) hC dX2_minutesUntilReady_18 rfl (by decide) rfl ?_
  refine J_aload_n 1 hC dX2_minutesUntilReady_19 rfl rfl ?_
  refine fg_X2_23 hC h0 pq0 dX2_minutesUntilReady_20 ?_
  refine J_ifnonnull 30 hC dX2_minutesUntilReady_23 (by decide) ?_
  refine J_iconst (v := 1) hC dX2_minutesUntilReady_30 (by decide) ?_
  refine J_sipush (v := 1000) hC dX2_minutesUntilReady_31 (by decide) ?_
  refine J_aload_n 1 hC dX2_minutesUntilReady_34 rfl rfl ?_
  refine fg_X2_23 hC h0 pq0 dX2_minutesUntilReady_35 ?_
  refine fg_X2_32 hC hq ppq dX2_minutesUntilReady_38 ?_
  refine J_aload_n 2 hC dX2_minutesUntilReady_41 rfl rfl ?_
  refine fg_X2_32 hC h1 pp1 dX2_minutesUntilReady_42 ?_
  refine cl_X2_36 hC (c_X5_nearnessOf S pq pg hpq hp1) (Nat.le_of_ble_eq_true rfl) ⟨⟨Nat.le_of_ble_eq_true rfl, Nat.le_of_ble_eq_true rfl⟩, Nat.le_of_ble_eq_true rfl, Nat.le_of_ble_eq_true rfl⟩ dX2_minutesUntilReady_45 (fun r45 S45 e45 => ?_)
  obtain ⟨rfl, e45⟩ := e45
  subst S45
  refine J_isub hC dX2_minutesUntilReady_48 ?_
  refine J_sipush (v := 250) hC dX2_minutesUntilReady_49 (by decide) ?_
  refine J_idiv hC dX2_minutesUntilReady_52 (by decide) ?_
  refine J_iadd hC dX2_minutesUntilReady_53 ?_
  refine J_istore_n (lv' := [(3, _), (2, _), (0, _), (1, _)]) hC dX2_minutesUntilReady_54 rfl (by decide) rfl ?_
  refine J_aload_n 3 hC dX2_minutesUntilReady_55 rfl rfl ?_
  refine fg_X2_27 hC h1 dX2_minutesUntilReady_56 ?_
  refine J_iload_n 1 hC dX2_minutesUntilReady_59 rfl rfl ?_
  refine J_icmp_ne 67 hC dX2_minutesUntilReady_60 (by decide) (fun c60 => ?_) (fun c60 => ?_)
  · refine J_iload_n 0 hC dX2_minutesUntilReady_67 rfl rfl ?_
    refine J_iconst (v := 3) hC dX2_minutesUntilReady_68 (by decide) ?_
    refine J_iadd hC dX2_minutesUntilReady_69 ?_
    exact J_iretI hC dX2_minutesUntilReady_70 (Nat.le_of_ble_eq_true rfl) (Nat.le_of_ble_eq_true rfl) ⟨(if_neg c60).symm, rfl⟩
  · refine J_iload_n 0 hC dX2_minutesUntilReady_63 rfl rfl ?_
    refine J_goto 70 hC dX2_minutesUntilReady_64 (by decide) ?_
    exact J_iretI hC dX2_minutesUntilReady_70 (Nat.le_of_ble_eq_true rfl) (Nat.le_of_ble_eq_true rfl) ⟨(if_pos c60).symm, rfl⟩

/-- minutesUntilReady -/
theorem c_mur {G : JG} (S : HS) (p g pg : Nat) (h0 : hK S p = 4) (h1 : hK S g = 6) (pp1 : hP S 1 g = some pg) (hp1 : hK S pg = 5) (hq : ∀ q, hP S 4 p = some q → hK S q = 6 ∧ ∃ pq, hP S 1 q = some pq ∧ hK S pq = 5) : Ct G yX2_minutesUntilReady cX2_minutesUntilReady 4 (some .int) 3 100 0 0 [.ref p, .ref g] S (rI (fun r S' => r = wtS S p g ∧ S' = S)) noX := by
  cases e : hP S 4 p with
  | none =>
    rw [show wtS S p g = (if hI S 2 g = 0 then 2 else 2 + 3) by unfold wtS; rw [e]]
    exact c_mur_n S p g pg h0 h1 pp1 hp1 e
  | some q =>
    obtain ⟨k1, pq, k2, k3⟩ := hq q e
    rw [show wtS S p g = (if hI S 2 g = hI S 2 q then 1 + (1000 - nrP S pq pg) / 250 else 1 + (1000 - nrP S pq pg) / 250 + 3) by unfold wtS; rw [e]; simp only [k2, pp1, Option.getD_some]]
    exact c_mur_s S p g pg h0 h1 pp1 hp1 q pq e k1 k2 k3

set_option maxHeartbeats 4000000 in
set_option maxRecDepth 100000 in
/-- Plan.take -/
theorem c_X2_take {G : JG} (S : HS) (p g pg ro rw : Nat) (t w : Int32) (h0 : hK S p = 4) (h1 : hK S g = 6) (pp1 : hP S 1 g = some pg) (hp1 : hK S pg = 5) (hq : ∀ q, hP S 4 p = some q → hK S q = 6 ∧ ∃ pq, hP S 1 q = some pq ∧ hK S pq = 5) (hs0 : 0 ≤ hI S 2 p) (hs1 : hI S 2 p < 20) (pro : hP S 0 p = some ro) (hro : hK S ro = 13) (nro : hN S ro = 20) (prw : hP S (hI S 2 p).toNatClampNeg ro = some rw) (hrw : hK S rw = 11) (nrw : hN S rw = 4) : Ct G yX2_take cX2_take 5 (some .int) 4 130 0 0 [.ref p, .ref g, .int t, .int w] S (rI (fun r S' => r = t + wtS S p g + hI S 4 g ∧ S' = sP (sI (sI (sI (sV (sV (sV (sV S 0 rw (hI S 0 g)) 1 rw (t + wtS S p g)) 2 rw (wtS S p g)) 3 rw w) 2 p (hI S 2 p + 1)) 3 p (hI S 3 p + hI S 4 g)) 11 g 1) 4 p (some g))) noX := by
  refine Ct.of (by decide) (Nat.le_of_ble_eq_true rfl) (fun X hC hT hin => ?_)
  refine J_aload_n 0 hC dX2_take_0 rfl rfl ?_
  refine J_aload_n 1 hC dX2_take_1 rfl rfl ?_
  refine cl_X2_40 hC (c_mur S p g pg h0 h1 pp1 hp1 hq) h0 (Nat.le_of_ble_eq_true rfl) ⟨⟨Nat.le_of_ble_eq_true rfl, Nat.le_of_ble_eq_true rfl⟩, Nat.le_of_ble_eq_true rfl, Nat.le_of_ble_eq_true rfl⟩ dX2_take_2 (fun r2 S2 e2 => ?_)
  obtain ⟨rfl, e2⟩ := e2
  subst S2
  refine J_istore (lv' := [(4, _), (0, _), (1, _), (2, _), (3, _)]) hC dX2_take_5 (by decide) rfl ?_
  refine J_aload_n 1 hC dX2_take_7 rfl rfl ?_
  refine fg_X2_16 hC h0 dX2_take_8 ?_
  refine J_if_lt 114 hC dX2_take_11 (by decide) (fun c11 => absurd c11 (Int32.not_lt.mpr hs0)) (fun c11 => ?_)
  refine J_aload_n 1 hC dX2_take_14 rfl rfl ?_
  refine fg_X2_16 hC h0 dX2_take_15 ?_
  refine J_aload_n 1 hC dX2_take_18 rfl rfl ?_
  refine fg_X2_11 hC h0 pro dX2_take_19 ?_
  refine J_alen hC (t0 := 3) hro rfl rfl (show Int32.ofNat (hN S ro) = 20 by rw [nro]; rfl) dX2_take_22 ?_
  refine J_icmp_ge 114 hC dX2_take_23 (by decide) (fun c23 => absurd c23 (Int32.not_le.mpr hs1)) (fun c23 => ?_)
  refine J_aload_n 1 hC dX2_take_26 rfl rfl ?_
  refine fg_X2_11 hC h0 pro dX2_take_27 ?_
  refine J_aload_n 1 hC dX2_take_30 rfl rfl ?_
  refine fg_X2_16 hC h0 dX2_take_31 ?_
  refine J_aald2 hC hro (inN nro (in20 hs0 hs1)) prw dX2_take_34 ?_
  refine J_iconst (v := 0) hC dX2_take_35 (by decide) ?_
  refine J_aload_n 2 hC dX2_take_36 rfl rfl ?_
  refine fg_X2_44 hC h1 dX2_take_37 ?_
  refine J_iast hC hrw rfl (inN nrw (vp_in_nI (n := 0) (by decide) (by decide))) dX2_take_40 ?_
  refine J_aload_n 1 hC dX2_take_41 rfl rfl ?_
  refine fg_X2_11 hC h0 pro dX2_take_42 ?_
  refine J_aload_n 1 hC dX2_take_45 rfl rfl ?_
  refine fg_X2_16 hC h0 dX2_take_46 ?_
  refine J_aald2 hC hro (inN nro (in20 hs0 hs1)) prw dX2_take_49 ?_
  refine J_iconst (v := 1) hC dX2_take_50 (by decide) ?_
  refine J_iload_n 3 hC dX2_take_51 rfl rfl ?_
  refine J_iload 0 hC dX2_take_52 rfl ?_
  refine J_iadd hC dX2_take_54 ?_
  refine J_iast hC hrw rfl (inN nrw (vp_in_nI (n := 1) (by decide) (by decide))) dX2_take_55 ?_
  refine J_aload_n 1 hC dX2_take_56 rfl rfl ?_
  refine fg_X2_11 hC h0 pro dX2_take_57 ?_
  refine J_aload_n 1 hC dX2_take_60 rfl rfl ?_
  refine fg_X2_16 hC h0 dX2_take_61 ?_
  refine J_aald2 hC hro (inN nro (in20 hs0 hs1)) prw dX2_take_64 ?_
  refine J_iconst (v := 2) hC dX2_take_65 (by decide) ?_
  refine J_iload 0 hC dX2_take_66 rfl ?_
  refine J_iast hC hrw rfl (inN nrw (vp_in_nI (n := 2) (by decide) (by decide))) dX2_take_68 ?_
  refine J_aload_n 1 hC dX2_take_69 rfl rfl ?_
  refine fg_X2_11 hC h0 pro dX2_take_70 ?_
  refine J_aload_n 1 hC dX2_take_73 rfl rfl ?_
  refine fg_X2_16 hC h0 dX2_take_74 ?_
  refine J_aald2 hC hro (inN nro (in20 hs0 hs1)) prw dX2_take_77 ?_
  refine J_iconst (v := 3) hC dX2_take_78 (by decide) ?_
  refine J_iload_n 4 hC dX2_take_79 rfl rfl ?_
  refine J_iast hC hrw rfl (inN nrw (vp_in_nI (n := 3) (by decide) (by decide))) dX2_take_80 ?_
  refine J_aload_n 1 hC dX2_take_81 rfl rfl ?_
  refine J_dup hC dX2_take_82 rfl ?_
  refine fg_X2_16 hC h0 dX2_take_83 ?_
  refine J_iconst (v := 1) hC dX2_take_86 (by decide) ?_
  refine J_iadd hC dX2_take_87 ?_
  refine fp_X2_16 hC h0 dX2_take_88 ?_
  refine J_aload_n 1 hC dX2_take_91 rfl rfl ?_
  refine J_dup hC dX2_take_92 rfl ?_
  refine fg_X2_20 hC h0 dX2_take_93 ?_
  refine J_aload_n 2 hC dX2_take_96 rfl rfl ?_
  refine fg_X2_47 hC h1 dX2_take_97 ?_
  refine J_iadd hC dX2_take_100 ?_
  refine fp_X2_20 hC h0 dX2_take_101 ?_
  refine J_aload_n 2 hC dX2_take_104 rfl rfl ?_
  refine J_iconst (v := 1) hC dX2_take_105 (by decide) ?_
  refine fp_X2_48 hC h1 ⟨rfl, rfl⟩ dX2_take_106 ?_
  refine J_aload_n 1 hC dX2_take_109 rfl rfl ?_
  refine J_aload_n 2 hC dX2_take_110 rfl rfl ?_
  refine fp_X2_23 hC h0 dX2_take_111 ?_
  refine J_iload_n 3 hC dX2_take_114 rfl rfl ?_
  refine J_iload 0 hC dX2_take_115 rfl ?_
  refine J_iadd hC dX2_take_117 ?_
  refine J_aload_n 2 hC dX2_take_118 rfl rfl ?_
  refine fg_X2_47 hC h1 dX2_take_119 ?_
  refine J_iadd hC dX2_take_122 ?_
  exact J_iretI hC dX2_take_123 (Nat.le_of_ble_eq_true rfl) (Nat.le_of_ble_eq_true rfl) ⟨rfl, rfl⟩
end
