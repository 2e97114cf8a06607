/-! addTarget: printed by wip/p27/class12.py -/
set_option maxHeartbeats 4000000 in
set_option maxRecDepth 100000 in
/-- addTarget -/
theorem c_X5_addTarget {G : JG} (S : HS) (x : Nat) (A : Nat → Nat → Nat) (σ : Sg) (h : CI G x A σ S) (u v f w m : Int32) : Ct G yX5_addTarget cX5_addTarget 7 (some .int) 9 340 70 1200 [.ref x, .int u, .int v, .int f, .int w, .int m] S (rI (fun r S' => (((0 ≤ u ∧ u ≤ 1439) ∧ (-90 ≤ v ∧ v ≤ 90)) ∧ (0 ≤ f ∧ f ≤ 3) ∧ (1 ≤ w ∧ w ≤ 9) ∧ (5 ≤ m ∧ m ≤ 120)) ∧ vn σ < 20 ∧ CS G x (addT σ u v f w m) S S' ∧ r = nI (vn σ))) (fun E S' => (E = eIA ∧ S' = S ∧ ¬ (((0 ≤ u ∧ u ≤ 1439) ∧ (-90 ≤ v ∧ v ≤ 90)) ∧ (0 ≤ f ∧ f ≤ 3) ∧ (1 ≤ w ∧ w ≤ 9) ∧ (5 ≤ m ∧ m ≤ 120))) ∨ (E = eIS ∧ S' = S ∧ (((0 ≤ u ∧ u ≤ 1439) ∧ (-90 ≤ v ∧ v ≤ 90)) ∧ (0 ≤ f ∧ f ≤ 3) ∧ (1 ≤ w ∧ w ≤ 9) ∧ (5 ≤ m ∧ m ≤ 120)) ∧ vn σ = 20)) := by
  refine Ct.of (by decide) (Nat.le_of_ble_eq_true rfl) (fun X hC hT hin => ?_)
  have h0 := h
  obtain ⟨hs, hv, hr, ho, hp⟩ := h
  have n20 := hs.n20
  refine J_iload_n 1 hC dX5_addTarget_0 rfl rfl ?_
  refine J_iload_n 2 hC dX5_addTarget_1 rfl rfl ?_
  refine cl_X5_65 hC (c_X5_isPoint S _ _) (Nat.le_of_ble_eq_true rfl) ⟨⟨Nat.le_of_ble_eq_true rfl, Nat.le_of_ble_eq_true rfl⟩, Nat.le_of_ble_eq_true rfl, Nat.le_of_ble_eq_true rfl⟩ dX5_addTarget_2 (fun r2 S2 e2 => ?_)
  obtain ⟨rfl, e2⟩ := e2
  subst S2
  refine J_if_eq 39 hC dX5_addTarget_5 (by decide) (fun c5 => ?_) (fun c5 => ?_)
  · exact J_throwS hC hT (text := "no target is like this") (names := exN) fit_IA exN_ok (mG 179 (by decide +kernel) rfl) (mG 28 (by decide +kernel) rfl) (by decide +kernel) at_IA dX5_addTarget_39 dX5_addTarget_42 dX5_addTarget_43 dX5_addTarget_45 dX5_addTarget_48 (by decide) (Nat.le_of_ble_eq_true rfl) (Nat.le_of_ble_eq_true rfl) (Nat.le_of_ble_eq_true rfl) (Or.inl ⟨rfl, rfl, fun z => bI_eq c5 z.1⟩)
  · refine J_iload_n 3 hC dX5_addTarget_8 rfl rfl ?_
    refine J_iconst (v := 0) hC dX5_addTarget_9 (by decide) ?_
    refine J_iconst (v := 3) hC dX5_addTarget_10 (by decide) ?_
    refine cl_X5_46 hC (c_X5_isWithin S _ _ _) (Nat.le_of_ble_eq_true rfl) ⟨⟨Nat.le_of_ble_eq_true rfl, Nat.le_of_ble_eq_true rfl⟩, Nat.le_of_ble_eq_true rfl, Nat.le_of_ble_eq_true rfl⟩ dX5_addTarget_11 (fun r11 S11 e11 => ?_)
    obtain ⟨rfl, e11⟩ := e11
    subst S11
    refine J_if_eq 39 hC dX5_addTarget_14 (by decide) (fun c14 => ?_) (fun c14 => ?_)
    · exact J_throwS hC hT (text := "no target is like this") (names := exN) fit_IA exN_ok (mG 179 (by decide +kernel) rfl) (mG 28 (by decide +kernel) rfl) (by decide +kernel) at_IA dX5_addTarget_39 dX5_addTarget_42 dX5_addTarget_43 dX5_addTarget_45 dX5_addTarget_48 (by decide) (Nat.le_of_ble_eq_true rfl) (Nat.le_of_ble_eq_true rfl) (Nat.le_of_ble_eq_true rfl) (Or.inl ⟨rfl, rfl, fun z => bI_eq c14 z.2.1⟩)
    · refine J_iload 4 hC dX5_addTarget_17 rfl ?_
      refine J_iconst (v := 1) hC dX5_addTarget_19 (by decide) ?_
      refine J_bipush (v := 9) hC dX5_addTarget_20 (by decide) ?_
      refine cl_X5_46 hC (c_X5_isWithin S _ _ _) (Nat.le_of_ble_eq_true rfl) ⟨⟨Nat.le_of_ble_eq_true rfl, Nat.le_of_ble_eq_true rfl⟩, Nat.le_of_ble_eq_true rfl, Nat.le_of_ble_eq_true rfl⟩ dX5_addTarget_22 (fun r22 S22 e22 => ?_)
      obtain ⟨rfl, e22⟩ := e22
      subst S22
      refine J_if_eq 39 hC dX5_addTarget_25 (by decide) (fun c25 => ?_) (fun c25 => ?_)
      · exact J_throwS hC hT (text := "no target is like this") (names := exN) fit_IA exN_ok (mG 179 (by decide +kernel) rfl) (mG 28 (by decide +kernel) rfl) (by decide +kernel) at_IA dX5_addTarget_39 dX5_addTarget_42 dX5_addTarget_43 dX5_addTarget_45 dX5_addTarget_48 (by decide) (Nat.le_of_ble_eq_true rfl) (Nat.le_of_ble_eq_true rfl) (Nat.le_of_ble_eq_true rfl) (Or.inl ⟨rfl, rfl, fun z => bI_eq c25 z.2.2.1⟩)
      · refine J_iload 5 hC dX5_addTarget_28 rfl ?_
        refine J_iconst (v := 5) hC dX5_addTarget_30 (by decide) ?_
        refine J_bipush (v := 120) hC dX5_addTarget_31 (by decide) ?_
        refine cl_X5_46 hC (c_X5_isWithin S _ _ _) (Nat.le_of_ble_eq_true rfl) ⟨⟨Nat.le_of_ble_eq_true rfl, Nat.le_of_ble_eq_true rfl⟩, Nat.le_of_ble_eq_true rfl, Nat.le_of_ble_eq_true rfl⟩ dX5_addTarget_33 (fun r33 S33 e33 => ?_)
        obtain ⟨rfl, e33⟩ := e33
        subst S33
        refine J_if_ne 49 hC dX5_addTarget_36 (by decide) (fun c36 => ?_) (fun c36 => ?_)
        · have hcs : ((0 ≤ u ∧ u ≤ 1439) ∧ (-90 ≤ v ∧ v ≤ 90)) ∧ (0 ≤ f ∧ f ≤ 3) ∧ (1 ≤ w ∧ w ≤ 9) ∧ (5 ≤ m ∧ m ≤ 120) := ⟨bI_ne c5, bI_ne c14, bI_ne c25, bI_ne c36⟩
          refine J_aload_n 0 hC dX5_addTarget_49 rfl rfl ?_
          refine fg_X5_35 hC hs.kx hs.pl dX5_addTarget_50 ?_
          refine cl_X5_102 hC (c_size S (A 0 5) hs.kl) hs.kl (Nat.le_of_ble_eq_true rfl) ⟨⟨Nat.le_of_ble_eq_true rfl, Nat.le_of_ble_eq_true rfl⟩, Nat.le_of_ble_eq_true rfl, Nat.le_of_ble_eq_true rfl⟩ dX5_addTarget_53 (fun r53 S53 e53 => ?_)
          obtain ⟨rfl, e53⟩ := e53
          subst S53
          refine J_topI hv.2.2.2.2.1 ?_
          refine J_bipush (v := 20) hC dX5_addTarget_56 (by decide) ?_
          refine J_icmp_lt 71 hC dX5_addTarget_58 (by decide) (fun c58 => ?_) (fun c58 => ?_)
          · have hn : vn σ < 20 := (nI_ltI (b := 20) (show vn σ < 2147483648 by omega) (by decide)).mp c58
            refine J_aload_n 0 hC dX5_addTarget_71 rfl rfl ?_
            refine fg_X5_35 hC hs.kx hs.pl dX5_addTarget_72 ?_
            refine cl_X5_102 hC (c_size S (A 0 5) hs.kl) hs.kl (Nat.le_of_ble_eq_true rfl) ⟨⟨Nat.le_of_ble_eq_true rfl, Nat.le_of_ble_eq_true rfl⟩, Nat.le_of_ble_eq_true rfl, Nat.le_of_ble_eq_true rfl⟩ dX5_addTarget_75 (fun r75 S75 e75 => ?_)
            obtain ⟨rfl, e75⟩ := e75
            subst S75
            refine J_topI hv.2.2.2.2.1 ?_
            refine J_istore (lv' := [(6, _), (0, _), (1, _), (2, _), (3, _), (4, _), (5, _)]) hC dX5_addTarget_78 (by decide) rfl ?_
            refine J_aload_n 1 hC dX5_addTarget_80 rfl rfl ?_
            refine fg_X5_35 hC hs.kx hs.pl dX5_addTarget_81 ?_
            refine nw_X5_107 hC (Nat.le_of_ble_eq_true rfl) (Nat.le_of_ble_eq_true rfl) dX5_addTarget_84 (fun g fg => ?_)
            refine J_dup hC dX5_addTarget_87 rfl ?_
            refine J_iload 0 hC dX5_addTarget_88 rfl ?_
            refine nw_X5_7 hC (Nat.le_of_ble_eq_true rfl) (Nat.le_of_ble_eq_true rfl) dX5_addTarget_90 (fun q fq => ?_)
            have hgq : g ≠ q := nqz fq (show hK (sNew S g 6 0) g = 6 from if_pos rfl) (by decide)
            refine J_dup hC dX5_addTarget_93 rfl ?_
            refine J_iload_n 2 hC dX5_addTarget_94 rfl rfl ?_
            refine J_iload_n 3 hC dX5_addTarget_95 rfl rfl ?_
            refine cl_X5_9 hC (c_pt (sNew S g 6 0) q u v) (Nat.le_of_ble_eq_true rfl) ⟨⟨Nat.le_of_ble_eq_true rfl, Nat.le_of_ble_eq_true rfl⟩, Nat.le_of_ble_eq_true rfl, Nat.le_of_ble_eq_true rfl⟩ dX5_addTarget_96 (fun S96 e96 => ?_)
            subst S96
            have x2 : ext S (ptS (sNew S g 6 0) q u v) := (ext.rfl.new fg).pt fq
            have sg2 := (pt_new (v := u) (w := v) fq).old (a := g) (by rw [show hK (sNew S g 6 0) g = 6 from if_pos rfl]; decide)
            have kg2 : hK (ptS (sNew S g 6 0) q u v) g = 6 := sg2.1.trans (if_pos rfl)
            refine J_iload_n 4 hC dX5_addTarget_99 rfl rfl ?_
            refine J_iload 5 hC dX5_addTarget_100 rfl ?_
            refine J_iload 6 hC dX5_addTarget_102 rfl ?_
            refine cl_X5_109 hC (c_X4_init (ptS (sNew S g 6 0) q u v) g q (nI (vn σ)) f w m kg2 ((sg2.2.2.1 9).trans (if_pos rfl))) (Nat.le_of_ble_eq_true rfl) ⟨⟨Nat.le_of_ble_eq_true rfl, Nat.le_of_ble_eq_true rfl⟩, Nat.le_of_ble_eq_true rfl, Nat.le_of_ble_eq_true rfl⟩ dX5_addTarget_104 (fun S104 e104 => ?_)
            obtain ⟨o, r, fo, fr, hor, a1, kg3, g1, g5, ko3, o0, o1, kr3, nr3, gi⟩ := e104
            have nz : ∀ a, hK S a ≠ 0 → a ≠ g ∧ a ≠ o ∧ a ≠ r := fun a ha => ⟨fun z => ha (by rw [z]; exact fg), fun z => ha (by have e := (x2 a ha).1; rw [z] at e; rw [fo] at e; rw [z]; exact e.symm), fun z => ha (by have e := (x2 a ha).1; rw [z] at e; rw [fr] at e; rw [z]; exact e.symm)⟩
            have x3 : ext S S104 := fun a ha => (x2 a ha).trans (a1 a (nz a ha).1 (nz a ha).2.1 (nz a ha).2.2)
            have kl3 : hK S104 (A 0 5) = 1 := kE x3 hs.kl (by decide)
            have zo : hK S o = 0 := by refine Classical.byContradiction (fun z => ?_); exact (nz o z).2.1 rfl
            have zr : hK S r = 0 := by refine Classical.byContradiction (fun z => ?_); exact (nz r z).2.2 rfl
            have kq2 : hK (ptS (sNew S g 6 0) q u v) q = 5 := pt_k
            have hqo : q ≠ o := nqz fo kq2 (by decide)
            have hqr : q ≠ r := nqz fr kq2 (by decide)
            have sq3 := a1 q hgq.symm hqo hqr
            have sl3 := x3 (A 0 5) (by rw [hs.kl]; decide)
            refine cl_X5_112 hC (c_add S104 (A 0 5) g (A 0 6) (vn σ) kl3 kg3 ((sl3.2.2.1 2).trans hv.2.2.2.2.1) ((sl3.2.2.2.1 1).trans hs.pe) hn (by rcases hs.ed with z | ⟨z1, z2, z3⟩; exact Or.inl z; exact Or.inr ⟨kE x3 z1 (by decide), by rw [(x3 _ (by rw [z1]; decide)).2.1]; exact z2, by rw [(x3 _ (by rw [z1]; decide)).2.1]; exact z3⟩) (fun k hk y hy => by have e := (x3 (A 0 6) (by rw [hs.ked hk]; decide)).2.2.2.1 k; rw [e, hs.pg hk] at hy; cases hy; exact kE x3 (hs.kg hk) (by decide))) kl3 (Nat.le_of_ble_eq_true rfl) ⟨⟨Nat.le_of_ble_eq_true rfl, Nat.le_of_ble_eq_true rfl⟩, Nat.le_of_ble_eq_true rfl, Nat.le_of_ble_eq_true rfl⟩ dX5_addTarget_107 (fun r107 S107 e107 => ?_)
            obtain ⟨e', N', b1, b2, b3, b4, b5, b6, b7, b8, b9, b10, b11, b12⟩ := e107
            have s4 : ∀ a, a ≠ A 0 5 → hK S a ≠ 12 → hK S a ≠ 0 → same1 S S107 a := fun a h1 h2 h3 => (x3 a h3).trans (b10 a h1 (by rw [(x3 a h3).1]; exact h2) (by rw [(x3 a h3).1]; exact h3))
            have sp4 := s4 (A 0 7) (hK_ne hs.kp hs.kl (by decide)) (by rw [hs.kp]; decide) (by rw [hs.kp]; decide)
            have sx4 := s4 x (hK_ne hs.kx hs.kl (by decide)) (by rw [hs.kx]; decide) (by rw [hs.kx]; decide)
            have t4 : ∀ {a n}, hK S104 a = n → n ≠ 0 → n ≠ 1 → n ≠ 12 → same1 S104 S107 a := fun {a n} h1 h2 h3 h4 => b10 a (fun z => h3 (by rw [← h1, z]; exact kl3)) (by rw [h1]; exact h4) (by rw [h1]; exact h2)
            have sg4 := t4 kg3 (by decide) (by decide) (by decide)
            have so4 := t4 ko3 (by decide) (by decide) (by decide)
            have sr4 := t4 kr3 (by decide) (by decide) (by decide)
            have sq4 := t4 (sq3.1.trans kq2) (by decide) (by decide) (by decide)
            refine J_pop hC dX5_addTarget_110 rfl ?_
            refine J_aload_n 1 hC dX5_addTarget_111 rfl rfl ?_
            refine fg_X5_42 hC (sx4.1.trans hs.kx) ((sx4.2.2.2.1 _).trans hs.pp) dX5_addTarget_112 ?_
            refine J_iconst (v := 0) hC dX5_addTarget_115 (by decide) ?_
            refine fp_X5_116 hC (sp4.1.trans hs.kp) ⟨rfl, rfl⟩ dX5_addTarget_116 ?_
            refine J_iload 0 hC dX5_addTarget_119 rfl ?_
            refine J_iretI hC dX5_addTarget_121 (Nat.le_of_ble_eq_true rfl) (Nat.le_of_ble_eq_true rfl) ?_
            have np : ∀ {a n}, hK S107 a = n → n ≠ 4 → a ≠ A 0 7 := fun h1 h2 z => h2 (by rw [← h1, z]; exact sp4.1.trans hs.kp)
            have gk := sg4.1.trans kg3
            have ng := np gk (by decide)
            have ok := so4.1.trans ko3
            have no := np ok (by decide)
            have qk := sq4.1.trans (sq3.1.trans kq2)
            have nq := np qk (by decide)
            obtain ⟨gi0, gi2, gi3, gi4, gi6, gi7, gi8, gi9, gi10⟩ := gi
            have gI : ∀ {j v}, hI S104 j g = v → hI (sI S107 1 (A 0 7) 0) j g = v := fun h => (hI_na ng).trans ((sg4.2.2.1 _).trans h)
            have qI : ∀ {j z}, hI (ptS (sNew S g 6 0) q u v) j q = z → hI (sI S107 1 (A 0 7) 0) j q = z := fun h => (hI_na nq).trans ((sq4.2.2.1 _).trans ((sq3.2.2.1 _).trans h))
            refine ⟨hcs, hn, ⟨⟨_, newT (N := N') (e := e') (g := g) (q := q) (o := o) (r := r) h0 hn (addT_rng hr hn hcs) (fun a h1 h2 h3 h4 => (s4 a h1 h3 h4).trans ⟨rfl, rfl, fun _ => hI_na h2, fun _ => rfl, fun _ => rfl, fun _ => rfl⟩) ⟨kI b11, pI b6, ?_⟩ ⟨kI b4, b5, b1, b2, fun k hk => ?_, pI b8⟩ ⟨kI (sp4.1.trans hs.kp), fun k => sp4.2.2.2.1 k, hI_same _ _ _ _⟩ ⟨fg, kI gk, pI ((sg4.2.2.2.1 _).trans g1), pI ((sg4.2.2.2.1 _).trans g5), gI gi0, gI gi2, gI gi3, gI gi4, gI gi6, gI gi7, gI gi8, gI gi9, gI gi10⟩ ⟨kI qk, qI pt_0, qI pt_1, qI pt_2, qI pt_3⟩ ⟨zo, kI ok, pI ((so4.2.2.2.1 _).trans o0), (hI_na no).trans ((so4.2.2.1 _).trans o1)⟩ ⟨zr, kI (sr4.1.trans kr3), sr4.2.1.trans nr3⟩⟩, ?_⟩, rfl⟩
            · exact (hI_na (hK_ne b11 (sp4.1.trans hs.kp) (by decide))).trans b9
            · exact pI ((b7 k hk).trans ((x3 (A 0 6) (by rw [hs.ked hk]; decide)).2.2.2.1 k))
            · have hF : FrC S S107 := ⟨fun a ha => s4 a (fun z => by rw [z, hs.kl] at ha; omega) (by omega) (by omega), fun a ha => ?_⟩
              · exact hF.sI (lt14 (sp4.1.trans hs.kp) (by decide))
              · rw [b12 a (by rw [(x3 a ha).1]; exact ha)]; exact (x3 a ha).1
          · exact J_throwS hC hT (text := "there are 20 targets") (names := exN) fit_IS exN_ok (mG 295 (by decide +kernel) rfl) (mG 29 (by decide +kernel) rfl) (by decide +kernel) at_IS dX5_addTarget_61 dX5_addTarget_64 dX5_addTarget_65 dX5_addTarget_67 dX5_addTarget_70 (by decide) (Nat.le_of_ble_eq_true rfl) (Nat.le_of_ble_eq_true rfl) (Nat.le_of_ble_eq_true rfl) (Or.inr ⟨rfl, rfl, hcs, by have := (nI_leI (a := 20) (b := vn σ) (by decide) (by omega)).mp (Int32.not_lt.mp c58); omega⟩)
        · exact J_throwS hC hT (text := "no target is like this") (names := exN) fit_IA exN_ok (mG 179 (by decide +kernel) rfl) (mG 28 (by decide +kernel) rfl) (by decide +kernel) at_IA dX5_addTarget_39 dX5_addTarget_42 dX5_addTarget_43 dX5_addTarget_45 dX5_addTarget_48 (by decide) (Nat.le_of_ble_eq_true rfl) (Nat.le_of_ble_eq_true rfl) (Nat.le_of_ble_eq_true rfl) (Or.inl ⟨rfl, rfl, fun z => bI_eq c36 z.2.2.2⟩)
