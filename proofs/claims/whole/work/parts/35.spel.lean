/-! Parser: spellings, and a text taken whole -/
section Spel35
abbrev LxT : Type := Nat × F_ × F_ × F_ × F_
variable {x : Bool} {d : Nat} {h0 h : PH} {a p g r sz pn rc t q q2 : Nat} {nw pk cl cs f : F_} {R E : LxT}
/-- the tape's text, the rules, the book and the reader -/
def Env (h : PH) (t p q q2 r : Nat) (f : F_) (R E : LxT) : Prop := Rd h p q q2 r ∧ Lx h q 60 4 3 R.1 R.2.1 R.2.2.1 R.2.2.2.1 R.2.2.2.2 ∧ Lx h q2 40 10 20 E.1 E.2.1 E.2.2.1 E.2.2.2.1 E.2.2.2.2 ∧ h.2 t = some (cI 400 f) ∧ h.2 r = some (cO 8 [vI (20 : Nat), vR (r + 1), vR (r + 2)])
def EnvI (R E : LxT) : Prop := R.1 ≤ 60 ∧ E.1 ≤ 40 ∧ RwW 3 60 R.2.2.2.1 ∧ RwW 20 40 E.2.2.2.1 ∧ (∀ k, k < R.1 → 1 ≤ R.2.2.1 k ∧ R.2.2.1 k ≤ 400) ∧ (∀ k, k < E.1 → 1 ≤ E.2.2.2.1 k)
abbrev EnvO (t p q q2 r : Nat) : Prop := t < q ∧ q + 5 < q2 ∧ q2 + 5 < p ∧ p < r
theorem Lx.fr {most ml w sz : Nat} {cs ls lf sf : F_} (hf : ∀ z, q ≤ z → z ≤ q + 5 → h.2 z = h0.2 z) (hL : Lx h0 q most ml w sz cs ls lf sf) : Lx h q most ml w sz cs ls lf sf :=
  ⟨(hf _ (by omega) (by omega)).trans hL.1, (hf _ (by omega) (by omega)).trans hL.2.1, (hf _ (by omega) (by omega)).trans hL.2.2.1, (hf _ (by omega) (by omega)).trans hL.2.2.2.1, (hf _ (by omega) (by omega)).trans hL.2.2.2.2.1, (hf _ (by omega) (by omega)).trans hL.2.2.2.2.2⟩
theorem Env.fr (hf : ∀ z, z ≤ r → h.2 z = h0.2 z) (hO : EnvO t p q q2 r) (hE : Env h0 t p q q2 r f R E) : Env h t p q q2 r f R E :=
  ⟨(hf _ (by omega)).trans hE.1, hE.2.1.fr (fun z _ _ => hf z (by omega)), hE.2.2.1.fr (fun z _ _ => hf z (by omega)), (hf _ (by omega)).trans hE.2.2.2.1, (hf _ (by omega)).trans hE.2.2.2.2⟩
/-- a reading -/
abbrev rdE (R E : LxT) (f : F_) (b c : Nat) (lf sf : F_) : Int × F_ × F_ := rdT R.2.1 R.2.2.1 R.2.2.2.1 R.2.2.2.2 R.1 3 E.2.1 E.2.2.2.1 E.2.2.2.2 E.1 f b c lf sf
theorem rdGo_b {cs ls rl rs : F_} {sz w : Nat} {b c : Nat} (hW : RwW w sz rl) : ∀ (j at_ : Nat) (many : Int) (lf sf : F_), 0 ≤ lf 0 ∧ lf 0 ≤ 20 → 0 ≤ (rdGo cs ls rl rs sz w f b c j at_ many lf sf).2.1 0 ∧ (rdGo cs ls rl rs sz w f b c j at_ many lf sf).2.1 0 ≤ 20
  | 0, _, _, lf, sf, h => h
  | j + 1, at_, many, lf, sf, h => by
    unfold rdGo
    split
    · exact h
    · split
      · exact h
      · rename_i hk
        refine rdGo_b hW j _ _ _ _ ?_
        rcases lgst_b cs sz f (b + at_) (min (c - at_) 4) with hn | ⟨k, hk1, hk2⟩
        · exact absurd hn hk
        · have := hW.1 k hk1
          rw [hk2, Int.toNat_natCast, fS_s]
          have hj : 0 ≤ jn 20 (lf 0) (rl k) ∧ jn 20 (lf 0) (rl k) ≤ 20 - lf 0 := by unfold jn; split <;> omega
          omega
theorem rdE_b {b c : Nat} {lf sf : F_} (hE : EnvI R E) : 0 ≤ (rdE R E f b c lf sf).2.1 0 ∧ (rdE R E f b c lf sf).2.1 0 ≤ 20 := by
  obtain ⟨e1, e2, e3, e4, e5, e6⟩ := hE
  unfold rdE rdT
  split
  · exact rdGo_b ⟨fun j hj => e3.1 j (by omega), by omega, by omega, by omega⟩ _ _ _ _ _ (by rw [fS_s]; omega)
  · rename_i hk
    rcases fnd_b E.2.1 (cd_ f b c) E.1 0 with hn | ⟨k, hk1, hk2, hk3, hk4⟩
    · exact absurd hn hk
    · have := e4.1 k (by omega)
      rw [hk3, Int.toNat_natCast]
      show 0 ≤ fS lf 0 (jn 20 0 (E.2.2.2.1 k)) 0 ∧ fS lf 0 (jn 20 0 (E.2.2.2.1 k)) 0 ≤ 20
      rw [fS_s]
      have hj : 0 ≤ jn 20 0 (E.2.2.2.1 k) ∧ jn 20 0 (E.2.2.2.1 k) ≤ 20 := by unfold jn; split <;> omega
      exact hj
def tkSpell (R E : LxT) (f : F_) (rc bh : Nat) : PS → Int × PS
  | ⟨⟨o, e⟩, ⟨wc, pc⟩, ⟨wl, ws, wp, wq⟩, ⟨op, oq, pt, ob⟩, ⟨lf, sf⟩⟩ =>
    if 10 < bh - rc then (2, ⟨⟨o, e⟩, ⟨wc, pc⟩, ⟨wl, ws, wp, wq⟩, ⟨op, oq, pt, ob⟩, ⟨lf, sf⟩⟩)
    else if (rdE R E f rc (bh - rc) lf sf).1 < 0 then (3, ⟨⟨o, e⟩, ⟨wc, pc⟩, ⟨wl, ws, wp, wq⟩, ⟨op, oq, pt, ob⟩, (rdE R E f rc (bh - rc) lf sf).2⟩)
    else if wc = 20 then (4, ⟨⟨o, 0⟩, ⟨wc, pc⟩, ⟨wl, ws, wp, wq⟩, ⟨op, oq, pt, ob⟩, (rdE R E f rc (bh - rc) lf sf).2⟩)
    else (0, ⟨⟨o, 0⟩, ⟨wc + 1, pc⟩, ⟨fS wl wc (jn 20 0 ((rdE R E f rc (bh - rc) lf sf).2.1 0)), va_cpy (rdE R E f rc (bh - rc) lf sf).2.2 ws (0 * 20) (wc * 20) (jn 20 0 ((rdE R E f rc (bh - rc) lf sf).2.1 0)).toNat, fS wp wc o, fS wq wc (lpt pc pt o)⟩, ⟨op, oq, pt, ob⟩, (rdE R E f rc (bh - rc) lf sf).2⟩)
set_option maxRecDepth 100000 in
set_option maxHeartbeats 4000000 in
theorem e_result (hp : Rd h p q q2 r) : k_Ev x d 0 0 mX7_result [vR p] h (fun o h' => o = rR r ∧ h' = h) := by
  refine k_enp 0 (Nat.le_of_ble_eq_true rfl) (p_go [] 40 ?_)
  simp only [st_0, st_1, st_2, st_3, st_4, st_5, st_6, st_7, st_8, st_9, st_10, st_11, st_12, st_13, st_14, st_15, st_16, st_17, st_18, st_19, st_20, st_21, st_22, st_23, st_24, st_25, st_26, st_27, st_28, st_29, st_30, st_31, st_32, st_33, st_34, st_34a, st_35, st_36, st_37, st_38, st_39, st_42, st_44, st_45, st_47, st_40, st_41, st_46, st_48, st_49, st_43, go_0, go_s, cut_0, cut_s, get_0, get_s, put_0, put_1, put_s, clr_0, clr_s, unl_i, unl_l, unl_r, unl_n, nth_0, nth_s, sf_0, sf_s, cnd_0, cnd_1, cnd_2, cnd_3, cnd_4, cnd_5, fit_0, fit_1, fit_2, en_0, en_i, en_l, en_r, kb_t, kb_f, kb_n, sw_0, sw_s, ↓reduceIte, Nat.reduceEqDiff, Nat.left_eq_add, Nat.add_eq_left, Nat.add_left_cancel_iff, Nat.reduceAdd, Int.reduceLT, Int.reduceLE, Int.reduceAdd, Int.reduceSub, Int.reduceNeg, Int.reduceMul, Int.reduceToNat, Int.reduceEq, reduceCtorEq, true_and, and_true, true_or, or_true, and_false, false_and, or_false, false_or, not_true_eq_false, not_false_eq_true, Nat.le_refl, and_self, Sum.inl.injEq, Sum.inr.injEq, Option.some.injEq, hS_2, k_isref, pd_0, pd_s, List.cons_append, List.nil_append, Option.toList_none, Option.toList_some, tX7_result, rX7_result, hp]
set_option maxRecDepth 100000 in
set_option maxHeartbeats 4000000 in
theorem e_takeSpelling {S : PS} {bh : Nat} (hS1 : Ps h0 h a p g r sz pn rc nw pk cl cs S) (hI : psI rc S) (hE : Env h0 t p q q2 r f R E) (hEI : EnvI R E) (hO : EnvO t p q q2 r) (hrc : rc ≤ 400) (hra : r + 2 < a) (hag : a < g) (hd : 4 ≤ d) (hbh : rc ≤ bh ∧ bh ≤ 400) (hal : alls f rc (bh - rc)) : k_Ev x d 0 0 mX6_takeSpelling [vR a, vR t, vI bh, vR g] h (PsP h0 a p g r sz pn rc nw pk cl cs (tkSpell R E f rc bh S)) := by
  obtain ⟨⟨o, e⟩, ⟨wc, pc⟩, ⟨wl, ws, wp, wq⟩, ⟨op, oq, pt, ob⟩, ⟨lf, sf⟩⟩ := S
  obtain ⟨s1, s2, s3, ⟨g1, gR, g4, g5, g6, g7, g8, g9, g10, g11, gC⟩, s5, s6⟩ := hS1
  obtain ⟨i1, i2, i3, i4, i5, i6, i7, i8, i9⟩ := hI
  simp only at s3 g1 gR g4 g5 g6 g7 g8 g9 g10 g11 gC s5 s6 i1 i2 i3 i4 i5 i6 i7 i8 i9
  have hEh : Env h t p q q2 r f R E := hE.fr (fun z hz => s2 z (by omega) (by omega) (by omega) (by omega)) hO
  have hb := rdE_b (f := f) (b := rc) (c := bh - rc) (lf := lf) (sf := sf) hEI
  unfold tkSpell
  have e0 : (bh : Int) - (rc : Int) = ((bh - rc : Nat) : Int) := by omega
  refine k_enp 0 (Nat.le_of_ble_eq_true rfl) (p_go [] 40 ?_)
  simp only [st_0, st_1, st_2, st_3, st_4, st_5, st_6, st_7, st_8, st_9, st_10, st_11, st_12, st_13, st_14, st_15, st_16, st_17, st_18, st_19, st_20, st_21, st_22, st_23, st_24, st_25, st_26, st_27, st_28, st_29, st_30, st_31, st_32, st_33, st_34, st_34a, st_35, st_36, st_37, st_38, st_39, st_42, st_44, st_45, st_47, st_40, st_41, st_46, st_48, st_49, st_43, go_0, go_s, cut_0, cut_s, get_0, get_s, put_0, put_1, put_s, clr_0, clr_s, unl_i, unl_l, unl_r, unl_n, nth_0, nth_s, sf_0, sf_s, cnd_0, cnd_1, cnd_2, cnd_3, cnd_4, cnd_5, fit_0, fit_1, fit_2, en_0, en_i, en_l, en_r, kb_t, kb_f, kb_n, sw_0, sw_s, ↓reduceIte, Nat.reduceEqDiff, Nat.left_eq_add, Nat.add_eq_left, Nat.add_left_cancel_iff, Nat.reduceAdd, Int.reduceLT, Int.reduceLE, Int.reduceAdd, Int.reduceSub, Int.reduceNeg, Int.reduceMul, Int.reduceToNat, Int.reduceEq, reduceCtorEq, true_and, and_true, true_or, or_true, and_false, false_and, or_false, false_or, not_true_eq_false, not_false_eq_true, Nat.le_refl, and_self, Sum.inl.injEq, Sum.inr.injEq, Option.some.injEq, hS_2, k_isref, pd_0, pd_s, List.cons_append, List.nil_append, Option.toList_none, Option.toList_some, tX6_takeSpelling, rX6_takeSpelling, s3, e0]
  refine ⟨⟨by omega, by omega⟩, k_brI (fun c1 => ⟨⟨by omega, by omega⟩, ?_⟩) (fun c1 => ?_)⟩
  · rw [if_neg (by omega)]
    obtain ⟨n1, n2, n3, n4, n5⟩ := hEh
    obtain ⟨m1, m2, m3, m4, m5, m6⟩ := hEI
    refine cVQ (d' := 3) (P' := fun o' h' => o' = rI (rdE R E f rc (bh - rc) lf sf).1 ∧ h' = rsH h r (rdE R E f rc (bh - rc) lf sf).2.1 (rdE R E f rc (bh - rc) lf sf).2.2) [vR t, vI rc, vI ((bh - rc : Nat) : Int)] [] l_6_56 n1 (e_tryText n1 n2 m1 (by omega) n3 m2 (by omega) m4 n4 ⟨n5, s5, s6⟩ i6 m3 (by omega) m5 (Nat.le_refl 3) hal (by omega) (by omega) (by omega) (by omega) hO.2.2.2 (by omega) ⟨rfl, rfl⟩) (by omega) ?_ (fun E h' q => by cases q.1)
    intro r1 h1 ⟨q1, q2'⟩
    cases q1
    subst q2'
    generalize rdE R E f rc (bh - rc) lf sf = T at hb ⊢
    obtain ⟨T1, lf2, sf2⟩ := T
    simp only at hb ⊢
    have k3 : (rsH h r lf2 sf2).2 a = some (prO p o e rc) := (rsH_n (by omega) (by omega)).trans s3
    have kp : Rd (rsH h r lf2 sf2) p q q2 r := (rsH_n (by omega) (by omega)).trans n1
    have hx : ∀ z, z ≠ r + 1 → z ≠ r + 2 → (rsH h r lf2 sf2).2 z = h.2 z := fun z z1 z2 => rsH_n z1 z2
    have x1 : (rsH h r lf2 sf2).2 (r + 1) = some (cI 1 lf2) := hS_s _ _ _
    have x2 : (rsH h r lf2 sf2).2 (r + 2) = some (cI 20 sf2) := (hS_n (by omega)).trans (hS_s _ _ _)
    have x0 : (rsH h r lf2 sf2).1 = h.1 := rfl
    generalize rsH h r lf2 sf2 = hk at k3 kp hx x1 x2 x0 ⊢
    refine p_go [] 40 ?_
    by_cases hT : T1 < 0
    · simp only [st_0, st_1, st_2, st_3, st_4, st_5, st_6, st_7, st_8, st_9, st_10, st_11, st_12, st_13, st_14, st_15, st_16, st_17, st_18, st_19, st_20, st_21, st_22, st_23, st_24, st_25, st_26, st_27, st_28, st_29, st_30, st_31, st_32, st_33, st_34, st_34a, st_35, st_36, st_37, st_38, st_39, st_42, st_44, st_45, st_47, st_40, st_41, st_46, st_48, st_49, st_43, go_0, go_s, cut_0, cut_s, get_0, get_s, put_0, put_1, put_s, clr_0, clr_s, unl_i, unl_l, unl_r, unl_n, nth_0, nth_s, sf_0, sf_s, cnd_0, cnd_1, cnd_2, cnd_3, cnd_4, cnd_5, fit_0, fit_1, fit_2, en_0, en_i, en_l, en_r, kb_t, kb_f, kb_n, sw_0, sw_s, ↓reduceIte, Nat.reduceEqDiff, Nat.left_eq_add, Nat.add_eq_left, Nat.add_left_cancel_iff, Nat.reduceAdd, Int.reduceLT, Int.reduceLE, Int.reduceAdd, Int.reduceSub, Int.reduceNeg, Int.reduceMul, Int.reduceToNat, Int.reduceEq, reduceCtorEq, true_and, and_true, true_or, or_true, and_false, false_and, or_false, false_or, not_true_eq_false, not_false_eq_true, Nat.le_refl, and_self, Sum.inl.injEq, Sum.inr.injEq, Option.some.injEq, hS_2, k_isref, pd_0, pd_s, List.cons_append, List.nil_append, Option.toList_none, Option.toList_some, tX6_takeSpelling, rX6_takeSpelling]
      refine k_brF (by omega) ?_
      rw [if_pos hT]
      refine ⟨rfl, x0.trans s1, fun z z1 z2 z3 z4 => (hx z z3 z4).trans (s2 z z1 z2 z3 z4), k3, ⟨?_, ⟨?_, ?_, ?_⟩, ?_, ?_, ?_, ?_, ?_, ?_, ?_, ?_, ⟨?_, ?_, ?_⟩⟩, x1, x2⟩
      all_goals refine (hx _ (by omega) (by omega)).trans ?_
      · exact g1
      · exact gR.1
      · exact gR.2.1
      · exact gR.2.2
      · exact g4
      · exact g5
      · exact g6
      · exact g7
      · exact g8
      · exact g9
      · exact g10
      · exact g11
      · exact gC.1
      · exact gC.2.1
      · exact gC.2.2
    · simp only [st_0, st_1, st_2, st_3, st_4, st_5, st_6, st_7, st_8, st_9, st_10, st_11, st_12, st_13, st_14, st_15, st_16, st_17, st_18, st_19, st_20, st_21, st_22, st_23, st_24, st_25, st_26, st_27, st_28, st_29, st_30, st_31, st_32, st_33, st_34, st_34a, st_35, st_36, st_37, st_38, st_39, st_42, st_44, st_45, st_47, st_40, st_41, st_46, st_48, st_49, st_43, go_0, go_s, cut_0, cut_s, get_0, get_s, put_0, put_1, put_s, clr_0, clr_s, unl_i, unl_l, unl_r, unl_n, nth_0, nth_s, sf_0, sf_s, cnd_0, cnd_1, cnd_2, cnd_3, cnd_4, cnd_5, fit_0, fit_1, fit_2, en_0, en_i, en_l, en_r, kb_t, kb_f, kb_n, sw_0, sw_s, ↓reduceIte, Nat.reduceEqDiff, Nat.left_eq_add, Nat.add_eq_left, Nat.add_left_cancel_iff, Nat.reduceAdd, Int.reduceLT, Int.reduceLE, Int.reduceAdd, Int.reduceSub, Int.reduceNeg, Int.reduceMul, Int.reduceToNat, Int.reduceEq, reduceCtorEq, true_and, and_true, true_or, or_true, and_false, false_and, or_false, false_or, not_true_eq_false, not_false_eq_true, Nat.le_refl, and_self, Sum.inl.injEq, Sum.inr.injEq, Option.some.injEq, hS_2, k_isref, pd_0, pd_s, List.cons_append, List.nil_append, Option.toList_none, Option.toList_some, tX6_takeSpelling, rX6_takeSpelling, k3]
      refine k_brT (by omega) ?_
      rw [if_neg hT]
      have hy : ∀ z, z ≠ a → z ≠ r + 1 → z ≠ r + 2 → (hS hk a (prO p o 0 rc)).2 z = h.2 z := fun z z1 z2 z3 => (hS_n z1).trans (hx z z2 z3)
      have y3 : (hS hk a (prO p o 0 rc)).2 a = some (prO p o 0 rc) := hS_s _ _ _
      have y1 : (hS hk a (prO p o 0 rc)).2 (r + 1) = some (cI 1 lf2) := (hS_n (by omega)).trans x1
      have y2 : (hS hk a (prO p o 0 rc)).2 (r + 2) = some (cI 20 sf2) := (hS_n (by omega)).trans x2
      have y0 : (hS hk a (prO p o 0 rc)).1 = h.1 := x0
      show k_Wp _ _ _ _ _ _ _ _ _ _ _ (hS hk a (prO p o 0 rc))
      generalize hS hk a (prO p o 0 rc) = h2 at hy y0 y1 y2 y3 ⊢
      have z1 := (hy g (by omega) (by omega) (by omega)).trans g1
      have zR : Rw h2 (g + 1) 20 20 wl ws := ⟨(hy _ (by omega) (by omega) (by omega)).trans gR.1, (hy _ (by omega) (by omega) (by omega)).trans gR.2.1, (hy _ (by omega) (by omega) (by omega)).trans gR.2.2⟩
      have zC : Rw h2 (g + 12) 40 120 cl cs := ⟨(hy _ (by omega) (by omega) (by omega)).trans gC.1, (hy _ (by omega) (by omega) (by omega)).trans gC.2.1, (hy _ (by omega) (by omega) (by omega)).trans gC.2.2⟩
      have z4 := (hy (g + 4) (by omega) (by omega) (by omega)).trans g4
      have z5 := (hy (g + 5) (by omega) (by omega) (by omega)).trans g5
      have z6 := (hy (g + 6) (by omega) (by omega) (by omega)).trans g6
      have z7 := (hy (g + 7) (by omega) (by omega) (by omega)).trans g7
      have z8 := (hy (g + 8) (by omega) (by omega) (by omega)).trans g8
      have z9 := (hy (g + 9) (by omega) (by omega) (by omega)).trans g9
      have z10 := (hy (g + 10) (by omega) (by omega) (by omega)).trans g10
      have z11 := (hy (g + 11) (by omega) (by omega) (by omega)).trans g11
      have zp : Rd h2 p q q2 r := (hy p (by omega) (by omega) (by omega)).trans n1
      have zr : h2.2 r = some (cO 8 [vI (20 : Nat), vR (r + 1), vR (r + 2)]) := (hy r (by omega) (by omega) (by omega)).trans n5
      refine cV (d' := 0) [] [vR g] l_6_61 zp (e_result zp) (by omega) (p_go [] 40 ?_)
      simp only [st_0, st_1, st_2, st_3, st_4, st_5, st_6, st_7, st_8, st_9, st_10, st_11, st_12, st_13, st_14, st_15, st_16, st_17, st_18, st_19, st_20, st_21, st_22, st_23, st_24, st_25, st_26, st_27, st_28, st_29, st_30, st_31, st_32, st_33, st_34, st_34a, st_35, st_36, st_37, st_38, st_39, st_42, st_44, st_45, st_47, st_40, st_41, st_46, st_48, st_49, st_43, go_0, go_s, cut_0, cut_s, get_0, get_s, put_0, put_1, put_s, clr_0, clr_s, unl_i, unl_l, unl_r, unl_n, nth_0, nth_s, sf_0, sf_s, cnd_0, cnd_1, cnd_2, cnd_3, cnd_4, cnd_5, fit_0, fit_1, fit_2, en_0, en_i, en_l, en_r, kb_t, kb_f, kb_n, sw_0, sw_s, ↓reduceIte, Nat.reduceEqDiff, Nat.left_eq_add, Nat.add_eq_left, Nat.add_left_cancel_iff, Nat.reduceAdd, Int.reduceLT, Int.reduceLE, Int.reduceAdd, Int.reduceSub, Int.reduceNeg, Int.reduceMul, Int.reduceToNat, Int.reduceEq, reduceCtorEq, true_and, and_true, true_or, or_true, and_false, false_and, or_false, false_or, not_true_eq_false, not_false_eq_true, Nat.le_refl, and_self, Sum.inl.injEq, Sum.inr.injEq, Option.some.injEq, hS_2, k_isref, pd_0, pd_s, List.cons_append, List.nil_append, Option.toList_none, Option.toList_some, tX6_takeSpelling, rX6_takeSpelling, y3]
      refine cVQ (d' := 3) (P' := fun o' h' => (wc = 20 ∧ o' = rI 0 ∧ h' = h2) ∨ (wc < 20 ∧ o' = rI 1 ∧ h' = awH h2 g wc pc sz pn wl ws wp wq pt lf2 sf2 o)) [vR r, vI o] [] l_6_65 z1 (e_addWord z1 zR i5 z4 z5 z8 ⟨zr, y1, y2⟩ ⟨fun j hj => by rw [show j = 0 by omega]; exact hb, by decide, by decide, by decide⟩ (by omega) i3 i4 (Nat.le_refl 3) (fun k hk => ⟨(i7 k hk).1, by have := (i7 k hk).2; omega⟩) (fun c => Or.inl ⟨c, rfl, rfl⟩) (fun c => Or.inr ⟨c, rfl, rfl⟩)) (by omega) ?_ (fun E h' q => by rcases q with ⟨_, q, _⟩ | ⟨_, q, _⟩ <;> cases q)
      intro r2 hr2 u
      rcases u with ⟨c, u1, u2⟩ | ⟨c, u1, u2⟩
      · cases u1
        subst u2
        refine p_go [] 40 ?_
        simp only [st_0, st_1, st_2, st_3, st_4, st_5, st_6, st_7, st_8, st_9, st_10, st_11, st_12, st_13, st_14, st_15, st_16, st_17, st_18, st_19, st_20, st_21, st_22, st_23, st_24, st_25, st_26, st_27, st_28, st_29, st_30, st_31, st_32, st_33, st_34, st_34a, st_35, st_36, st_37, st_38, st_39, st_42, st_44, st_45, st_47, st_40, st_41, st_46, st_48, st_49, st_43, go_0, go_s, cut_0, cut_s, get_0, get_s, put_0, put_1, put_s, clr_0, clr_s, unl_i, unl_l, unl_r, unl_n, nth_0, nth_s, sf_0, sf_s, cnd_0, cnd_1, cnd_2, cnd_3, cnd_4, cnd_5, fit_0, fit_1, fit_2, en_0, en_i, en_l, en_r, kb_t, kb_f, kb_n, sw_0, sw_s, ↓reduceIte, Nat.reduceEqDiff, Nat.left_eq_add, Nat.add_eq_left, Nat.add_left_cancel_iff, Nat.reduceAdd, Int.reduceLT, Int.reduceLE, Int.reduceAdd, Int.reduceSub, Int.reduceNeg, Int.reduceMul, Int.reduceToNat, Int.reduceEq, reduceCtorEq, true_and, and_true, true_or, or_true, and_false, false_and, or_false, false_or, not_true_eq_false, not_false_eq_true, Nat.le_refl, and_self, Sum.inl.injEq, Sum.inr.injEq, Option.some.injEq, hS_2, k_isref, pd_0, pd_s, List.cons_append, List.nil_append, Option.toList_none, Option.toList_some, tX6_takeSpelling, rX6_takeSpelling, y3]
        rw [if_pos c]
        exact ⟨rfl, y0.trans s1, fun z v1 v2 v3 v4 => (hy z v1 v3 v4).trans (s2 z v1 v2 v3 v4), y3, ⟨z1, zR, z4, z5, z6, z7, z8, z9, z10, z11, zC⟩, y1, y2⟩
      · cases u1
        subst u2
        refine p_go [] 40 ?_
        simp only [st_0, st_1, st_2, st_3, st_4, st_5, st_6, st_7, st_8, st_9, st_10, st_11, st_12, st_13, st_14, st_15, st_16, st_17, st_18, st_19, st_20, st_21, st_22, st_23, st_24, st_25, st_26, st_27, st_28, st_29, st_30, st_31, st_32, st_33, st_34, st_34a, st_35, st_36, st_37, st_38, st_39, st_42, st_44, st_45, st_47, st_40, st_41, st_46, st_48, st_49, st_43, go_0, go_s, cut_0, cut_s, get_0, get_s, put_0, put_1, put_s, clr_0, clr_s, unl_i, unl_l, unl_r, unl_n, nth_0, nth_s, sf_0, sf_s, cnd_0, cnd_1, cnd_2, cnd_3, cnd_4, cnd_5, fit_0, fit_1, fit_2, en_0, en_i, en_l, en_r, kb_t, kb_f, kb_n, sw_0, sw_s, ↓reduceIte, Nat.reduceEqDiff, Nat.left_eq_add, Nat.add_eq_left, Nat.add_left_cancel_iff, Nat.reduceAdd, Int.reduceLT, Int.reduceLE, Int.reduceAdd, Int.reduceSub, Int.reduceNeg, Int.reduceMul, Int.reduceToNat, Int.reduceEq, reduceCtorEq, true_and, and_true, true_or, or_true, and_false, false_and, or_false, false_or, not_true_eq_false, not_false_eq_true, Nat.le_refl, and_self, Sum.inl.injEq, Sum.inr.injEq, Option.some.injEq, hS_2, k_isref, pd_0, pd_s, List.cons_append, List.nil_append, Option.toList_none, Option.toList_some, tX6_takeSpelling, rX6_takeSpelling, y3]
        rw [if_neg (by omega)]
        refine ⟨rfl, y0.trans s1, fun z v1 v2 v3 v4 => ?_, ?_, ⟨?_, ?_, ?_, ?_, ?_, ?_, ?_, ?_, ?_, ?_, ?_⟩, ?_, ?_⟩
        all_goals unfold awH
        · (repeat (first | exact hS_s _ _ _ | refine (hS_n (by omega)).trans ?_)); exact (hy z v1 v3 v4).trans (s2 z v1 v2 v3 v4)
        · (repeat (first | exact hS_s _ _ _ | refine (hS_n (by omega)).trans ?_)); exact y3
        · (repeat (first | exact hS_s _ _ _ | refine (hS_n (by omega)).trans ?_))
        · exact ⟨by (repeat (first | exact hS_s _ _ _ | refine (hS_n (by omega)).trans ?_)); exact zR.1, by (repeat (first | exact hS_s _ _ _ | refine (hS_n (by omega)).trans ?_)), by (repeat (first | exact hS_s _ _ _ | refine (hS_n (by omega)).trans ?_))⟩
        · (repeat (first | exact hS_s _ _ _ | refine (hS_n (by omega)).trans ?_))
        · (repeat (first | exact hS_s _ _ _ | refine (hS_n (by omega)).trans ?_))
        · (repeat (first | exact hS_s _ _ _ | refine (hS_n (by omega)).trans ?_)); exact z6
        · (repeat (first | exact hS_s _ _ _ | refine (hS_n (by omega)).trans ?_)); exact z7
        · (repeat (first | exact hS_s _ _ _ | refine (hS_n (by omega)).trans ?_)); exact z8
        · (repeat (first | exact hS_s _ _ _ | refine (hS_n (by omega)).trans ?_)); exact z9
        · (repeat (first | exact hS_s _ _ _ | refine (hS_n (by omega)).trans ?_)); exact z10
        · (repeat (first | exact hS_s _ _ _ | refine (hS_n (by omega)).trans ?_)); exact z11
        · exact ⟨by (repeat (first | exact hS_s _ _ _ | refine (hS_n (by omega)).trans ?_)); exact zC.1, by (repeat (first | exact hS_s _ _ _ | refine (hS_n (by omega)).trans ?_)); exact zC.2.1, by (repeat (first | exact hS_s _ _ _ | refine (hS_n (by omega)).trans ?_)); exact zC.2.2⟩
        · (repeat (first | exact hS_s _ _ _ | refine (hS_n (by omega)).trans ?_)); exact y1
        · (repeat (first | exact hS_s _ _ _ | refine (hS_n (by omega)).trans ?_)); exact y2
  · rw [if_pos (by omega)]
    exact ⟨rfl, s1, s2, s3, ⟨g1, gR, g4, g5, g6, g7, g8, g9, g10, g11, gC⟩, s5, s6⟩
end Spel35
