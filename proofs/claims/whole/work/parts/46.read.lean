/-! SpokenDesk: readTape, read -/
section Read46
variable {x : Bool} {d : Nat} {h : PH} {sp sr : Nat} {pl : Int} {P : PO → PH → Prop} {lf sf f : F_} {R E : LxT}
theorem alls_isSp {n sz : Nat} {most : Nat} (hs : isSp f sz n most) : alls f 0 n := by
  have := hs.2.2.2
  rw [Int.toNat_natCast] at this
  exact this
-- a tape cleared
abbrev tpZ (h : PH) : PH := hS h 12 (cO 10 [vR 13, vI 0])
set_option maxRecDepth 100000 in
set_option maxHeartbeats 4000000 in
theorem e_readTape {n sz : Nat} {lf sf : F_} (h1 : h.2 1 = some (sdO sp sr pl)) (hT : Tp h 12 sz f) (hsz : sz ≤ 400) (hn : n ≤ sz) (hE : Env h 13 26 14 20 27 f R E) (hEI : EnvI R E) (hR5 : h.2 28 = some (cI 1 lf)) (hR6 : h.2 29 = some (cI 20 sf)) (hl : 0 ≤ lf 0 ∧ lf 0 ≤ 20) (hd : 4 ≤ d)
    (c1 : ¬ isSp f sz n 10 → P (rI (-1)) (tpZ h))
    (c2 : isSp f sz n 10 → P (rI (rdE R E f 0 n lf sf).1) (rsH (tpZ h) 27 (rdE R E f 0 n lf sf).2.1 (rdE R E f 0 n lf sf).2.2)) :
    k_Ev x d 0 0 mX11_readTape [vR 1, vI n] h P := by
  have hO : EnvO 13 26 14 20 27 := ⟨by decide, by decide, by decide, by decide⟩
  have hTz : Tp (tpZ h) 12 0 f := ⟨hS_s _ _ _, (hS_n (by decide)).trans hT.2⟩
  have hz : ∀ z, z ≠ 12 → (tpZ h).2 z = h.2 z := fun z z1 => hS_n z1
  have k1 := (hz 1 (by decide)).trans h1
  obtain ⟨n1, n2, n3, n4, n5⟩ := hE
  have m1 : Rd (tpZ h) 26 14 20 27 := (hz 26 (by decide)).trans n1
  have m2 := n2.fr (h := tpZ h) (fun z z1 z2 => hz z (by omega))
  have m3 := n3.fr (h := tpZ h) (fun z z1 z2 => hz z (by omega))
  have m4 := (hz 13 (by decide)).trans n4
  have m5 := (hz 27 (by decide)).trans n5
  have m6 := (hz 28 (by decide)).trans hR5
  have m7 := (hz 29 (by decide)).trans hR6
  obtain ⟨i1, i2, i3, i4, i5, i6⟩ := hEI
  refine k_enp 1 (Nat.le_of_ble_eq_true rfl) (p_go [] 40 ?_)
  simp only [st_0, st_1, st_2, st_3, st_4, st_5, st_6, st_7, st_8, st_9, st_10, st_11, st_12, st_13, st_14, st_15, st_16, st_17, st_18, st_19, st_20, st_21, st_22, st_23, st_24, st_25, st_26, st_27, st_28, st_29, st_30, st_31, st_32, st_33, st_34, st_34a, st_35, st_36, st_37, st_38, st_39, st_42, st_44, st_45, st_47, st_40, st_41, st_46, st_48, st_49, st_43, go_0, go_s, cut_0, cut_s, get_0, get_s, put_0, put_1, put_s, clr_0, clr_s, unl_i, unl_l, unl_r, unl_n, nth_0, nth_s, sf_0, sf_s, cnd_0, cnd_1, cnd_2, cnd_3, cnd_4, cnd_5, fit_0, fit_1, fit_2, en_0, en_i, en_l, en_r, kb_t, kb_f, kb_n, sw_0, sw_s, ↓reduceIte, Nat.reduceEqDiff, Nat.left_eq_add, Nat.add_eq_left, Nat.add_left_cancel_iff, Nat.reduceAdd, Int.reduceLT, Int.reduceLE, Int.reduceAdd, Int.reduceSub, Int.reduceNeg, Int.reduceMul, Int.reduceToNat, Int.reduceEq, reduceCtorEq, true_and, and_true, true_or, or_true, and_false, false_and, or_false, false_or, not_true_eq_false, not_false_eq_true, Nat.le_refl, and_self, Sum.inl.injEq, Sum.inr.injEq, Option.some.injEq, hS_2, k_isref, pd_0, pd_s, List.cons_append, List.nil_append, Option.toList_none, Option.toList_some, tX11_readTape, rX11_readTape, h1]
  refine cVQ (d' := 1) [vI n, vI ((10 : Nat) : Int)] [] l_11_285 hT.1 (e_isSp hT hsz (by omega) (Nat.le_refl 1) n) (by omega) ?_ (fun E h' q => by rcases q.2 with ⟨_, q⟩ | ⟨_, q⟩ <;> cases q)
  intro r1 h2 ⟨q1, q2⟩
  subst q1
  rcases q2 with ⟨hs, q2⟩ | ⟨hs, q2⟩
  · cases q2
    have hsn : n ≤ 10 := by have := hs.2.1; omega
    refine p_go [] 40 ?_
    simp only [st_0, st_1, st_2, st_3, st_4, st_5, st_6, st_7, st_8, st_9, st_10, st_11, st_12, st_13, st_14, st_15, st_16, st_17, st_18, st_19, st_20, st_21, st_22, st_23, st_24, st_25, st_26, st_27, st_28, st_29, st_30, st_31, st_32, st_33, st_34, st_34a, st_35, st_36, st_37, st_38, st_39, st_42, st_44, st_45, st_47, st_40, st_41, st_46, st_48, st_49, st_43, go_0, go_s, cut_0, cut_s, get_0, get_s, put_0, put_1, put_s, clr_0, clr_s, unl_i, unl_l, unl_r, unl_n, nth_0, nth_s, sf_0, sf_s, cnd_0, cnd_1, cnd_2, cnd_3, cnd_4, cnd_5, fit_0, fit_1, fit_2, en_0, en_i, en_l, en_r, kb_t, kb_f, kb_n, sw_0, sw_s, ↓reduceIte, Nat.reduceEqDiff, Nat.left_eq_add, Nat.add_eq_left, Nat.add_left_cancel_iff, Nat.reduceAdd, Int.reduceLT, Int.reduceLE, Int.reduceAdd, Int.reduceSub, Int.reduceNeg, Int.reduceMul, Int.reduceToNat, Int.reduceEq, reduceCtorEq, true_and, and_true, true_or, or_true, and_false, false_and, or_false, false_or, not_true_eq_false, not_false_eq_true, Nat.le_refl, and_self, Sum.inl.injEq, Sum.inr.injEq, Option.some.injEq, hS_2, k_isref, pd_0, pd_s, List.cons_append, List.nil_append, Option.toList_none, Option.toList_some, tX11_readTape, rX11_readTape, h1]
    refine cV (d' := 0) [] [] l_11_172 hT.1 (e_tclear hT) (by omega) (p_go [] 40 ?_)
    simp only [st_0, st_1, st_2, st_3, st_4, st_5, st_6, st_7, st_8, st_9, st_10, st_11, st_12, st_13, st_14, st_15, st_16, st_17, st_18, st_19, st_20, st_21, st_22, st_23, st_24, st_25, st_26, st_27, st_28, st_29, st_30, st_31, st_32, st_33, st_34, st_34a, st_35, st_36, st_37, st_38, st_39, st_42, st_44, st_45, st_47, st_40, st_41, st_46, st_48, st_49, st_43, go_0, go_s, cut_0, cut_s, get_0, get_s, put_0, put_1, put_s, clr_0, clr_s, unl_i, unl_l, unl_r, unl_n, nth_0, nth_s, sf_0, sf_s, cnd_0, cnd_1, cnd_2, cnd_3, cnd_4, cnd_5, fit_0, fit_1, fit_2, en_0, en_i, en_l, en_r, kb_t, kb_f, kb_n, sw_0, sw_s, ↓reduceIte, Nat.reduceEqDiff, Nat.left_eq_add, Nat.add_eq_left, Nat.add_left_cancel_iff, Nat.reduceAdd, Int.reduceLT, Int.reduceLE, Int.reduceAdd, Int.reduceSub, Int.reduceNeg, Int.reduceMul, Int.reduceToNat, Int.reduceEq, reduceCtorEq, true_and, and_true, true_or, or_true, and_false, false_and, or_false, false_or, not_true_eq_false, not_false_eq_true, Nat.le_refl, and_self, Sum.inl.injEq, Sum.inr.injEq, Option.some.injEq, hS_2, k_isref, pd_0, pd_s, List.cons_append, List.nil_append, Option.toList_none, Option.toList_some, tX11_readTape, rX11_readTape, k1, h1]
    refine cV (d' := 0) [] [vR 26] l_11_174 hTz.1 (e_text hTz) (by omega) (p_go [] 40 ?_)
    simp only [st_0, st_1, st_2, st_3, st_4, st_5, st_6, st_7, st_8, st_9, st_10, st_11, st_12, st_13, st_14, st_15, st_16, st_17, st_18, st_19, st_20, st_21, st_22, st_23, st_24, st_25, st_26, st_27, st_28, st_29, st_30, st_31, st_32, st_33, st_34, st_34a, st_35, st_36, st_37, st_38, st_39, st_42, st_44, st_45, st_47, st_40, st_41, st_46, st_48, st_49, st_43, go_0, go_s, cut_0, cut_s, get_0, get_s, put_0, put_1, put_s, clr_0, clr_s, unl_i, unl_l, unl_r, unl_n, nth_0, nth_s, sf_0, sf_s, cnd_0, cnd_1, cnd_2, cnd_3, cnd_4, cnd_5, fit_0, fit_1, fit_2, en_0, en_i, en_l, en_r, kb_t, kb_f, kb_n, sw_0, sw_s, ↓reduceIte, Nat.reduceEqDiff, Nat.left_eq_add, Nat.add_eq_left, Nat.add_left_cancel_iff, Nat.reduceAdd, Int.reduceLT, Int.reduceLE, Int.reduceAdd, Int.reduceSub, Int.reduceNeg, Int.reduceMul, Int.reduceToNat, Int.reduceEq, reduceCtorEq, true_and, and_true, true_or, or_true, and_false, false_and, or_false, false_or, not_true_eq_false, not_false_eq_true, Nat.le_refl, and_self, Sum.inl.injEq, Sum.inr.injEq, Option.some.injEq, hS_2, k_isref, pd_0, pd_s, List.cons_append, List.nil_append, Option.toList_none, Option.toList_some, tX11_readTape, rX11_readTape]
    refine cVQ (d' := 3) [vR 13, vI ((0 : Nat) : Int), vI n] [] l_11_298 m1 (e_tryText (P := fun o h' => o = rI (rdE R E f 0 n lf sf).1 ∧ h' = rsH (tpZ h2) 27 (rdE R E f 0 n lf sf).2.1 (rdE R E f 0 n lf sf).2.2) m1 m2 i1 (by omega) m3 i2 (by omega) i4 m4 ⟨m5, m6, m7⟩ hl i3 (by omega) i5 (Nat.le_refl 3) (alls_isSp hs) (by omega) hsn (by omega) (by omega) (by omega) (by omega) ⟨rfl, rfl⟩) (by omega) ?_ (fun E h' q => by cases q.1)
    intro r2 h3 ⟨u1, u2⟩
    cases u1
    subst u2
    refine p_go [] 40 ?_
    simp only [st_0, st_1, st_2, st_3, st_4, st_5, st_6, st_7, st_8, st_9, st_10, st_11, st_12, st_13, st_14, st_15, st_16, st_17, st_18, st_19, st_20, st_21, st_22, st_23, st_24, st_25, st_26, st_27, st_28, st_29, st_30, st_31, st_32, st_33, st_34, st_34a, st_35, st_36, st_37, st_38, st_39, st_42, st_44, st_45, st_47, st_40, st_41, st_46, st_48, st_49, st_43, go_0, go_s, cut_0, cut_s, get_0, get_s, put_0, put_1, put_s, clr_0, clr_s, unl_i, unl_l, unl_r, unl_n, nth_0, nth_s, sf_0, sf_s, cnd_0, cnd_1, cnd_2, cnd_3, cnd_4, cnd_5, fit_0, fit_1, fit_2, en_0, en_i, en_l, en_r, kb_t, kb_f, kb_n, sw_0, sw_s, ↓reduceIte, Nat.reduceEqDiff, Nat.left_eq_add, Nat.add_eq_left, Nat.add_left_cancel_iff, Nat.reduceAdd, Int.reduceLT, Int.reduceLE, Int.reduceAdd, Int.reduceSub, Int.reduceNeg, Int.reduceMul, Int.reduceToNat, Int.reduceEq, reduceCtorEq, true_and, and_true, true_or, or_true, and_false, false_and, or_false, false_or, not_true_eq_false, not_false_eq_true, Nat.le_refl, and_self, Sum.inl.injEq, Sum.inr.injEq, Option.some.injEq, hS_2, k_isref, pd_0, pd_s, List.cons_append, List.nil_append, Option.toList_none, Option.toList_some, tX11_readTape, rX11_readTape]
    exact c2 hs
  · cases q2
    refine p_go [] 40 ?_
    simp only [st_0, st_1, st_2, st_3, st_4, st_5, st_6, st_7, st_8, st_9, st_10, st_11, st_12, st_13, st_14, st_15, st_16, st_17, st_18, st_19, st_20, st_21, st_22, st_23, st_24, st_25, st_26, st_27, st_28, st_29, st_30, st_31, st_32, st_33, st_34, st_34a, st_35, st_36, st_37, st_38, st_39, st_42, st_44, st_45, st_47, st_40, st_41, st_46, st_48, st_49, st_43, go_0, go_s, cut_0, cut_s, get_0, get_s, put_0, put_1, put_s, clr_0, clr_s, unl_i, unl_l, unl_r, unl_n, nth_0, nth_s, sf_0, sf_s, cnd_0, cnd_1, cnd_2, cnd_3, cnd_4, cnd_5, fit_0, fit_1, fit_2, en_0, en_i, en_l, en_r, kb_t, kb_f, kb_n, sw_0, sw_s, ↓reduceIte, Nat.reduceEqDiff, Nat.left_eq_add, Nat.add_eq_left, Nat.add_left_cancel_iff, Nat.reduceAdd, Int.reduceLT, Int.reduceLE, Int.reduceAdd, Int.reduceSub, Int.reduceNeg, Int.reduceMul, Int.reduceToNat, Int.reduceEq, reduceCtorEq, true_and, and_true, true_or, or_true, and_false, false_and, or_false, false_or, not_true_eq_false, not_false_eq_true, Nat.le_refl, and_self, Sum.inl.injEq, Sum.inr.injEq, Option.some.injEq, hS_2, k_isref, pd_0, pd_s, List.cons_append, List.nil_append, Option.toList_none, Option.toList_some, tX11_readTape, rX11_readTape, h1]
    refine cV (d' := 0) [] [] l_11_172 hT.1 (e_tclear hT) (by omega) (p_go [] 40 ?_)
    simp only [st_0, st_1, st_2, st_3, st_4, st_5, st_6, st_7, st_8, st_9, st_10, st_11, st_12, st_13, st_14, st_15, st_16, st_17, st_18, st_19, st_20, st_21, st_22, st_23, st_24, st_25, st_26, st_27, st_28, st_29, st_30, st_31, st_32, st_33, st_34, st_34a, st_35, st_36, st_37, st_38, st_39, st_42, st_44, st_45, st_47, st_40, st_41, st_46, st_48, st_49, st_43, go_0, go_s, cut_0, cut_s, get_0, get_s, put_0, put_1, put_s, clr_0, clr_s, unl_i, unl_l, unl_r, unl_n, nth_0, nth_s, sf_0, sf_s, cnd_0, cnd_1, cnd_2, cnd_3, cnd_4, cnd_5, fit_0, fit_1, fit_2, en_0, en_i, en_l, en_r, kb_t, kb_f, kb_n, sw_0, sw_s, ↓reduceIte, Nat.reduceEqDiff, Nat.left_eq_add, Nat.add_eq_left, Nat.add_left_cancel_iff, Nat.reduceAdd, Int.reduceLT, Int.reduceLE, Int.reduceAdd, Int.reduceSub, Int.reduceNeg, Int.reduceMul, Int.reduceToNat, Int.reduceEq, reduceCtorEq, true_and, and_true, true_or, or_true, and_false, false_and, or_false, false_or, not_true_eq_false, not_false_eq_true, Nat.le_refl, and_self, Sum.inl.injEq, Sum.inr.injEq, Option.some.injEq, hS_2, k_isref, pd_0, pd_s, List.cons_append, List.nil_append, Option.toList_none, Option.toList_some, tX11_readTape, rX11_readTape]
    exact c1 hs
end Read46
