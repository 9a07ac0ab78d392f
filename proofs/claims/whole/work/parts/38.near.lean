/-! the measure with its costs, as one; Nearest -/
section Near38
variable {x : Bool} {d : Nat} {h h0 h1 : PH} {C : F_} {e : Int} {w : Nat} {a : Nat → Nat} {wc : Nat × Nat} {g nq pc sz : Nat} {cl cs : F_}
/-- costs and measure are there -/
def Mq (C : F_) (e : Int) (h : PH) : Prop := ∃ (Nr : F_) (s : Int), Cs h 2 C Nr e s ∧ (s = 0 ∨ s = 1) ∧ (s = 0 → Nr = fw C) ∧ MsZ h
/-- a row is laid -/
def Ml (C : F_) (e : Int) (w : Nat) (a : Nat → Nat) (h : PH) : Prop := Cs h 2 C (fw C) e 0 ∧ MsA h (fw C) w a
theorem MsA.o5 {N : F_} (hA : MsA h N w a) : ∃ lo hi, h.2 5 = some (mo w lo hi) := by
  obtain ⟨lo, hi, _, _, _, h5, _⟩ := hA
  exact ⟨lo, hi, h5⟩
theorem Ml.q (hM : Ml C e w a h) : Mq C e h := ⟨fw C, 0, hM.1, Or.inl rfl, fun _ => rfl, hM.2.Z⟩
theorem Cs.off8 {N : F_} {s : Int} {q : Nat} {c : PC} (hC : Cs h 2 C N e s) (hq : 8 < q) : Cs (hS h q c) 2 C N e s := ⟨(hS_n (by omega)).trans hC.1, (hS_n (by omega)).trans hC.2.1, (hS_n (by omega)).trans hC.2.2⟩
theorem Ml.off {q : Nat} {c : PC} (hM : Ml C e w a h) (hq : 8 < q) : Ml C e w a (hS h q c) := by
  obtain ⟨m1, lo, hi, ac, fl, ln, h5, h6, h7, h8, m2⟩ := hM
  exact ⟨m1.off8 hq, lo, hi, ac, fl, ln, (hS_n (by omega)).trans h5, (hS_n (by omega)).trans h6, (hS_n (by omega)).trans h7, (hS_n (by omega)).trans h8, m2⟩
theorem Mq.off {q : Nat} {c : PC} (hM : Mq C e h) (hq : 8 < q) : Mq C e (hS h q c) := by
  obtain ⟨Nr, s, c1, c2, c3, w0, lo, hi, ac, fl, ln, h5, h6, h7, h8, m2⟩ := hM
  exact ⟨Nr, s, c1.off8 hq, c2, c3, w0, lo, hi, ac, fl, ln, (hS_n (by omega)).trans h5, (hS_n (by omega)).trans h6, (hS_n (by omega)).trans h7, (hS_n (by omega)).trans h8, m2⟩
/-- nothing else than costs and measure is another -/
def Fr8 (h0 h : PH) : Prop := h.1 = h0.1 ∧ ∀ z, 8 < z ∨ z < 2 → h.2 z = h0.2 z
theorem Fr8.rw {q w n : Nat} {lf sf : F_} (hF : Fr8 h0 h) (hq : 8 < q) (hR : Rw h0 q w n lf sf) : Rw h q w n lf sf := ⟨(hF.2 _ (by omega)).trans hR.1, (hF.2 _ (by omega)).trans hR.2.1, (hF.2 _ (by omega)).trans hR.2.2⟩
/-- a row's sounds, NOTHING as 0 -/
abbrev sdf (sf : F_) (o : Nat) : Nat → Nat := fun i => (sf (o + i) + 1).toNat
/-- a row's sounds are sounds -/
def rvd (sf : F_) (o : Nat) (m : Int) : Prop := ∀ i : Nat, (i : Int) < m → 0 ≤ sf (o + i) ∧ sf (o + i) < 16
set_option maxRecDepth 100000 in
set_option maxHeartbeats 4000000 in
theorem e_lay' {q' w' n' r : Nat} {lf sf : F_} (hM : Mq C e h) (hc : cOk C) (hR : Rw h q' w' n' lf sf) (hW : RwW w' n' lf) (hr : r < n') (hw : w' ≤ 40) (hq : 8 < q') (hv : rvd sf (r * w') (lf r)) (hd : 2 ≤ d) :
    k_Ev x d 0 0 mX4_lay [vR 5, vR q', vI r] h (fun o h' => o = rV ∧ Ml C e (lf r).toNat (sdf sf (r * w')) h' ∧ Fr8 h h') := by
  obtain ⟨Nr, s, c1, c2, c3, c4⟩ := hM
  have hl := hW.1 r hr
  refine k_Evm ?_ (e_lay (a := sdf sf (r * w')) (m := (lf r).toNat) c1 hc c2 c3 c4 hR hW hr (by omega) (by omega) hq (fun i hi => ?_) hd)
  · intro o h' hp
    obtain ⟨e1, lo, hi, ac, fl, e2, e3⟩ := hp
    obtain ⟨w0, lo0, hi0, ac0, fl0, ln0, h5, h6, h7, h8, -, -⟩ := c4
    subst e2
    refine ⟨e1, ⟨⟨?_, ?_, ?_⟩, ⟨lo, hi, ac, fl, ln0, ?_, ?_, ?_, ?_, e3, by omega, fun c hc => ?_⟩⟩, rfl, fun z hz => ?_⟩
    · (repeat (first | exact hS_s _ _ _ | refine (hS_n (by omega)).trans ?_))
    · (repeat (first | exact hS_s _ _ _ | refine (hS_n (by omega)).trans ?_)); exact c1.2.1
    · (repeat (first | exact hS_s _ _ _ | refine (hS_n (by omega)).trans ?_))
    · (repeat (first | exact hS_s _ _ _ | refine (hS_n (by omega)).trans ?_))
    · (repeat (first | exact hS_s _ _ _ | refine (hS_n (by omega)).trans ?_))
    · (repeat (first | exact hS_s _ _ _ | refine (hS_n (by omega)).trans ?_))
    · (repeat (first | exact hS_s _ _ _ | refine (hS_n (by omega)).trans ?_)); exact h8
    · have := hv c (by omega)
      simp only [sdf]
      omega
    · (repeat (first | exact hS_s _ _ _ | refine (hS_n (by omega)).trans ?_)); rfl
  · have := hv i (by omega)
    simp only [sdf]
    omega
set_option maxRecDepth 100000 in
set_option maxHeartbeats 4000000 in
theorem e_reach' {q' w' n' r : Nat} {lf sf : F_} {L : Int} (hM : Ml C e w a h) (hc : cOk C) (hR : Rw h q' w' n' lf sf) (hW : RwW w' n' lf) (hr : r < n') (hw : w' ≤ 40) (hq : 8 < q') (hv : rvd sf (r * w') (lf r)) (hL : 0 ≤ L ∧ L ≤ 1000000) (hd : 2 ≤ d) :
    k_Ev x d 0 0 mX4_reach [vR 5, vR q', vI r, vI L] h (fun o h' => o = rI (rch L (ds (fw C) a w (sdf sf (r * w')) (lf r).toNat)) ∧ Ml C e w a h' ∧ Fr8 h h') := by
  have hl := hW.1 r hr
  refine k_Evm ?_ (e_reach (sd := sdf sf (r * w')) (m := (lf r).toNat) hM.2 hM.1.2.2 hR hW hr (by omega) (by omega) hq (fun i hi => ?_) (fw_ok hc) hL hd)
  · intro o h' hp
    obtain ⟨e1, g, lo, hi, e2⟩ := hp
    obtain ⟨m1, lo0, hi0, ac, fl, ln, h5, h6, h7, h8, m2, m3, m4⟩ := hM
    subst e2
    refine ⟨e1, ⟨⟨?_, ?_, ?_⟩, ⟨lo, hi, ac, fl, g, ?_, ?_, ?_, ?_, m2, m3, m4⟩⟩, rfl, fun z hz => ?_⟩
    · (repeat (first | exact hS_s _ _ _ | refine (hS_n (by omega)).trans ?_)); exact m1.1
    · (repeat (first | exact hS_s _ _ _ | refine (hS_n (by omega)).trans ?_)); exact m1.2.1
    · (repeat (first | exact hS_s _ _ _ | refine (hS_n (by omega)).trans ?_)); exact m1.2.2
    · (repeat (first | exact hS_s _ _ _ | refine (hS_n (by omega)).trans ?_))
    · (repeat (first | exact hS_s _ _ _ | refine (hS_n (by omega)).trans ?_)); exact h6
    · (repeat (first | exact hS_s _ _ _ | refine (hS_n (by omega)).trans ?_)); exact h7
    · (repeat (first | exact hS_s _ _ _ | refine (hS_n (by omega)).trans ?_))
    · (repeat (first | exact hS_s _ _ _ | refine (hS_n (by omega)).trans ?_)); rfl
  · have := hv i (by omega)
    simp only [sdf]
    omega
abbrev neO (kn ed : Int) (S : Int × Int × Int) : PC := cO 5 [vI kn, vI ed, vI S.1, vI S.2.1, vI S.2.2]
/-- one command against those behind it -/
def cmpL (gp : Nat → Int) (k : Nat) : Nat → Nat → Int × Int × Int → Int × Int × Int
  | 0, _, S => S
  | j + 1, o, S => if S.1 ≤ 0 then S else cmpL gp k j (o + 1) (if gp o < S.1 then (gp o, (k : Int), (o : Int)) else S)
/-- how far two commands lie apart -/
abbrev gap (C cl cs : F_) (k l : Nat) : Int := ds (fw C) (sdf cs (k * 40)) (cl k).toNat (sdf cs (l * 40)) (cl l).toNat
/-- Nearest at nq, with costs and measure; else as it was -/
def Nq (h0 h : PH) (nq : Nat) (kn ed : Int) (S : Int × Int × Int) : Prop := h.1 = h0.1 ∧ h.2 nq = some (neO kn ed S) ∧ ∀ z, (8 < z ∨ z < 2) → z ≠ nq → h.2 z = h0.2 z
set_option maxRecDepth 100000 in
set_option maxHeartbeats 4000000 in
theorem w_compare {kn ed : Int} {k : Nat} (hg : h0.2 g = some (gO g wc pc sz)) (hR : Rw h0 (g + 12) 40 120 cl cs) (hW : RwW 40 120 cl) (hc : cOk C) (hv : ∀ l, l < sz → rvd cs (l * 40) (cl l)) (hsz : sz ≤ 120) (hd : 3 ≤ d) (hq : 8 < nq) (hqg : nq < g) : ∀ (j o : Nat) (S : Int × Int × Int) (h : PH), o + j = sz → S.1 ≤ 1000000 → Nq h0 h nq kn ed S → Ml C e (cl k).toNat (sdf cs (k * 40)) h →
    k_Wp x d 0 0 mX5_compare (fun r h' => r = rV ∧ Nq h0 h' nq kn ed (cmpL (gap C cl cs k) k j o S) ∧ Mq C e h') 0 0 18 [some (vR nq), some (vR g), some (vR 5), some (vI k), some (vR (g + 12)), some (vI o), none] [] h := by
  intro j
  induction j with
  | zero =>
    intro o S h ho hS1 hN hM
    have e1 : (sz : Int) ≤ o := by omega
    obtain ⟨n1, n2, n3⟩ := hN
    refine p_go [] 40 ?_
    simp only [st_0, st_1, st_2, st_3, st_4, st_5, st_6, st_7, st_8, st_9, st_10, st_11, st_12, st_13, st_14, st_15, st_16, st_17, st_18, st_19, st_20, st_21, st_22, st_23, st_24, st_25, st_26, st_27, st_28, st_29, st_30, st_31, st_32, st_33, st_34, st_34a, st_35, st_36, st_37, st_38, st_39, st_42, st_44, st_45, st_47, st_40, st_41, st_46, st_48, st_49, st_43, go_0, go_s, cut_0, cut_s, get_0, get_s, put_0, put_1, put_s, clr_0, clr_s, unl_i, unl_l, unl_r, unl_n, nth_0, nth_s, sf_0, sf_s, cnd_0, cnd_1, cnd_2, cnd_3, cnd_4, cnd_5, fit_0, fit_1, fit_2, en_0, en_i, en_l, en_r, kb_t, kb_f, kb_n, sw_0, sw_s, ↓reduceIte, Nat.reduceEqDiff, Nat.left_eq_add, Nat.add_eq_left, Nat.add_left_cancel_iff, Nat.reduceAdd, Int.reduceLT, Int.reduceLE, Int.reduceAdd, Int.reduceSub, Int.reduceNeg, Int.reduceMul, Int.reduceToNat, Int.reduceEq, reduceCtorEq, true_and, and_true, true_or, or_true, and_false, false_and, or_false, false_or, not_true_eq_false, not_false_eq_true, Nat.le_refl, and_self, Sum.inl.injEq, Sum.inr.injEq, Option.some.injEq, hS_2, k_isref, pd_0, pd_s, List.cons_append, List.nil_append, Option.toList_none, Option.toList_some, tX5_compare, rX5_compare]
    refine cV (d' := 0) [] [vI o] l_5_34 ((n3 g (by omega) (by omega)).trans hg) (e_gsize ((n3 g (by omega) (by omega)).trans hg)) (by omega) (p_go [] 40 ?_)
    simp only [st_0, st_1, st_2, st_3, st_4, st_5, st_6, st_7, st_8, st_9, st_10, st_11, st_12, st_13, st_14, st_15, st_16, st_17, st_18, st_19, st_20, st_21, st_22, st_23, st_24, st_25, st_26, st_27, st_28, st_29, st_30, st_31, st_32, st_33, st_34, st_34a, st_35, st_36, st_37, st_38, st_39, st_42, st_44, st_45, st_47, st_40, st_41, st_46, st_48, st_49, st_43, go_0, go_s, cut_0, cut_s, get_0, get_s, put_0, put_1, put_s, clr_0, clr_s, unl_i, unl_l, unl_r, unl_n, nth_0, nth_s, sf_0, sf_s, cnd_0, cnd_1, cnd_2, cnd_3, cnd_4, cnd_5, fit_0, fit_1, fit_2, en_0, en_i, en_l, en_r, kb_t, kb_f, kb_n, sw_0, sw_s, ↓reduceIte, Nat.reduceEqDiff, Nat.left_eq_add, Nat.add_eq_left, Nat.add_left_cancel_iff, Nat.reduceAdd, Int.reduceLT, Int.reduceLE, Int.reduceAdd, Int.reduceSub, Int.reduceNeg, Int.reduceMul, Int.reduceToNat, Int.reduceEq, reduceCtorEq, true_and, and_true, true_or, or_true, and_false, false_and, or_false, false_or, not_true_eq_false, not_false_eq_true, Nat.le_refl, and_self, Sum.inl.injEq, Sum.inr.injEq, Option.some.injEq, hS_2, k_isref, pd_0, pd_s, List.cons_append, List.nil_append, Option.toList_none, Option.toList_some, tX5_compare, rX5_compare, e1]
    exact ⟨⟨n1, n2, n3⟩, hM.q⟩
  | succ j ih =>
    intro o S h ho hS1 hN hM
    have e1 : ¬ (sz : Int) ≤ o := by omega
    have hN0 := hN
    obtain ⟨n1, n2, n3⟩ := hN
    have kR : Rw h (g + 12) 40 120 cl cs := ⟨(n3 _ (by omega) (by omega)).trans hR.1, (n3 _ (by omega) (by omega)).trans hR.2.1, (n3 _ (by omega) (by omega)).trans hR.2.2⟩
    refine p_go [] 40 ?_
    simp only [st_0, st_1, st_2, st_3, st_4, st_5, st_6, st_7, st_8, st_9, st_10, st_11, st_12, st_13, st_14, st_15, st_16, st_17, st_18, st_19, st_20, st_21, st_22, st_23, st_24, st_25, st_26, st_27, st_28, st_29, st_30, st_31, st_32, st_33, st_34, st_34a, st_35, st_36, st_37, st_38, st_39, st_42, st_44, st_45, st_47, st_40, st_41, st_46, st_48, st_49, st_43, go_0, go_s, cut_0, cut_s, get_0, get_s, put_0, put_1, put_s, clr_0, clr_s, unl_i, unl_l, unl_r, unl_n, nth_0, nth_s, sf_0, sf_s, cnd_0, cnd_1, cnd_2, cnd_3, cnd_4, cnd_5, fit_0, fit_1, fit_2, en_0, en_i, en_l, en_r, kb_t, kb_f, kb_n, sw_0, sw_s, ↓reduceIte, Nat.reduceEqDiff, Nat.left_eq_add, Nat.add_eq_left, Nat.add_left_cancel_iff, Nat.reduceAdd, Int.reduceLT, Int.reduceLE, Int.reduceAdd, Int.reduceSub, Int.reduceNeg, Int.reduceMul, Int.reduceToNat, Int.reduceEq, reduceCtorEq, true_and, and_true, true_or, or_true, and_false, false_and, or_false, false_or, not_true_eq_false, not_false_eq_true, Nat.le_refl, and_self, Sum.inl.injEq, Sum.inr.injEq, Option.some.injEq, hS_2, k_isref, pd_0, pd_s, List.cons_append, List.nil_append, Option.toList_none, Option.toList_some, tX5_compare, rX5_compare]
    refine cV (d' := 0) [] [vI o] l_5_34 ((n3 g (by omega) (by omega)).trans hg) (e_gsize ((n3 g (by omega) (by omega)).trans hg)) (by omega) (p_go [] 40 ?_)
    unfold cmpL
    by_cases hz : S.1 ≤ 0
    · rw [if_pos hz]
      simp only [st_0, st_1, st_2, st_3, st_4, st_5, st_6, st_7, st_8, st_9, st_10, st_11, st_12, st_13, st_14, st_15, st_16, st_17, st_18, st_19, st_20, st_21, st_22, st_23, st_24, st_25, st_26, st_27, st_28, st_29, st_30, st_31, st_32, st_33, st_34, st_34a, st_35, st_36, st_37, st_38, st_39, st_42, st_44, st_45, st_47, st_40, st_41, st_46, st_48, st_49, st_43, go_0, go_s, cut_0, cut_s, get_0, get_s, put_0, put_1, put_s, clr_0, clr_s, unl_i, unl_l, unl_r, unl_n, nth_0, nth_s, sf_0, sf_s, cnd_0, cnd_1, cnd_2, cnd_3, cnd_4, cnd_5, fit_0, fit_1, fit_2, en_0, en_i, en_l, en_r, kb_t, kb_f, kb_n, sw_0, sw_s, ↓reduceIte, Nat.reduceEqDiff, Nat.left_eq_add, Nat.add_eq_left, Nat.add_left_cancel_iff, Nat.reduceAdd, Int.reduceLT, Int.reduceLE, Int.reduceAdd, Int.reduceSub, Int.reduceNeg, Int.reduceMul, Int.reduceToNat, Int.reduceEq, reduceCtorEq, true_and, and_true, true_or, or_true, and_false, false_and, or_false, false_or, not_true_eq_false, not_false_eq_true, Nat.le_refl, and_self, Sum.inl.injEq, Sum.inr.injEq, Option.some.injEq, hS_2, k_isref, pd_0, pd_s, List.cons_append, List.nil_append, Option.toList_none, Option.toList_some, tX5_compare, rX5_compare, e1, n2, hz]
      exact ⟨hN0, hM.q⟩
    · rw [if_neg hz]
      simp only [st_0, st_1, st_2, st_3, st_4, st_5, st_6, st_7, st_8, st_9, st_10, st_11, st_12, st_13, st_14, st_15, st_16, st_17, st_18, st_19, st_20, st_21, st_22, st_23, st_24, st_25, st_26, st_27, st_28, st_29, st_30, st_31, st_32, st_33, st_34, st_34a, st_35, st_36, st_37, st_38, st_39, st_42, st_44, st_45, st_47, st_40, st_41, st_46, st_48, st_49, st_43, go_0, go_s, cut_0, cut_s, get_0, get_s, put_0, put_1, put_s, clr_0, clr_s, unl_i, unl_l, unl_r, unl_n, nth_0, nth_s, sf_0, sf_s, cnd_0, cnd_1, cnd_2, cnd_3, cnd_4, cnd_5, fit_0, fit_1, fit_2, en_0, en_i, en_l, en_r, kb_t, kb_f, kb_n, sw_0, sw_s, ↓reduceIte, Nat.reduceEqDiff, Nat.left_eq_add, Nat.add_eq_left, Nat.add_left_cancel_iff, Nat.reduceAdd, Int.reduceLT, Int.reduceLE, Int.reduceAdd, Int.reduceSub, Int.reduceNeg, Int.reduceMul, Int.reduceToNat, Int.reduceEq, reduceCtorEq, true_and, and_true, true_or, or_true, and_false, false_and, or_false, false_or, not_true_eq_false, not_false_eq_true, Nat.le_refl, and_self, Sum.inl.injEq, Sum.inr.injEq, Option.some.injEq, hS_2, k_isref, pd_0, pd_s, List.cons_append, List.nil_append, Option.toList_none, Option.toList_some, tX5_compare, rX5_compare, e1, n2, hz]
      obtain ⟨lo5, hi5, h5⟩ := hM.2.o5
      refine cVQ (d' := 2) [vR (g + 12), vI o, vI S.1] [] l_5_51 h5 (e_reach' hM hc kR hW (by omega) (by omega) (by omega) (hv o (by omega)) (by omega) (Nat.le_refl 2)) (by omega) ?_ (fun E h' q => by cases q.1)
      intro r1 h1 ⟨q1, q2, q3⟩
      cases q1
      have k2 : h1.2 nq = some (neO kn ed S) := (q3.2 _ (by omega)).trans n2
      refine p_go [18] 40 ?_
      have hN1 : ∀ S2, Nq h0 (hS h1 nq (neO kn ed S2)) nq kn ed S2 := fun S2 => ⟨q3.1.trans n1, hS_s _ _ _, fun z z1 z2 => (hS_n z2).trans ((q3.2 z z1).trans (n3 z z1 z2))⟩
      by_cases hgp : gap C cl cs k o < S.1
      · have er : rch S.1 (ds (fw C) (sdf cs (k * 40)) (cl k).toNat (sdf cs (o * 40)) (cl o).toNat) = gap C cl cs k o := if_pos hgp
        rw [er, if_pos hgp]
        simp only [st_0, st_1, st_2, st_3, st_4, st_5, st_6, st_7, st_8, st_9, st_10, st_11, st_12, st_13, st_14, st_15, st_16, st_17, st_18, st_19, st_20, st_21, st_22, st_23, st_24, st_25, st_26, st_27, st_28, st_29, st_30, st_31, st_32, st_33, st_34, st_34a, st_35, st_36, st_37, st_38, st_39, st_42, st_44, st_45, st_47, st_40, st_41, st_46, st_48, st_49, st_43, go_0, go_s, cut_0, cut_s, get_0, get_s, put_0, put_1, put_s, clr_0, clr_s, unl_i, unl_l, unl_r, unl_n, nth_0, nth_s, sf_0, sf_s, cnd_0, cnd_1, cnd_2, cnd_3, cnd_4, cnd_5, fit_0, fit_1, fit_2, en_0, en_i, en_l, en_r, kb_t, kb_f, kb_n, sw_0, sw_s, ↓reduceIte, Nat.reduceEqDiff, Nat.left_eq_add, Nat.add_eq_left, Nat.add_left_cancel_iff, Nat.reduceAdd, Int.reduceLT, Int.reduceLE, Int.reduceAdd, Int.reduceSub, Int.reduceNeg, Int.reduceMul, Int.reduceToNat, Int.reduceEq, reduceCtorEq, true_and, and_true, true_or, or_true, and_false, false_and, or_false, false_or, not_true_eq_false, not_false_eq_true, Nat.le_refl, and_self, Sum.inl.injEq, Sum.inr.injEq, Option.some.injEq, hS_2, k_isref, pd_0, pd_s, List.cons_append, List.nil_append, Option.toList_none, Option.toList_some, tX5_compare, rX5_compare, k2, hS_hS, nat1]
        refine k_brF (by omega) ⟨⟨by omega, by omega⟩, ?_⟩
        exact p_sub (by (repeat (first | exact le_nil | refine le_s ?_ | refine le_n ?_))) (ih (o + 1) (gap C cl cs k o, (k : Int), (o : Int)) _ (by omega) (by simp only; omega) (hN1 (gap C cl cs k o, (k : Int), (o : Int))) (q2.off hq))
      · have er : rch S.1 (ds (fw C) (sdf cs (k * 40)) (cl k).toNat (sdf cs (o * 40)) (cl o).toNat) = S.1 := if_neg hgp
        rw [er, if_neg hgp]
        simp only [st_0, st_1, st_2, st_3, st_4, st_5, st_6, st_7, st_8, st_9, st_10, st_11, st_12, st_13, st_14, st_15, st_16, st_17, st_18, st_19, st_20, st_21, st_22, st_23, st_24, st_25, st_26, st_27, st_28, st_29, st_30, st_31, st_32, st_33, st_34, st_34a, st_35, st_36, st_37, st_38, st_39, st_42, st_44, st_45, st_47, st_40, st_41, st_46, st_48, st_49, st_43, go_0, go_s, cut_0, cut_s, get_0, get_s, put_0, put_1, put_s, clr_0, clr_s, unl_i, unl_l, unl_r, unl_n, nth_0, nth_s, sf_0, sf_s, cnd_0, cnd_1, cnd_2, cnd_3, cnd_4, cnd_5, fit_0, fit_1, fit_2, en_0, en_i, en_l, en_r, kb_t, kb_f, kb_n, sw_0, sw_s, ↓reduceIte, Nat.reduceEqDiff, Nat.left_eq_add, Nat.add_eq_left, Nat.add_left_cancel_iff, Nat.reduceAdd, Int.reduceLT, Int.reduceLE, Int.reduceAdd, Int.reduceSub, Int.reduceNeg, Int.reduceMul, Int.reduceToNat, Int.reduceEq, reduceCtorEq, true_and, and_true, true_or, or_true, and_false, false_and, or_false, false_or, not_true_eq_false, not_false_eq_true, Nat.le_refl, and_self, Sum.inl.injEq, Sum.inr.injEq, Option.some.injEq, hS_2, k_isref, pd_0, pd_s, List.cons_append, List.nil_append, Option.toList_none, Option.toList_some, tX5_compare, rX5_compare, k2, hS_hS, nat1, Int.le_refl]
        refine ⟨⟨by omega, by omega⟩, ?_⟩
        exact p_sub (by (repeat (first | exact le_nil | refine le_s ?_ | refine le_n ?_))) (ih (o + 1) S _ (by omega) hS1 ⟨q3.1.trans n1, k2, fun z z1 z2 => (q3.2 z z1).trans (n3 z z1 z2)⟩ q2)
set_option maxRecDepth 100000 in
set_option maxHeartbeats 4000000 in
theorem e_compare {kn ed : Int} {k : Nat} {S : Int × Int × Int} (hg : h0.2 g = some (gO g wc pc sz)) (hR : Rw h0 (g + 12) 40 120 cl cs) (hW : RwW 40 120 cl) (hc : cOk C) (hv : ∀ l, l < sz → rvd cs (l * 40) (cl l)) (hsz : sz ≤ 120) (hd : 3 ≤ d) (hq : 8 < nq) (hqg : nq < g) (hk : k < sz) (hS1 : S.1 ≤ 1000000) (hN : Nq h0 h nq kn ed S) (hM : Mq C e h) :
    k_Ev x d 0 0 mX5_compare [vR nq, vR g, vR 5, vI k] h (fun r h' => r = rV ∧ Nq h0 h' nq kn ed (cmpL (gap C cl cs k) k (sz - (k + 1)) (k + 1) S) ∧ Mq C e h') := by
  obtain ⟨n1, n2, n3⟩ := hN
  have kR : Rw h (g + 12) 40 120 cl cs := ⟨(n3 _ (by omega) (by omega)).trans hR.1, (n3 _ (by omega) (by omega)).trans hR.2.1, (n3 _ (by omega) (by omega)).trans hR.2.2⟩
  have kg := (n3 g (by omega) (by omega)).trans hg
  obtain ⟨Nr, s, c1, c2, c3, w0, lo0, hi0, ac0, fl0, ln0, h5, hrest⟩ := id hM
  refine k_enp 3 (Nat.le_of_ble_eq_true rfl) (p_go [] 40 ?_)
  simp only [st_0, st_1, st_2, st_3, st_4, st_5, st_6, st_7, st_8, st_9, st_10, st_11, st_12, st_13, st_14, st_15, st_16, st_17, st_18, st_19, st_20, st_21, st_22, st_23, st_24, st_25, st_26, st_27, st_28, st_29, st_30, st_31, st_32, st_33, st_34, st_34a, st_35, st_36, st_37, st_38, st_39, st_42, st_44, st_45, st_47, st_40, st_41, st_46, st_48, st_49, st_43, go_0, go_s, cut_0, cut_s, get_0, get_s, put_0, put_1, put_s, clr_0, clr_s, unl_i, unl_l, unl_r, unl_n, nth_0, nth_s, sf_0, sf_s, cnd_0, cnd_1, cnd_2, cnd_3, cnd_4, cnd_5, fit_0, fit_1, fit_2, en_0, en_i, en_l, en_r, kb_t, kb_f, kb_n, sw_0, sw_s, ↓reduceIte, Nat.reduceEqDiff, Nat.left_eq_add, Nat.add_eq_left, Nat.add_left_cancel_iff, Nat.reduceAdd, Int.reduceLT, Int.reduceLE, Int.reduceAdd, Int.reduceSub, Int.reduceNeg, Int.reduceMul, Int.reduceToNat, Int.reduceEq, reduceCtorEq, true_and, and_true, true_or, or_true, and_false, false_and, or_false, false_or, not_true_eq_false, not_false_eq_true, Nat.le_refl, and_self, Sum.inl.injEq, Sum.inr.injEq, Option.some.injEq, hS_2, k_isref, pd_0, pd_s, List.cons_append, List.nil_append, Option.toList_none, Option.toList_some, tX5_compare, rX5_compare]
  refine cV (d' := 0) [] [] l_5_43 kg (e_gcommands kg) (by omega) (p_go [] 40 ?_)
  simp only [st_0, st_1, st_2, st_3, st_4, st_5, st_6, st_7, st_8, st_9, st_10, st_11, st_12, st_13, st_14, st_15, st_16, st_17, st_18, st_19, st_20, st_21, st_22, st_23, st_24, st_25, st_26, st_27, st_28, st_29, st_30, st_31, st_32, st_33, st_34, st_34a, st_35, st_36, st_37, st_38, st_39, st_42, st_44, st_45, st_47, st_40, st_41, st_46, st_48, st_49, st_43, go_0, go_s, cut_0, cut_s, get_0, get_s, put_0, put_1, put_s, clr_0, clr_s, unl_i, unl_l, unl_r, unl_n, nth_0, nth_s, sf_0, sf_s, cnd_0, cnd_1, cnd_2, cnd_3, cnd_4, cnd_5, fit_0, fit_1, fit_2, en_0, en_i, en_l, en_r, kb_t, kb_f, kb_n, sw_0, sw_s, ↓reduceIte, Nat.reduceEqDiff, Nat.left_eq_add, Nat.add_eq_left, Nat.add_left_cancel_iff, Nat.reduceAdd, Int.reduceLT, Int.reduceLE, Int.reduceAdd, Int.reduceSub, Int.reduceNeg, Int.reduceMul, Int.reduceToNat, Int.reduceEq, reduceCtorEq, true_and, and_true, true_or, or_true, and_false, false_and, or_false, false_or, not_true_eq_false, not_false_eq_true, Nat.le_refl, and_self, Sum.inl.injEq, Sum.inr.injEq, Option.some.injEq, hS_2, k_isref, pd_0, pd_s, List.cons_append, List.nil_append, Option.toList_none, Option.toList_some, tX5_compare, rX5_compare]
  refine cVQ (d' := 2) [vR (g + 12), vI k] [] l_5_47 h5 (e_lay' hM hc kR hW (by omega) (by omega) (by omega) (hv k hk) (Nat.le_refl 2)) (by omega) ?_ (fun E h' q => by cases q.1)
  intro r1 h1 ⟨q1, q2, q3⟩
  cases q1
  refine p_go [18] 40 ?_
  simp only [st_0, st_1, st_2, st_3, st_4, st_5, st_6, st_7, st_8, st_9, st_10, st_11, st_12, st_13, st_14, st_15, st_16, st_17, st_18, st_19, st_20, st_21, st_22, st_23, st_24, st_25, st_26, st_27, st_28, st_29, st_30, st_31, st_32, st_33, st_34, st_34a, st_35, st_36, st_37, st_38, st_39, st_42, st_44, st_45, st_47, st_40, st_41, st_46, st_48, st_49, st_43, go_0, go_s, cut_0, cut_s, get_0, get_s, put_0, put_1, put_s, clr_0, clr_s, unl_i, unl_l, unl_r, unl_n, nth_0, nth_s, sf_0, sf_s, cnd_0, cnd_1, cnd_2, cnd_3, cnd_4, cnd_5, fit_0, fit_1, fit_2, en_0, en_i, en_l, en_r, kb_t, kb_f, kb_n, sw_0, sw_s, ↓reduceIte, Nat.reduceEqDiff, Nat.left_eq_add, Nat.add_eq_left, Nat.add_left_cancel_iff, Nat.reduceAdd, Int.reduceLT, Int.reduceLE, Int.reduceAdd, Int.reduceSub, Int.reduceNeg, Int.reduceMul, Int.reduceToNat, Int.reduceEq, reduceCtorEq, true_and, and_true, true_or, or_true, and_false, false_and, or_false, false_or, not_true_eq_false, not_false_eq_true, Nat.le_refl, and_self, Sum.inl.injEq, Sum.inr.injEq, Option.some.injEq, hS_2, k_isref, pd_0, pd_s, List.cons_append, List.nil_append, Option.toList_none, Option.toList_some, tX5_compare, rX5_compare, nat1]
  refine ⟨⟨by omega, by omega⟩, ?_⟩
  exact w_compare hg hR hW hc hv hsz hd hq hqg (sz - (k + 1)) (k + 1) S h1 (by omega) hS1 ⟨q3.1.trans n1, (q3.2 _ (by omega)).trans n2, fun z z1 z2 => (q3.2 z z1).trans (n3 z z1 z2)⟩ q2
theorem cmpL_b {gp : Nat → Int} {k : Nat} : ∀ (j o : Nat) (S : Int × Int × Int), S.1 ≤ 1000000 → (cmpL gp k j o S).1 ≤ 1000000
  | 0, _, S, h => h
  | j + 1, o, S, h => by
    unfold cmpL
    split
    · exact h
    · refine cmpL_b j (o + 1) _ ?_
      split
      · simp only; omega
      · exact h
/-- all commands against those behind them -/
def cmpA (gp : Nat → Nat → Int) (sz : Nat) : Nat → Nat → Int × Int × Int → Int × Int × Int
  | 0, _, S => S
  | j + 1, k, S => if S.1 ≤ 0 then S else cmpA gp sz j (k + 1) (cmpL (gp k) k (sz - (k + 1)) (k + 1) S)
def ndo (S : Int × Int × Int) : Int × Int × Int := if S.2.1 = -1 then (-1, S.2.1, S.2.2) else S
set_option maxRecDepth 100000 in
set_option maxHeartbeats 4000000 in
theorem w_nfind {kn ed : Int} (hg : h0.2 g = some (gO g wc pc sz)) (hR : Rw h0 (g + 12) 40 120 cl cs) (hW : RwW 40 120 cl) (hc : cOk C) (hv : ∀ l, l < sz → rvd cs (l * 40) (cl l)) (hsz : sz ≤ 120) (hd : 4 ≤ d) (hq : 8 < nq) (hqg : nq < g) : ∀ (j k : Nat) (S : Int × Int × Int) (h : PH), k + j = sz → S.1 ≤ 1000000 → Nq h0 h nq kn ed S → Mq C e h →
    k_Wp x d 0 0 mX5_find (fun r h' => r = rV ∧ Nq h0 h' nq kn ed (ndo (cmpA (gap C cl cs) sz j k S)) ∧ Mq C e h') 0 0 50 [some (vR nq), some (vR g), some (vR 5), some (vI k)] [] h := by
  have hend : ∀ (k : Nat) (S : Int × Int × Int) (h : PH), Nq h0 h nq kn ed S → Mq C e h → k_Wp x d 0 0 mX5_find (fun r h' => r = rV ∧ Nq h0 h' nq kn ed (ndo S) ∧ Mq C e h') 0 0 78 [some (vR nq), some (vR g), some (vR 5), some (vI k)] [] h := by
    intro k S h hN hM
    obtain ⟨n1, n2, n3⟩ := id hN
    unfold ndo
    refine p_go [] 40 ?_
    by_cases hl : S.2.1 = -1
    · rw [if_pos hl]
      simp only [st_0, st_1, st_2, st_3, st_4, st_5, st_6, st_7, st_8, st_9, st_10, st_11, st_12, st_13, st_14, st_15, st_16, st_17, st_18, st_19, st_20, st_21, st_22, st_23, st_24, st_25, st_26, st_27, st_28, st_29, st_30, st_31, st_32, st_33, st_34, st_34a, st_35, st_36, st_37, st_38, st_39, st_42, st_44, st_45, st_47, st_40, st_41, st_46, st_48, st_49, st_43, go_0, go_s, cut_0, cut_s, get_0, get_s, put_0, put_1, put_s, clr_0, clr_s, unl_i, unl_l, unl_r, unl_n, nth_0, nth_s, sf_0, sf_s, cnd_0, cnd_1, cnd_2, cnd_3, cnd_4, cnd_5, fit_0, fit_1, fit_2, en_0, en_i, en_l, en_r, kb_t, kb_f, kb_n, sw_0, sw_s, ↓reduceIte, Nat.reduceEqDiff, Nat.left_eq_add, Nat.add_eq_left, Nat.add_left_cancel_iff, Nat.reduceAdd, Int.reduceLT, Int.reduceLE, Int.reduceAdd, Int.reduceSub, Int.reduceNeg, Int.reduceMul, Int.reduceToNat, Int.reduceEq, reduceCtorEq, true_and, and_true, true_or, or_true, and_false, false_and, or_false, false_or, not_true_eq_false, not_false_eq_true, Nat.le_refl, and_self, Sum.inl.injEq, Sum.inr.injEq, Option.some.injEq, hS_2, k_isref, pd_0, pd_s, List.cons_append, List.nil_append, Option.toList_none, Option.toList_some, tX5_find, rX5_find, n2, hl]
      exact ⟨⟨n1, hS_s _ _ _, fun z z1 z2 => (hS_n z2).trans (n3 z z1 z2)⟩, hM.off hq⟩
    · rw [if_neg hl]
      simp only [st_0, st_1, st_2, st_3, st_4, st_5, st_6, st_7, st_8, st_9, st_10, st_11, st_12, st_13, st_14, st_15, st_16, st_17, st_18, st_19, st_20, st_21, st_22, st_23, st_24, st_25, st_26, st_27, st_28, st_29, st_30, st_31, st_32, st_33, st_34, st_34a, st_35, st_36, st_37, st_38, st_39, st_42, st_44, st_45, st_47, st_40, st_41, st_46, st_48, st_49, st_43, go_0, go_s, cut_0, cut_s, get_0, get_s, put_0, put_1, put_s, clr_0, clr_s, unl_i, unl_l, unl_r, unl_n, nth_0, nth_s, sf_0, sf_s, cnd_0, cnd_1, cnd_2, cnd_3, cnd_4, cnd_5, fit_0, fit_1, fit_2, en_0, en_i, en_l, en_r, kb_t, kb_f, kb_n, sw_0, sw_s, ↓reduceIte, Nat.reduceEqDiff, Nat.left_eq_add, Nat.add_eq_left, Nat.add_left_cancel_iff, Nat.reduceAdd, Int.reduceLT, Int.reduceLE, Int.reduceAdd, Int.reduceSub, Int.reduceNeg, Int.reduceMul, Int.reduceToNat, Int.reduceEq, reduceCtorEq, true_and, and_true, true_or, or_true, and_false, false_and, or_false, false_or, not_true_eq_false, not_false_eq_true, Nat.le_refl, and_self, Sum.inl.injEq, Sum.inr.injEq, Option.some.injEq, hS_2, k_isref, pd_0, pd_s, List.cons_append, List.nil_append, Option.toList_none, Option.toList_some, tX5_find, rX5_find, n2, hl]
      exact ⟨hN, hM⟩
  intro j
  induction j with
  | zero =>
    intro k S h hk hS1 hN hM
    have e1 : (sz : Int) ≤ k := by omega
    have kg := (hN.2.2 g (by omega) (by omega)).trans hg
    refine p_go [] 40 ?_
    simp only [st_0, st_1, st_2, st_3, st_4, st_5, st_6, st_7, st_8, st_9, st_10, st_11, st_12, st_13, st_14, st_15, st_16, st_17, st_18, st_19, st_20, st_21, st_22, st_23, st_24, st_25, st_26, st_27, st_28, st_29, st_30, st_31, st_32, st_33, st_34, st_34a, st_35, st_36, st_37, st_38, st_39, st_42, st_44, st_45, st_47, st_40, st_41, st_46, st_48, st_49, st_43, go_0, go_s, cut_0, cut_s, get_0, get_s, put_0, put_1, put_s, clr_0, clr_s, unl_i, unl_l, unl_r, unl_n, nth_0, nth_s, sf_0, sf_s, cnd_0, cnd_1, cnd_2, cnd_3, cnd_4, cnd_5, fit_0, fit_1, fit_2, en_0, en_i, en_l, en_r, kb_t, kb_f, kb_n, sw_0, sw_s, ↓reduceIte, Nat.reduceEqDiff, Nat.left_eq_add, Nat.add_eq_left, Nat.add_left_cancel_iff, Nat.reduceAdd, Int.reduceLT, Int.reduceLE, Int.reduceAdd, Int.reduceSub, Int.reduceNeg, Int.reduceMul, Int.reduceToNat, Int.reduceEq, reduceCtorEq, true_and, and_true, true_or, or_true, and_false, false_and, or_false, false_or, not_true_eq_false, not_false_eq_true, Nat.le_refl, and_self, Sum.inl.injEq, Sum.inr.injEq, Option.some.injEq, hS_2, k_isref, pd_0, pd_s, List.cons_append, List.nil_append, Option.toList_none, Option.toList_some, tX5_find, rX5_find]
    refine cV (d' := 0) [] [vI k] l_5_34 kg (e_gsize kg) (by omega) (p_go [78] 40 ?_)
    simp only [st_0, st_1, st_2, st_3, st_4, st_5, st_6, st_7, st_8, st_9, st_10, st_11, st_12, st_13, st_14, st_15, st_16, st_17, st_18, st_19, st_20, st_21, st_22, st_23, st_24, st_25, st_26, st_27, st_28, st_29, st_30, st_31, st_32, st_33, st_34, st_34a, st_35, st_36, st_37, st_38, st_39, st_42, st_44, st_45, st_47, st_40, st_41, st_46, st_48, st_49, st_43, go_0, go_s, cut_0, cut_s, get_0, get_s, put_0, put_1, put_s, clr_0, clr_s, unl_i, unl_l, unl_r, unl_n, nth_0, nth_s, sf_0, sf_s, cnd_0, cnd_1, cnd_2, cnd_3, cnd_4, cnd_5, fit_0, fit_1, fit_2, en_0, en_i, en_l, en_r, kb_t, kb_f, kb_n, sw_0, sw_s, ↓reduceIte, Nat.reduceEqDiff, Nat.left_eq_add, Nat.add_eq_left, Nat.add_left_cancel_iff, Nat.reduceAdd, Int.reduceLT, Int.reduceLE, Int.reduceAdd, Int.reduceSub, Int.reduceNeg, Int.reduceMul, Int.reduceToNat, Int.reduceEq, reduceCtorEq, true_and, and_true, true_or, or_true, and_false, false_and, or_false, false_or, not_true_eq_false, not_false_eq_true, Nat.le_refl, and_self, Sum.inl.injEq, Sum.inr.injEq, Option.some.injEq, hS_2, k_isref, pd_0, pd_s, List.cons_append, List.nil_append, Option.toList_none, Option.toList_some, tX5_find, rX5_find, e1]
    exact hend k S h hN hM
  | succ j ih =>
    intro k S h hk hS1 hN hM
    have e1 : ¬ (sz : Int) ≤ k := by omega
    have kg := (hN.2.2 g (by omega) (by omega)).trans hg
    have n2 := hN.2.1
    refine p_go [] 40 ?_
    simp only [st_0, st_1, st_2, st_3, st_4, st_5, st_6, st_7, st_8, st_9, st_10, st_11, st_12, st_13, st_14, st_15, st_16, st_17, st_18, st_19, st_20, st_21, st_22, st_23, st_24, st_25, st_26, st_27, st_28, st_29, st_30, st_31, st_32, st_33, st_34, st_34a, st_35, st_36, st_37, st_38, st_39, st_42, st_44, st_45, st_47, st_40, st_41, st_46, st_48, st_49, st_43, go_0, go_s, cut_0, cut_s, get_0, get_s, put_0, put_1, put_s, clr_0, clr_s, unl_i, unl_l, unl_r, unl_n, nth_0, nth_s, sf_0, sf_s, cnd_0, cnd_1, cnd_2, cnd_3, cnd_4, cnd_5, fit_0, fit_1, fit_2, en_0, en_i, en_l, en_r, kb_t, kb_f, kb_n, sw_0, sw_s, ↓reduceIte, Nat.reduceEqDiff, Nat.left_eq_add, Nat.add_eq_left, Nat.add_left_cancel_iff, Nat.reduceAdd, Int.reduceLT, Int.reduceLE, Int.reduceAdd, Int.reduceSub, Int.reduceNeg, Int.reduceMul, Int.reduceToNat, Int.reduceEq, reduceCtorEq, true_and, and_true, true_or, or_true, and_false, false_and, or_false, false_or, not_true_eq_false, not_false_eq_true, Nat.le_refl, and_self, Sum.inl.injEq, Sum.inr.injEq, Option.some.injEq, hS_2, k_isref, pd_0, pd_s, List.cons_append, List.nil_append, Option.toList_none, Option.toList_some, tX5_find, rX5_find]
    refine cV (d' := 0) [] [vI k] l_5_34 kg (e_gsize kg) (by omega) (p_go [78] 40 ?_)
    unfold cmpA
    by_cases hz : S.1 ≤ 0
    · rw [if_pos hz]
      simp only [st_0, st_1, st_2, st_3, st_4, st_5, st_6, st_7, st_8, st_9, st_10, st_11, st_12, st_13, st_14, st_15, st_16, st_17, st_18, st_19, st_20, st_21, st_22, st_23, st_24, st_25, st_26, st_27, st_28, st_29, st_30, st_31, st_32, st_33, st_34, st_34a, st_35, st_36, st_37, st_38, st_39, st_42, st_44, st_45, st_47, st_40, st_41, st_46, st_48, st_49, st_43, go_0, go_s, cut_0, cut_s, get_0, get_s, put_0, put_1, put_s, clr_0, clr_s, unl_i, unl_l, unl_r, unl_n, nth_0, nth_s, sf_0, sf_s, cnd_0, cnd_1, cnd_2, cnd_3, cnd_4, cnd_5, fit_0, fit_1, fit_2, en_0, en_i, en_l, en_r, kb_t, kb_f, kb_n, sw_0, sw_s, ↓reduceIte, Nat.reduceEqDiff, Nat.left_eq_add, Nat.add_eq_left, Nat.add_left_cancel_iff, Nat.reduceAdd, Int.reduceLT, Int.reduceLE, Int.reduceAdd, Int.reduceSub, Int.reduceNeg, Int.reduceMul, Int.reduceToNat, Int.reduceEq, reduceCtorEq, true_and, and_true, true_or, or_true, and_false, false_and, or_false, false_or, not_true_eq_false, not_false_eq_true, Nat.le_refl, and_self, Sum.inl.injEq, Sum.inr.injEq, Option.some.injEq, hS_2, k_isref, pd_0, pd_s, List.cons_append, List.nil_append, Option.toList_none, Option.toList_some, tX5_find, rX5_find, e1, n2, hz]
      exact hend k S h hN hM
    · rw [if_neg hz]
      simp only [st_0, st_1, st_2, st_3, st_4, st_5, st_6, st_7, st_8, st_9, st_10, st_11, st_12, st_13, st_14, st_15, st_16, st_17, st_18, st_19, st_20, st_21, st_22, st_23, st_24, st_25, st_26, st_27, st_28, st_29, st_30, st_31, st_32, st_33, st_34, st_34a, st_35, st_36, st_37, st_38, st_39, st_42, st_44, st_45, st_47, st_40, st_41, st_46, st_48, st_49, st_43, go_0, go_s, cut_0, cut_s, get_0, get_s, put_0, put_1, put_s, clr_0, clr_s, unl_i, unl_l, unl_r, unl_n, nth_0, nth_s, sf_0, sf_s, cnd_0, cnd_1, cnd_2, cnd_3, cnd_4, cnd_5, fit_0, fit_1, fit_2, en_0, en_i, en_l, en_r, kb_t, kb_f, kb_n, sw_0, sw_s, ↓reduceIte, Nat.reduceEqDiff, Nat.left_eq_add, Nat.add_eq_left, Nat.add_left_cancel_iff, Nat.reduceAdd, Int.reduceLT, Int.reduceLE, Int.reduceAdd, Int.reduceSub, Int.reduceNeg, Int.reduceMul, Int.reduceToNat, Int.reduceEq, reduceCtorEq, true_and, and_true, true_or, or_true, and_false, false_and, or_false, false_or, not_true_eq_false, not_false_eq_true, Nat.le_refl, and_self, Sum.inl.injEq, Sum.inr.injEq, Option.some.injEq, hS_2, k_isref, pd_0, pd_s, List.cons_append, List.nil_append, Option.toList_none, Option.toList_some, tX5_find, rX5_find, e1, n2, hz]
      refine cVQ (d' := 3) [vR g, vR 5, vI k] [] l_5_39 n2 (e_compare hg hR hW hc hv hsz (Nat.le_refl 3) hq hqg (by omega) hS1 hN hM) (by omega) ?_ (fun E h' q => by cases q.1)
      intro r1 h1 ⟨q1, q2, q3⟩
      cases q1
      refine p_go [50] 40 ?_
      simp only [st_0, st_1, st_2, st_3, st_4, st_5, st_6, st_7, st_8, st_9, st_10, st_11, st_12, st_13, st_14, st_15, st_16, st_17, st_18, st_19, st_20, st_21, st_22, st_23, st_24, st_25, st_26, st_27, st_28, st_29, st_30, st_31, st_32, st_33, st_34, st_34a, st_35, st_36, st_37, st_38, st_39, st_42, st_44, st_45, st_47, st_40, st_41, st_46, st_48, st_49, st_43, go_0, go_s, cut_0, cut_s, get_0, get_s, put_0, put_1, put_s, clr_0, clr_s, unl_i, unl_l, unl_r, unl_n, nth_0, nth_s, sf_0, sf_s, cnd_0, cnd_1, cnd_2, cnd_3, cnd_4, cnd_5, fit_0, fit_1, fit_2, en_0, en_i, en_l, en_r, kb_t, kb_f, kb_n, sw_0, sw_s, ↓reduceIte, Nat.reduceEqDiff, Nat.left_eq_add, Nat.add_eq_left, Nat.add_left_cancel_iff, Nat.reduceAdd, Int.reduceLT, Int.reduceLE, Int.reduceAdd, Int.reduceSub, Int.reduceNeg, Int.reduceMul, Int.reduceToNat, Int.reduceEq, reduceCtorEq, true_and, and_true, true_or, or_true, and_false, false_and, or_false, false_or, not_true_eq_false, not_false_eq_true, Nat.le_refl, and_self, Sum.inl.injEq, Sum.inr.injEq, Option.some.injEq, hS_2, k_isref, pd_0, pd_s, List.cons_append, List.nil_append, Option.toList_none, Option.toList_some, tX5_find, rX5_find, nat1]
      exact ⟨⟨by omega, by omega⟩, ih (k + 1) _ h1 (by omega) (cmpL_b _ _ _ hS1) q2 q3⟩
set_option maxRecDepth 100000 in
set_option maxHeartbeats 4000000 in
theorem e_edition0 {N : F_} {s : Int} (hC : Cs h 2 C N e s) : k_Ev x d 0 0 mX0_edition [vR 2] h (fun o h' => o = rI e ∧ h' = h) := by
  have h1 := hC.1
  refine k_enp 0 (Nat.le_of_ble_eq_true rfl) (p_go [] 40 ?_)
  simp only [st_0, st_1, st_2, st_3, st_4, st_5, st_6, st_7, st_8, st_9, st_10, st_11, st_12, st_13, st_14, st_15, st_16, st_17, st_18, st_19, st_20, st_21, st_22, st_23, st_24, st_25, st_26, st_27, st_28, st_29, st_30, st_31, st_32, st_33, st_34, st_34a, st_35, st_36, st_37, st_38, st_39, st_42, st_44, st_45, st_47, st_40, st_41, st_46, st_48, st_49, st_43, go_0, go_s, cut_0, cut_s, get_0, get_s, put_0, put_1, put_s, clr_0, clr_s, unl_i, unl_l, unl_r, unl_n, nth_0, nth_s, sf_0, sf_s, cnd_0, cnd_1, cnd_2, cnd_3, cnd_4, cnd_5, fit_0, fit_1, fit_2, en_0, en_i, en_l, en_r, kb_t, kb_f, kb_n, sw_0, sw_s, ↓reduceIte, Nat.reduceEqDiff, Nat.left_eq_add, Nat.add_eq_left, Nat.add_left_cancel_iff, Nat.reduceAdd, Int.reduceLT, Int.reduceLE, Int.reduceAdd, Int.reduceSub, Int.reduceNeg, Int.reduceMul, Int.reduceToNat, Int.reduceEq, reduceCtorEq, true_and, and_true, true_or, or_true, and_false, false_and, or_false, false_or, not_true_eq_false, not_false_eq_true, Nat.le_refl, and_self, Sum.inl.injEq, Sum.inr.injEq, Option.some.injEq, hS_2, k_isref, pd_0, pd_s, List.cons_append, List.nil_append, Option.toList_none, Option.toList_some, tX0_edition, rX0_edition, h1]
set_option maxRecDepth 100000 in
set_option maxHeartbeats 4000000 in
theorem e_edition (hM : Mq C e h) (hd : 1 ≤ d) : k_Ev x d 0 0 mX4_edition [vR 5] h (fun o h' => o = rI e ∧ h' = h) := by
  obtain ⟨Nr, s, c1, c2, c3, w0, lo0, hi0, ac0, fl0, ln0, h5, hrest⟩ := hM
  refine k_enp 0 (Nat.le_of_ble_eq_true rfl) (p_go [] 40 ?_)
  simp only [st_0, st_1, st_2, st_3, st_4, st_5, st_6, st_7, st_8, st_9, st_10, st_11, st_12, st_13, st_14, st_15, st_16, st_17, st_18, st_19, st_20, st_21, st_22, st_23, st_24, st_25, st_26, st_27, st_28, st_29, st_30, st_31, st_32, st_33, st_34, st_34a, st_35, st_36, st_37, st_38, st_39, st_42, st_44, st_45, st_47, st_40, st_41, st_46, st_48, st_49, st_43, go_0, go_s, cut_0, cut_s, get_0, get_s, put_0, put_1, put_s, clr_0, clr_s, unl_i, unl_l, unl_r, unl_n, nth_0, nth_s, sf_0, sf_s, cnd_0, cnd_1, cnd_2, cnd_3, cnd_4, cnd_5, fit_0, fit_1, fit_2, en_0, en_i, en_l, en_r, kb_t, kb_f, kb_n, sw_0, sw_s, ↓reduceIte, Nat.reduceEqDiff, Nat.left_eq_add, Nat.add_eq_left, Nat.add_left_cancel_iff, Nat.reduceAdd, Int.reduceLT, Int.reduceLE, Int.reduceAdd, Int.reduceSub, Int.reduceNeg, Int.reduceMul, Int.reduceToNat, Int.reduceEq, reduceCtorEq, true_and, and_true, true_or, or_true, and_false, false_and, or_false, false_or, not_true_eq_false, not_false_eq_true, Nat.le_refl, and_self, Sum.inl.injEq, Sum.inr.injEq, Option.some.injEq, hS_2, k_isref, pd_0, pd_s, List.cons_append, List.nil_append, Option.toList_none, Option.toList_some, tX4_edition, rX4_edition, h5]
  refine cV (d' := 0) [] [] l_4_34 c1.1 (e_edition0 c1) (by omega) (p_go [] 40 ?_)
  simp only [st_0, st_1, st_2, st_3, st_4, st_5, st_6, st_7, st_8, st_9, st_10, st_11, st_12, st_13, st_14, st_15, st_16, st_17, st_18, st_19, st_20, st_21, st_22, st_23, st_24, st_25, st_26, st_27, st_28, st_29, st_30, st_31, st_32, st_33, st_34, st_34a, st_35, st_36, st_37, st_38, st_39, st_42, st_44, st_45, st_47, st_40, st_41, st_46, st_48, st_49, st_43, go_0, go_s, cut_0, cut_s, get_0, get_s, put_0, put_1, put_s, clr_0, clr_s, unl_i, unl_l, unl_r, unl_n, nth_0, nth_s, sf_0, sf_s, cnd_0, cnd_1, cnd_2, cnd_3, cnd_4, cnd_5, fit_0, fit_1, fit_2, en_0, en_i, en_l, en_r, kb_t, kb_f, kb_n, sw_0, sw_s, ↓reduceIte, Nat.reduceEqDiff, Nat.left_eq_add, Nat.add_eq_left, Nat.add_left_cancel_iff, Nat.reduceAdd, Int.reduceLT, Int.reduceLE, Int.reduceAdd, Int.reduceSub, Int.reduceNeg, Int.reduceMul, Int.reduceToNat, Int.reduceEq, reduceCtorEq, true_and, and_true, true_or, or_true, and_false, false_and, or_false, false_or, not_true_eq_false, not_false_eq_true, Nat.le_refl, and_self, Sum.inl.injEq, Sum.inr.injEq, Option.some.injEq, hS_2, k_isref, pd_0, pd_s, List.cons_append, List.nil_append, Option.toList_none, Option.toList_some, tX4_edition, rX4_edition]
def nfA (C cl cs : F_) (sz : Nat) : Int × Int × Int := ndo (cmpA (gap C cl cs) sz sz 0 (1000000, -1, -1))
set_option maxRecDepth 100000 in
set_option maxHeartbeats 4000000 in
theorem e_nfind {kn ed : Int} {S : Int × Int × Int} (hN : h.2 nq = some (neO kn ed S)) (hg : h.2 g = some (gO g wc pc sz)) (hR : Rw h (g + 12) 40 120 cl cs) (hW : RwW 40 120 cl) (hc : cOk C) (hv : ∀ l, l < sz → rvd cs (l * 40) (cl l)) (hsz : sz ≤ 120) (hd : 4 ≤ d) (hq : 8 < nq) (hqg : nq < g) (hM : Mq C e h) (hkn : kn = 0 ∨ kn = 1) :
    k_Ev x d 0 0 mX5_find [vR nq, vR g, vR 5] h (fun r h' => r = rV ∧ Nq h h' nq 1 e (if kn = 1 ∧ ed = e then S else nfA C cl cs sz) ∧ Mq C e h') := by
  obtain ⟨Nr, s, c1, c2, c3, w0, lo0, hi0, ac0, fl0, ln0, h5, hrest⟩ := id hM
  generalize hF : (if kn = 1 ∧ ed = e then S else nfA C cl cs sz) = F
  have hgo : ¬ (kn = 1 ∧ ed = e) → k_Wp x d 0 0 mX5_find (fun r h' => r = rV ∧ Nq h h' nq 1 e F ∧ Mq C e h') 0 0 19 [some (vR nq), some (vR g), some (vR 5), none] [] h := by
    intro hn
    rw [if_neg hn] at hF
    subst hF
    refine p_go [] 40 ?_
    simp only [st_0, st_1, st_2, st_3, st_4, st_5, st_6, st_7, st_8, st_9, st_10, st_11, st_12, st_13, st_14, st_15, st_16, st_17, st_18, st_19, st_20, st_21, st_22, st_23, st_24, st_25, st_26, st_27, st_28, st_29, st_30, st_31, st_32, st_33, st_34, st_34a, st_35, st_36, st_37, st_38, st_39, st_42, st_44, st_45, st_47, st_40, st_41, st_46, st_48, st_49, st_43, go_0, go_s, cut_0, cut_s, get_0, get_s, put_0, put_1, put_s, clr_0, clr_s, unl_i, unl_l, unl_r, unl_n, nth_0, nth_s, sf_0, sf_s, cnd_0, cnd_1, cnd_2, cnd_3, cnd_4, cnd_5, fit_0, fit_1, fit_2, en_0, en_i, en_l, en_r, kb_t, kb_f, kb_n, sw_0, sw_s, ↓reduceIte, Nat.reduceEqDiff, Nat.left_eq_add, Nat.add_eq_left, Nat.add_left_cancel_iff, Nat.reduceAdd, Int.reduceLT, Int.reduceLE, Int.reduceAdd, Int.reduceSub, Int.reduceNeg, Int.reduceMul, Int.reduceToNat, Int.reduceEq, reduceCtorEq, true_and, and_true, true_or, or_true, and_false, false_and, or_false, false_or, not_true_eq_false, not_false_eq_true, Nat.le_refl, and_self, Sum.inl.injEq, Sum.inr.injEq, Option.some.injEq, hS_2, k_isref, pd_0, pd_s, List.cons_append, List.nil_append, Option.toList_none, Option.toList_some, tX5_find, rX5_find, hN]
    have h5' : (hS h nq (neO 1 ed S)).2 5 = some (mo w0 lo0 hi0) := (hS_n (by omega)).trans h5
    refine cV (d' := 1) [] [vR nq] l_5_28 h5' (e_edition (hM.off hq) (Nat.le_refl 1)) (by omega) (p_go [50] 40 ?_)
    simp only [st_0, st_1, st_2, st_3, st_4, st_5, st_6, st_7, st_8, st_9, st_10, st_11, st_12, st_13, st_14, st_15, st_16, st_17, st_18, st_19, st_20, st_21, st_22, st_23, st_24, st_25, st_26, st_27, st_28, st_29, st_30, st_31, st_32, st_33, st_34, st_34a, st_35, st_36, st_37, st_38, st_39, st_42, st_44, st_45, st_47, st_40, st_41, st_46, st_48, st_49, st_43, go_0, go_s, cut_0, cut_s, get_0, get_s, put_0, put_1, put_s, clr_0, clr_s, unl_i, unl_l, unl_r, unl_n, nth_0, nth_s, sf_0, sf_s, cnd_0, cnd_1, cnd_2, cnd_3, cnd_4, cnd_5, fit_0, fit_1, fit_2, en_0, en_i, en_l, en_r, kb_t, kb_f, kb_n, sw_0, sw_s, ↓reduceIte, Nat.reduceEqDiff, Nat.left_eq_add, Nat.add_eq_left, Nat.add_left_cancel_iff, Nat.reduceAdd, Int.reduceLT, Int.reduceLE, Int.reduceAdd, Int.reduceSub, Int.reduceNeg, Int.reduceMul, Int.reduceToNat, Int.reduceEq, reduceCtorEq, true_and, and_true, true_or, or_true, and_false, false_and, or_false, false_or, not_true_eq_false, not_false_eq_true, Nat.le_refl, and_self, Sum.inl.injEq, Sum.inr.injEq, Option.some.injEq, hS_2, k_isref, pd_0, pd_s, List.cons_append, List.nil_append, Option.toList_none, Option.toList_some, tX5_find, rX5_find, hS_hS]
    exact w_nfind hg hR hW hc hv hsz hd hq hqg sz 0 (1000000, -1, -1) _ (by omega) (Int.le_refl _) ⟨rfl, hS_s _ _ _, fun z z1 z2 => hS_n z2⟩ (hM.off hq)
  refine k_enp 1 (Nat.le_of_ble_eq_true rfl) (p_go [19] 40 ?_)
  by_cases hk : kn = 1
  · subst hk
    simp only [st_0, st_1, st_2, st_3, st_4, st_5, st_6, st_7, st_8, st_9, st_10, st_11, st_12, st_13, st_14, st_15, st_16, st_17, st_18, st_19, st_20, st_21, st_22, st_23, st_24, st_25, st_26, st_27, st_28, st_29, st_30, st_31, st_32, st_33, st_34, st_34a, st_35, st_36, st_37, st_38, st_39, st_42, st_44, st_45, st_47, st_40, st_41, st_46, st_48, st_49, st_43, go_0, go_s, cut_0, cut_s, get_0, get_s, put_0, put_1, put_s, clr_0, clr_s, unl_i, unl_l, unl_r, unl_n, nth_0, nth_s, sf_0, sf_s, cnd_0, cnd_1, cnd_2, cnd_3, cnd_4, cnd_5, fit_0, fit_1, fit_2, en_0, en_i, en_l, en_r, kb_t, kb_f, kb_n, sw_0, sw_s, ↓reduceIte, Nat.reduceEqDiff, Nat.left_eq_add, Nat.add_eq_left, Nat.add_left_cancel_iff, Nat.reduceAdd, Int.reduceLT, Int.reduceLE, Int.reduceAdd, Int.reduceSub, Int.reduceNeg, Int.reduceMul, Int.reduceToNat, Int.reduceEq, reduceCtorEq, true_and, and_true, true_or, or_true, and_false, false_and, or_false, false_or, not_true_eq_false, not_false_eq_true, Nat.le_refl, and_self, Sum.inl.injEq, Sum.inr.injEq, Option.some.injEq, hS_2, k_isref, pd_0, pd_s, List.cons_append, List.nil_append, Option.toList_none, Option.toList_some, tX5_find, rX5_find, hN]
    refine cV (d' := 1) [] [vI ed] l_5_28 h5 (e_edition hM (Nat.le_refl 1)) (by omega) (p_go [19] 40 ?_)
    simp only [st_0, st_1, st_2, st_3, st_4, st_5, st_6, st_7, st_8, st_9, st_10, st_11, st_12, st_13, st_14, st_15, st_16, st_17, st_18, st_19, st_20, st_21, st_22, st_23, st_24, st_25, st_26, st_27, st_28, st_29, st_30, st_31, st_32, st_33, st_34, st_34a, st_35, st_36, st_37, st_38, st_39, st_42, st_44, st_45, st_47, st_40, st_41, st_46, st_48, st_49, st_43, go_0, go_s, cut_0, cut_s, get_0, get_s, put_0, put_1, put_s, clr_0, clr_s, unl_i, unl_l, unl_r, unl_n, nth_0, nth_s, sf_0, sf_s, cnd_0, cnd_1, cnd_2, cnd_3, cnd_4, cnd_5, fit_0, fit_1, fit_2, en_0, en_i, en_l, en_r, kb_t, kb_f, kb_n, sw_0, sw_s, ↓reduceIte, Nat.reduceEqDiff, Nat.left_eq_add, Nat.add_eq_left, Nat.add_left_cancel_iff, Nat.reduceAdd, Int.reduceLT, Int.reduceLE, Int.reduceAdd, Int.reduceSub, Int.reduceNeg, Int.reduceMul, Int.reduceToNat, Int.reduceEq, reduceCtorEq, true_and, and_true, true_or, or_true, and_false, false_and, or_false, false_or, not_true_eq_false, not_false_eq_true, Nat.le_refl, and_self, Sum.inl.injEq, Sum.inr.injEq, Option.some.injEq, hS_2, k_isref, pd_0, pd_s, List.cons_append, List.nil_append, Option.toList_none, Option.toList_some, tX5_find, rX5_find]
    refine k_brI (fun c => ?_) (fun c => ?_)
    · rw [if_pos ⟨rfl, c⟩] at hF
      subst hF
      exact ⟨⟨rfl, by rw [hN, c], fun z z1 z2 => rfl⟩, hM⟩
    · exact hgo (fun q => c q.2)
  · have e0 : kn = 0 := by omega
    subst e0
    simp only [st_0, st_1, st_2, st_3, st_4, st_5, st_6, st_7, st_8, st_9, st_10, st_11, st_12, st_13, st_14, st_15, st_16, st_17, st_18, st_19, st_20, st_21, st_22, st_23, st_24, st_25, st_26, st_27, st_28, st_29, st_30, st_31, st_32, st_33, st_34, st_34a, st_35, st_36, st_37, st_38, st_39, st_42, st_44, st_45, st_47, st_40, st_41, st_46, st_48, st_49, st_43, go_0, go_s, cut_0, cut_s, get_0, get_s, put_0, put_1, put_s, clr_0, clr_s, unl_i, unl_l, unl_r, unl_n, nth_0, nth_s, sf_0, sf_s, cnd_0, cnd_1, cnd_2, cnd_3, cnd_4, cnd_5, fit_0, fit_1, fit_2, en_0, en_i, en_l, en_r, kb_t, kb_f, kb_n, sw_0, sw_s, ↓reduceIte, Nat.reduceEqDiff, Nat.left_eq_add, Nat.add_eq_left, Nat.add_left_cancel_iff, Nat.reduceAdd, Int.reduceLT, Int.reduceLE, Int.reduceAdd, Int.reduceSub, Int.reduceNeg, Int.reduceMul, Int.reduceToNat, Int.reduceEq, reduceCtorEq, true_and, and_true, true_or, or_true, and_false, false_and, or_false, false_or, not_true_eq_false, not_false_eq_true, Nat.le_refl, and_self, Sum.inl.injEq, Sum.inr.injEq, Option.some.injEq, hS_2, k_isref, pd_0, pd_s, List.cons_append, List.nil_append, Option.toList_none, Option.toList_some, tX5_find, rX5_find, hN]
    exact hgo (fun q => hk q.1)
set_option maxRecDepth 100000 in
set_option maxHeartbeats 4000000 in
theorem e_nforget {kn ed : Int} {S : Int × Int × Int} (hN : h.2 nq = some (neO kn ed S)) : k_Ev x d 0 0 mX5_forget [vR nq] h (fun o h' => o = rV ∧ h' = hS h nq (neO 0 ed S)) := by
  refine k_enp 0 (Nat.le_of_ble_eq_true rfl) (p_go [] 40 ?_)
  simp only [st_0, st_1, st_2, st_3, st_4, st_5, st_6, st_7, st_8, st_9, st_10, st_11, st_12, st_13, st_14, st_15, st_16, st_17, st_18, st_19, st_20, st_21, st_22, st_23, st_24, st_25, st_26, st_27, st_28, st_29, st_30, st_31, st_32, st_33, st_34, st_34a, st_35, st_36, st_37, st_38, st_39, st_42, st_44, st_45, st_47, st_40, st_41, st_46, st_48, st_49, st_43, go_0, go_s, cut_0, cut_s, get_0, get_s, put_0, put_1, put_s, clr_0, clr_s, unl_i, unl_l, unl_r, unl_n, nth_0, nth_s, sf_0, sf_s, cnd_0, cnd_1, cnd_2, cnd_3, cnd_4, cnd_5, fit_0, fit_1, fit_2, en_0, en_i, en_l, en_r, kb_t, kb_f, kb_n, sw_0, sw_s, ↓reduceIte, Nat.reduceEqDiff, Nat.left_eq_add, Nat.add_eq_left, Nat.add_left_cancel_iff, Nat.reduceAdd, Int.reduceLT, Int.reduceLE, Int.reduceAdd, Int.reduceSub, Int.reduceNeg, Int.reduceMul, Int.reduceToNat, Int.reduceEq, reduceCtorEq, true_and, and_true, true_or, or_true, and_false, false_and, or_false, false_or, not_true_eq_false, not_false_eq_true, Nat.le_refl, and_self, Sum.inl.injEq, Sum.inr.injEq, Option.some.injEq, hS_2, k_isref, pd_0, pd_s, List.cons_append, List.nil_append, Option.toList_none, Option.toList_some, tX5_forget, rX5_forget, hN]
set_option maxRecDepth 100000 in
set_option maxHeartbeats 4000000 in
theorem e_nleast {kn ed : Int} {S : Int × Int × Int} (hN : h.2 nq = some (neO kn ed S)) : k_Ev x d 0 0 mX5_least [vR nq] h (fun o h' => o = rI S.1 ∧ h' = h) := by
  refine k_enp 0 (Nat.le_of_ble_eq_true rfl) (p_go [] 40 ?_)
  simp only [st_0, st_1, st_2, st_3, st_4, st_5, st_6, st_7, st_8, st_9, st_10, st_11, st_12, st_13, st_14, st_15, st_16, st_17, st_18, st_19, st_20, st_21, st_22, st_23, st_24, st_25, st_26, st_27, st_28, st_29, st_30, st_31, st_32, st_33, st_34, st_34a, st_35, st_36, st_37, st_38, st_39, st_42, st_44, st_45, st_47, st_40, st_41, st_46, st_48, st_49, st_43, go_0, go_s, cut_0, cut_s, get_0, get_s, put_0, put_1, put_s, clr_0, clr_s, unl_i, unl_l, unl_r, unl_n, nth_0, nth_s, sf_0, sf_s, cnd_0, cnd_1, cnd_2, cnd_3, cnd_4, cnd_5, fit_0, fit_1, fit_2, en_0, en_i, en_l, en_r, kb_t, kb_f, kb_n, sw_0, sw_s, ↓reduceIte, Nat.reduceEqDiff, Nat.left_eq_add, Nat.add_eq_left, Nat.add_left_cancel_iff, Nat.reduceAdd, Int.reduceLT, Int.reduceLE, Int.reduceAdd, Int.reduceSub, Int.reduceNeg, Int.reduceMul, Int.reduceToNat, Int.reduceEq, reduceCtorEq, true_and, and_true, true_or, or_true, and_false, false_and, or_false, false_or, not_true_eq_false, not_false_eq_true, Nat.le_refl, and_self, Sum.inl.injEq, Sum.inr.injEq, Option.some.injEq, hS_2, k_isref, pd_0, pd_s, List.cons_append, List.nil_append, Option.toList_none, Option.toList_some, tX5_least, rX5_least, hN]
set_option maxRecDepth 100000 in
set_option maxHeartbeats 4000000 in
theorem e_nlower {kn ed : Int} {S : Int × Int × Int} (hN : h.2 nq = some (neO kn ed S)) : k_Ev x d 0 0 mX5_lower [vR nq] h (fun o h' => o = rI S.2.1 ∧ h' = h) := by
  refine k_enp 0 (Nat.le_of_ble_eq_true rfl) (p_go [] 40 ?_)
  simp only [st_0, st_1, st_2, st_3, st_4, st_5, st_6, st_7, st_8, st_9, st_10, st_11, st_12, st_13, st_14, st_15, st_16, st_17, st_18, st_19, st_20, st_21, st_22, st_23, st_24, st_25, st_26, st_27, st_28, st_29, st_30, st_31, st_32, st_33, st_34, st_34a, st_35, st_36, st_37, st_38, st_39, st_42, st_44, st_45, st_47, st_40, st_41, st_46, st_48, st_49, st_43, go_0, go_s, cut_0, cut_s, get_0, get_s, put_0, put_1, put_s, clr_0, clr_s, unl_i, unl_l, unl_r, unl_n, nth_0, nth_s, sf_0, sf_s, cnd_0, cnd_1, cnd_2, cnd_3, cnd_4, cnd_5, fit_0, fit_1, fit_2, en_0, en_i, en_l, en_r, kb_t, kb_f, kb_n, sw_0, sw_s, ↓reduceIte, Nat.reduceEqDiff, Nat.left_eq_add, Nat.add_eq_left, Nat.add_left_cancel_iff, Nat.reduceAdd, Int.reduceLT, Int.reduceLE, Int.reduceAdd, Int.reduceSub, Int.reduceNeg, Int.reduceMul, Int.reduceToNat, Int.reduceEq, reduceCtorEq, true_and, and_true, true_or, or_true, and_false, false_and, or_false, false_or, not_true_eq_false, not_false_eq_true, Nat.le_refl, and_self, Sum.inl.injEq, Sum.inr.injEq, Option.some.injEq, hS_2, k_isref, pd_0, pd_s, List.cons_append, List.nil_append, Option.toList_none, Option.toList_some, tX5_lower, rX5_lower, hN]
set_option maxRecDepth 100000 in
set_option maxHeartbeats 4000000 in
theorem e_nupper {kn ed : Int} {S : Int × Int × Int} (hN : h.2 nq = some (neO kn ed S)) : k_Ev x d 0 0 mX5_upper [vR nq] h (fun o h' => o = rI S.2.2 ∧ h' = h) := by
  refine k_enp 0 (Nat.le_of_ble_eq_true rfl) (p_go [] 40 ?_)
  simp only [st_0, st_1, st_2, st_3, st_4, st_5, st_6, st_7, st_8, st_9, st_10, st_11, st_12, st_13, st_14, st_15, st_16, st_17, st_18, st_19, st_20, st_21, st_22, st_23, st_24, st_25, st_26, st_27, st_28, st_29, st_30, st_31, st_32, st_33, st_34, st_34a, st_35, st_36, st_37, st_38, st_39, st_42, st_44, st_45, st_47, st_40, st_41, st_46, st_48, st_49, st_43, go_0, go_s, cut_0, cut_s, get_0, get_s, put_0, put_1, put_s, clr_0, clr_s, unl_i, unl_l, unl_r, unl_n, nth_0, nth_s, sf_0, sf_s, cnd_0, cnd_1, cnd_2, cnd_3, cnd_4, cnd_5, fit_0, fit_1, fit_2, en_0, en_i, en_l, en_r, kb_t, kb_f, kb_n, sw_0, sw_s, ↓reduceIte, Nat.reduceEqDiff, Nat.left_eq_add, Nat.add_eq_left, Nat.add_left_cancel_iff, Nat.reduceAdd, Int.reduceLT, Int.reduceLE, Int.reduceAdd, Int.reduceSub, Int.reduceNeg, Int.reduceMul, Int.reduceToNat, Int.reduceEq, reduceCtorEq, true_and, and_true, true_or, or_true, and_false, false_and, or_false, false_or, not_true_eq_false, not_false_eq_true, Nat.le_refl, and_self, Sum.inl.injEq, Sum.inr.injEq, Option.some.injEq, hS_2, k_isref, pd_0, pd_s, List.cons_append, List.nil_append, Option.toList_none, Option.toList_some, tX5_upper, rX5_upper, hN]
end Near38
