/-! Parser.parse -/
section Pars36
variable {x : Bool} {d : Nat} {h0 h : PH} {a p g r sz pn rc t q q2 : Nat} {nw pk cl cs f : F_} {R E : LxT}
def bhd (f : F_) : Nat → Nat → Nat
  | 0, i => i
  | j + 1, i => if lt_ (f i) then bhd f j (i + 1) else i
theorem bhd_b (f : F_) : ∀ (j i : Nat), i ≤ bhd f j i ∧ bhd f j i ≤ i + j ∧ alls f i (bhd f j i - i)
  | 0, i => ⟨Nat.le_refl _, Nat.le_refl _, fun k hk => by unfold bhd at hk; omega⟩
  | j + 1, i => by
    unfold bhd
    split
    · rename_i hl
      obtain ⟨b1, b2, b3⟩ := bhd_b f j (i + 1)
      refine ⟨by omega, by omega, fun k hk => ?_⟩
      by_cases hk0 : k = 0
      · subst hk0; exact hl
      · have := b3 (k - 1) (by omega)
        rw [show i + 1 + (k - 1) = i + k by omega] at this
        exact this
    · exact ⟨by omega, by omega, fun k hk => by omega⟩
set_option maxRecDepth 100000 in
set_option maxHeartbeats 4000000 in
theorem w_behind (ht : h.2 t = some (cI 400 f)) (hd : 1 ≤ d) {i0 en : Nat} (hen : en ≤ 400) {m : Nat} : ∀ (j i : Nat), i + j = en → bhd f j i = m →
    k_Wp x d 0 0 mX6_behindLetters (fun o h' => o = rI m ∧ h' = h) 0 0 2 [some (vR t), some (vI i0), some (vI en), some (vI i)] [] h := by
  intro j
  induction j with
  | zero =>
    intro i hi hm
    have e : (en : Int) ≤ i := by omega
    refine p_go [] 40 ?_
    simp only [st_0, st_1, st_2, st_3, st_4, st_5, st_6, st_7, st_8, st_9, st_10, st_11, st_12, st_13, st_14, st_15, st_16, st_17, st_18, st_19, st_20, st_21, st_22, st_23, st_24, st_25, st_26, st_27, st_28, st_29, st_30, st_31, st_32, st_33, st_34, st_34a, st_35, st_36, st_37, st_38, st_39, st_42, st_44, st_45, st_47, st_40, st_41, st_46, st_48, st_49, st_43, go_0, go_s, cut_0, cut_s, get_0, get_s, put_0, put_1, put_s, clr_0, clr_s, unl_i, unl_l, unl_r, unl_n, nth_0, nth_s, sf_0, sf_s, cnd_0, cnd_1, cnd_2, cnd_3, cnd_4, cnd_5, fit_0, fit_1, fit_2, en_0, en_i, en_l, en_r, kb_t, kb_f, kb_n, sw_0, sw_s, ↓reduceIte, Nat.reduceEqDiff, Nat.left_eq_add, Nat.add_eq_left, Nat.add_left_cancel_iff, Nat.reduceAdd, Int.reduceLT, Int.reduceLE, Int.reduceAdd, Int.reduceSub, Int.reduceNeg, Int.reduceMul, Int.reduceToNat, Int.reduceEq, reduceCtorEq, true_and, and_true, true_or, or_true, and_false, false_and, or_false, false_or, not_true_eq_false, not_false_eq_true, Nat.le_refl, and_self, Sum.inl.injEq, Sum.inr.injEq, Option.some.injEq, hS_2, k_isref, pd_0, pd_s, List.cons_append, List.nil_append, Option.toList_none, Option.toList_some, tX6_behindLetters, rX6_behindLetters, e]
    rw [← hm]; rfl
  | succ j ih =>
    intro i hi hm
    have e : ¬ (en : Int) ≤ i := by omega
    unfold bhd at hm
    refine p_go [] 40 ?_
    simp only [st_0, st_1, st_2, st_3, st_4, st_5, st_6, st_7, st_8, st_9, st_10, st_11, st_12, st_13, st_14, st_15, st_16, st_17, st_18, st_19, st_20, st_21, st_22, st_23, st_24, st_25, st_26, st_27, st_28, st_29, st_30, st_31, st_32, st_33, st_34, st_34a, st_35, st_36, st_37, st_38, st_39, st_42, st_44, st_45, st_47, st_40, st_41, st_46, st_48, st_49, st_43, go_0, go_s, cut_0, cut_s, get_0, get_s, put_0, put_1, put_s, clr_0, clr_s, unl_i, unl_l, unl_r, unl_n, nth_0, nth_s, sf_0, sf_s, cnd_0, cnd_1, cnd_2, cnd_3, cnd_4, cnd_5, fit_0, fit_1, fit_2, en_0, en_i, en_l, en_r, kb_t, kb_f, kb_n, sw_0, sw_s, ↓reduceIte, Nat.reduceEqDiff, Nat.left_eq_add, Nat.add_eq_left, Nat.add_left_cancel_iff, Nat.reduceAdd, Int.reduceLT, Int.reduceLE, Int.reduceAdd, Int.reduceSub, Int.reduceNeg, Int.reduceMul, Int.reduceToNat, Int.reduceEq, reduceCtorEq, true_and, and_true, true_or, or_true, and_false, false_and, or_false, false_or, not_true_eq_false, not_false_eq_true, Nat.le_refl, and_self, Sum.inl.injEq, Sum.inr.injEq, Option.some.injEq, hS_2, k_isref, pd_0, pd_s, List.cons_append, List.nil_append, Option.toList_none, Option.toList_some, tX6_behindLetters, rX6_behindLetters, e, ht, Int.toNat_natCast]
    refine ⟨⟨by omega, by omega⟩, ?_⟩
    refine cSN (d' := 0) [vI (f i)] [] l_6_52 (e_isLetter _) hd (p_go [2] 40 ?_)
    by_cases hl : lt_ (f i)
    · simp only [if_pos hl] at hm ⊢
      simp only [st_0, st_1, st_2, st_3, st_4, st_5, st_6, st_7, st_8, st_9, st_10, st_11, st_12, st_13, st_14, st_15, st_16, st_17, st_18, st_19, st_20, st_21, st_22, st_23, st_24, st_25, st_26, st_27, st_28, st_29, st_30, st_31, st_32, st_33, st_34, st_34a, st_35, st_36, st_37, st_38, st_39, st_42, st_44, st_45, st_47, st_40, st_41, st_46, st_48, st_49, st_43, go_0, go_s, cut_0, cut_s, get_0, get_s, put_0, put_1, put_s, clr_0, clr_s, unl_i, unl_l, unl_r, unl_n, nth_0, nth_s, sf_0, sf_s, cnd_0, cnd_1, cnd_2, cnd_3, cnd_4, cnd_5, fit_0, fit_1, fit_2, en_0, en_i, en_l, en_r, kb_t, kb_f, kb_n, sw_0, sw_s, ↓reduceIte, Nat.reduceEqDiff, Nat.left_eq_add, Nat.add_eq_left, Nat.add_left_cancel_iff, Nat.reduceAdd, Int.reduceLT, Int.reduceLE, Int.reduceAdd, Int.reduceSub, Int.reduceNeg, Int.reduceMul, Int.reduceToNat, Int.reduceEq, reduceCtorEq, true_and, and_true, true_or, or_true, and_false, false_and, or_false, false_or, not_true_eq_false, not_false_eq_true, Nat.le_refl, and_self, Sum.inl.injEq, Sum.inr.injEq, Option.some.injEq, hS_2, k_isref, pd_0, pd_s, List.cons_append, List.nil_append, Option.toList_none, Option.toList_some, tX6_behindLetters, rX6_behindLetters, nat1]
      exact ⟨⟨by omega, by omega⟩, ih (i + 1) (by omega) hm⟩
    · simp only [if_neg hl] at hm ⊢
      simp only [st_0, st_1, st_2, st_3, st_4, st_5, st_6, st_7, st_8, st_9, st_10, st_11, st_12, st_13, st_14, st_15, st_16, st_17, st_18, st_19, st_20, st_21, st_22, st_23, st_24, st_25, st_26, st_27, st_28, st_29, st_30, st_31, st_32, st_33, st_34, st_34a, st_35, st_36, st_37, st_38, st_39, st_42, st_44, st_45, st_47, st_40, st_41, st_46, st_48, st_49, st_43, go_0, go_s, cut_0, cut_s, get_0, get_s, put_0, put_1, put_s, clr_0, clr_s, unl_i, unl_l, unl_r, unl_n, nth_0, nth_s, sf_0, sf_s, cnd_0, cnd_1, cnd_2, cnd_3, cnd_4, cnd_5, fit_0, fit_1, fit_2, en_0, en_i, en_l, en_r, kb_t, kb_f, kb_n, sw_0, sw_s, ↓reduceIte, Nat.reduceEqDiff, Nat.left_eq_add, Nat.add_eq_left, Nat.add_left_cancel_iff, Nat.reduceAdd, Int.reduceLT, Int.reduceLE, Int.reduceAdd, Int.reduceSub, Int.reduceNeg, Int.reduceMul, Int.reduceToNat, Int.reduceEq, reduceCtorEq, true_and, and_true, true_or, or_true, and_false, false_and, or_false, false_or, not_true_eq_false, not_false_eq_true, Nat.le_refl, and_self, Sum.inl.injEq, Sum.inr.injEq, Option.some.injEq, hS_2, k_isref, pd_0, pd_s, List.cons_append, List.nil_append, Option.toList_none, Option.toList_some, tX6_behindLetters, rX6_behindLetters]
      rw [hm]
set_option maxRecDepth 100000 in
set_option maxHeartbeats 4000000 in
theorem e_behind (ht : h.2 t = some (cI 400 f)) (hd : 1 ≤ d) {i en : Nat} (hen : en ≤ 400) (hi : i ≤ en) : k_Ev x d 0 0 mX6_behindLetters [vR t, vI i, vI en] h (fun o h' => o = rI (bhd f (en - i) i : Nat) ∧ h' = h) := by
  refine k_enp 1 (Nat.le_of_ble_eq_true rfl) (p_go [2] 40 ?_)
  simp only [st_0, st_1, st_2, st_3, st_4, st_5, st_6, st_7, st_8, st_9, st_10, st_11, st_12, st_13, st_14, st_15, st_16, st_17, st_18, st_19, st_20, st_21, st_22, st_23, st_24, st_25, st_26, st_27, st_28, st_29, st_30, st_31, st_32, st_33, st_34, st_34a, st_35, st_36, st_37, st_38, st_39, st_42, st_44, st_45, st_47, st_40, st_41, st_46, st_48, st_49, st_43, go_0, go_s, cut_0, cut_s, get_0, get_s, put_0, put_1, put_s, clr_0, clr_s, unl_i, unl_l, unl_r, unl_n, nth_0, nth_s, sf_0, sf_s, cnd_0, cnd_1, cnd_2, cnd_3, cnd_4, cnd_5, fit_0, fit_1, fit_2, en_0, en_i, en_l, en_r, kb_t, kb_f, kb_n, sw_0, sw_s, ↓reduceIte, Nat.reduceEqDiff, Nat.left_eq_add, Nat.add_eq_left, Nat.add_left_cancel_iff, Nat.reduceAdd, Int.reduceLT, Int.reduceLE, Int.reduceAdd, Int.reduceSub, Int.reduceNeg, Int.reduceMul, Int.reduceToNat, Int.reduceEq, reduceCtorEq, true_and, and_true, true_or, or_true, and_false, false_and, or_false, false_or, not_true_eq_false, not_false_eq_true, Nat.le_refl, and_self, Sum.inl.injEq, Sum.inr.injEq, Option.some.injEq, hS_2, k_isref, pd_0, pd_s, List.cons_append, List.nil_append, Option.toList_none, Option.toList_some, tX6_behindLetters, rX6_behindLetters]
  exact w_behind ht hd hen (en - i) i (by omega) rfl
theorem psI.mono {S : PS} {rc' : Nat} (hI : psI rc S) (h : rc ≤ rc') : psI rc' S := by
  obtain ⟨i1, i2, i3, i4, i5, i6, i7, i8, i9⟩ := hI
  exact ⟨i1, i2, i3, i4, i5, i6, fun k hk => ⟨(i7 k hk).1, by have := (i7 k hk).2; omega⟩, i8, i9⟩
theorem tkOpen_I {S : PS} {mb : Int} (hI : psI rc S) (hmb : mb = 0 ∨ mb = 1) : psI (rc + 1) (tkOpen mb S).2 := by
  obtain ⟨⟨o, e⟩, ⟨wc, pc⟩, ⟨wl, ws, wp, wq⟩, ⟨op, oq, pt, ob⟩, ⟨lf, sf⟩⟩ := S
  unfold tkOpen
  simp only
  split
  · exact hI.mono (by omega)
  · obtain ⟨i1, i2, i3, i4, i5, i6, i7, i8, i9⟩ := hI
    simp only at i1 i2 i3 i4 i5 i6 i7 i8 i9
    refine ⟨⟨?_, ?_⟩, Or.inr rfl, i3, ?_, i5, i6, fun k hk => ?_, fun k hk => ?_, fun k hk => ?_⟩
    all_goals simp only at *
    · omega
    · omega
    · omega
    · unfold fS
      split
      · omega
      · have := i7 k (by omega); omega
    · unfold fS
      split
      · omega
      · have := i8 k (by omega); omega
    · unfold fS
      split
      · exact hmb
      · exact i9 k (by omega)
theorem tkBar_I {S : PS} (hI : psI rc S) : psI (rc + 1) (tkBar S).2 := by
  obtain ⟨⟨o, e⟩, ⟨wc, pc⟩, ⟨wl, ws, wp, wq⟩, ⟨op, oq, pt, ob⟩, ⟨lf, sf⟩⟩ := S
  unfold tkBar
  simp only
  split
  · exact hI.mono (by omega)
  · obtain ⟨i1, i2, i3, i4, i5, i6, i7, i8, i9⟩ := hI
    simp only at i1 i2 i3 i4 i5 i6 i7 i8 i9
    refine ⟨i1, Or.inr rfl, i3, i4, i5, i6, fun k hk => ?_, i8, i9⟩
    simp only at *
    have h7 := i7 k hk
    unfold fS
    split
    · rename_i e1
      rw [← e1]; omega
    · omega
theorem tkClose_I {S : PS} {mb : Int} (hI : psI rc S) : psI (rc + 1) (tkClose mb S).2 := by
  obtain ⟨⟨o, e⟩, ⟨wc, pc⟩, ⟨wl, ws, wp, wq⟩, ⟨op, oq, pt, ob⟩, ⟨lf, sf⟩⟩ := S
  unfold tkClose
  simp only
  split
  · exact hI.mono (by omega)
  · rename_i hn
    obtain ⟨i1, i2, i3, i4, i5, i6, i7, i8, i9⟩ := hI.mono (Nat.le_succ rc)
    simp only at i1 i2 i3 i4 i5 i6 i7 i8 i9
    have h8 := i8 o.toNat (by omega)
    refine ⟨⟨?_, ?_⟩, i2, i3, i4, i5, i6, i7, i8, i9⟩
    all_goals simp only
    · omega
    · omega
theorem tkSign_I {S : PS} {v : Int} (hI : psI rc S) : psI (rc + 1) (tkSign v S).2 := by
  unfold tkSign
  repeat' split
  · exact hI.mono (by omega)
  · exact tkOpen_I hI (Or.inl rfl)
  · exact tkOpen_I hI (Or.inr rfl)
  · exact tkBar_I hI
  · exact tkClose_I hI
  · exact tkClose_I hI
  · exact hI.mono (by omega)
theorem tkSpell_I {S : PS} {bh : Nat} (hE : EnvI R E) (hI : psI rc S) : psI rc (tkSpell R E f rc bh S).2 := by
  obtain ⟨⟨o, e⟩, ⟨wc, pc⟩, ⟨wl, ws, wp, wq⟩, ⟨op, oq, pt, ob⟩, ⟨lf, sf⟩⟩ := S
  have hb := rdE_b (f := f) (b := rc) (c := bh - rc) (lf := lf) (sf := sf) hE
  unfold tkSpell
  simp only
  obtain ⟨i1, i2, i3, i4, i5, i6, i7, i8, i9⟩ := hI
  simp only at i1 i2 i3 i4 i5 i6 i7 i8 i9
  split
  · exact ⟨i1, i2, i3, i4, i5, i6, i7, i8, i9⟩
  · split
    · exact ⟨i1, i2, i3, i4, i5, hb, i7, i8, i9⟩
    · split
      · exact ⟨i1, Or.inl rfl, i3, i4, i5, hb, i7, i8, i9⟩
      · have hj : 0 ≤ jn 20 0 ((rdE R E f rc (bh - rc) lf sf).2.1 0) ∧ jn 20 0 ((rdE R E f rc (bh - rc) lf sf).2.1 0) ≤ 20 := by unfold jn; split <;> omega
        exact ⟨i1, Or.inl rfl, by simp only; omega, i4, i5.set hj.1 hj.2, hb, i7, i8, i9⟩
end Pars36
