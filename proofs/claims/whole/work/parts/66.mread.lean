/-! the reference: reads -/
/-- the sounds of a lexicon, and the reference's -/
def lxS (rl rs : F_) (sz w : Nat) (mn S : F_) : Prop := ∀ k, k < sz → mn k = rl k ∧ ∀ i : Nat, (i : Int) < rl k → S (w * k + i) = rs (k * w + i)
section Mread66
variable {x : Bool} {d : Nat} {h : PH} {s : F_} {P : PO → PH → Prop} {g : F_}
abbrev rdH (h : PH) (s sd : F_) (m : Int) : PH := hS (hS h 71 (cI 40 sd)) 57 (mO (mS s 21 m))
theorem rdH_rdH {sd sd' : F_} {m m' : Int} : hS (hS (rdH h s sd m) 71 (cI 40 sd')) 57 (mO (mS s 21 m')) = rdH h s sd' m' := hS_22 (by decide)
theorem rdH_n {sd : F_} {m : Int} {z : Nat} (h1 : z ≠ 71) (h2 : z ≠ 57) : (rdH h s sd m).2 z = h.2 z := (hS_n h2).trans (hS_n h1)
theorem rdH_72 {sd : F_} {m : Int} : (rdH h s sd m).2 57 = some (mO (mS s 21 m)) := hS_s _ _ _
theorem rdH_86 {sd : F_} {m : Int} : (rdH h s sd m).2 71 = some (cI 40 sd) := (hS_n (by decide)).trans (hS_s _ _ _)
set_option maxRecDepth 100000 in
set_option maxHeartbeats 4000000 in
theorem w_rdW {cs ls L ln : F_} {fr n at_ sz : Nat} {b : Int} {lg : Int} (h1 : h.2 57 = some (mO s)) (hA : h.2 63 = some (cI 240 L)) (hB : h.2 64 = some (cI 60 ln)) (hT : h.2 62 = some (.inl (1, 400, g))) (hsz : sz ≤ 60) (hss : s 14 = sz) (hR : lxR cs ls sz L ln 4) (hg : alls g fr n) (hf : fr + n ≤ 400) (hat : at_ ≤ n) (hd : 1 ≤ d)
    (kk : k_Wp x d 0 0 mX12_reads P 0 0 152 [some (vR 57), some (vI fr), some (vI n), some (vI b), some (vI at_), some (vI lg), none] [] h) : ∀ w : Nat, w ≤ 4 → lgst cs sz g (fr + at_) (min (n - at_) w) = lg →
    k_Wp x d 0 0 mX12_reads P 0 0 99 [some (vR 57), some (vI fr), some (vI n), some (vI b), some (vI at_), some (vI (-1)), some (vI w)] [] h := by
  intro w
  induction w with
  | zero =>
    intro hw he
    rw [Nat.min_zero] at he
    have he : lg = -1 := he.symm
    rw [he] at kk
    have e0 : ((0 : Nat) : Int) ≤ 0 := by omega
    refine p_go [152] 40 ?_
    simp only [st_0, st_1, st_2, st_3, st_4, st_5, st_6, st_7, st_8, st_9, st_10, st_11, st_12, st_13, st_14, st_15, st_16, st_17, st_18, st_19, st_20, st_21, st_22, st_23, st_24, st_25, st_26, st_27, st_28, st_29, st_30, st_31, st_32, st_33, st_34, st_34a, st_35, st_36, st_37, st_38, st_39, st_42, st_44, st_45, st_47, st_40, st_41, st_46, st_48, st_49, st_43, go_0, go_s, cut_0, cut_s, get_0, get_s, put_0, put_1, put_s, clr_0, clr_s, unl_i, unl_l, unl_r, unl_n, nth_0, nth_s, sf_0, sf_s, cnd_0, cnd_1, cnd_2, cnd_3, cnd_4, cnd_5, fit_0, fit_1, fit_2, en_0, en_i, en_l, en_r, kb_t, kb_f, kb_n, sw_0, sw_s, ↓reduceIte, Nat.reduceEqDiff, Nat.left_eq_add, Nat.add_eq_left, Nat.add_left_cancel_iff, Nat.reduceAdd, Int.reduceLT, Int.reduceLE, Int.reduceAdd, Int.reduceSub, Int.reduceNeg, Int.reduceMul, Int.reduceToNat, Int.reduceEq, reduceCtorEq, true_and, and_true, true_or, or_true, and_false, false_and, or_false, false_or, not_true_eq_false, not_false_eq_true, Nat.le_refl, and_self, Sum.inl.injEq, Sum.inr.injEq, Option.some.injEq, hS_2, k_isref, pd_0, pd_s, List.cons_append, List.nil_append, Option.toList_none, Option.toList_some, tX12_reads, rX12_reads, e0]
    exact p_sub (by (repeat (first | exact le_nil | refine le_s ?_ | refine le_n ?_))) kk
  | succ w ih =>
    intro hw he
    have e1 : ¬ ((w + 1 : Nat) : Int) ≤ 0 := by omega
    have e3 : ((w + 1 : Nat) : Int) + -1 = (w : Int) := by omega
    refine p_go [152, 99] 40 ?_
    by_cases hc : at_ + (w + 1) ≤ n
    · have e2 : ¬ (n : Int) < (at_ : Int) + ((w + 1 : Nat) : Int) := by omega
      simp only [st_0, st_1, st_2, st_3, st_4, st_5, st_6, st_7, st_8, st_9, st_10, st_11, st_12, st_13, st_14, st_15, st_16, st_17, st_18, st_19, st_20, st_21, st_22, st_23, st_24, st_25, st_26, st_27, st_28, st_29, st_30, st_31, st_32, st_33, st_34, st_34a, st_35, st_36, st_37, st_38, st_39, st_42, st_44, st_45, st_47, st_40, st_41, st_46, st_48, st_49, st_43, go_0, go_s, cut_0, cut_s, get_0, get_s, put_0, put_1, put_s, clr_0, clr_s, unl_i, unl_l, unl_r, unl_n, nth_0, nth_s, sf_0, sf_s, cnd_0, cnd_1, cnd_2, cnd_3, cnd_4, cnd_5, fit_0, fit_1, fit_2, en_0, en_i, en_l, en_r, kb_t, kb_f, kb_n, sw_0, sw_s, ↓reduceIte, Nat.reduceEqDiff, Nat.left_eq_add, Nat.add_eq_left, Nat.add_left_cancel_iff, Nat.reduceAdd, Int.reduceLT, Int.reduceLE, Int.reduceAdd, Int.reduceSub, Int.reduceNeg, Int.reduceMul, Int.reduceToNat, Int.reduceEq, reduceCtorEq, true_and, and_true, true_or, or_true, and_false, false_and, or_false, false_or, not_true_eq_false, not_false_eq_true, Nat.le_refl, and_self, Sum.inl.injEq, Sum.inr.injEq, Option.some.injEq, hS_2, k_isref, pd_0, pd_s, List.cons_append, List.nil_append, Option.toList_none, Option.toList_some, tX12_reads, rX12_reads, e1, e2, h1, hss]
      refine ⟨⟨by omega, by omega⟩, ⟨by omega, by omega⟩, ?_⟩
      have e4 : (fr : Int) + (at_ : Int) = ((fr + at_ : Nat) : Int) := by omega
      rw [e4]
      refine cS (d' := 0) [vR 63, vI ((4 : Nat) : Int), vR 64, vI sz, vR 62, vI ((fr + at_ : Nat) : Int), vI ((w + 1 : Nat) : Int)] [] l_12_162 (e_mfind hA hB hT hsz (by decide) (by decide) (by decide) (by omega) hR (fun i hi => by have := hg (at_ + i) (by omega); rw [← Nat.add_assoc] at this; exact this)) (by omega) (p_go [99] 40 ?_)
      simp only [st_0, st_1, st_2, st_3, st_4, st_5, st_6, st_7, st_8, st_9, st_10, st_11, st_12, st_13, st_14, st_15, st_16, st_17, st_18, st_19, st_20, st_21, st_22, st_23, st_24, st_25, st_26, st_27, st_28, st_29, st_30, st_31, st_32, st_33, st_34, st_34a, st_35, st_36, st_37, st_38, st_39, st_42, st_44, st_45, st_47, st_40, st_41, st_46, st_48, st_49, st_43, go_0, go_s, cut_0, cut_s, get_0, get_s, put_0, put_1, put_s, clr_0, clr_s, unl_i, unl_l, unl_r, unl_n, nth_0, nth_s, sf_0, sf_s, cnd_0, cnd_1, cnd_2, cnd_3, cnd_4, cnd_5, fit_0, fit_1, fit_2, en_0, en_i, en_l, en_r, kb_t, kb_f, kb_n, sw_0, sw_s, ↓reduceIte, Nat.reduceEqDiff, Nat.left_eq_add, Nat.add_eq_left, Nat.add_left_cancel_iff, Nat.reduceAdd, Int.reduceLT, Int.reduceLE, Int.reduceAdd, Int.reduceSub, Int.reduceNeg, Int.reduceMul, Int.reduceToNat, Int.reduceEq, reduceCtorEq, true_and, and_true, true_or, or_true, and_false, false_and, or_false, false_or, not_true_eq_false, not_false_eq_true, Nat.le_refl, and_self, Sum.inl.injEq, Sum.inr.injEq, Option.some.injEq, hS_2, k_isref, pd_0, pd_s, List.cons_append, List.nil_append, Option.toList_none, Option.toList_some, tX12_reads, rX12_reads, e3]
      refine ⟨⟨by omega, by omega⟩, ?_⟩
      rw [show min (n - at_) (w + 1) = w + 1 by omega] at he
      unfold lgst at he
      by_cases hfn : fnd cs (cd_ g (fr + at_) (w + 1)) 0 sz = -1
      · rw [hfn]
        rw [if_pos hfn] at he
        refine ih (by omega) ?_
        rw [show min (n - at_) w = w by omega]
        exact he
      · rw [if_neg hfn] at he
        rcases fnd_b cs (cd_ g (fr + at_) (w + 1)) sz 0 with q | ⟨k, f1, f2, f3, f4⟩
        · exact absurd q hfn
        rw [← he] at kk
        rw [f3] at kk ⊢
        have e5 : 0 ≤ ((k : Nat) : Int) := by omega
        refine p_go [152] 40 ?_
        simp only [st_0, st_1, st_2, st_3, st_4, st_5, st_6, st_7, st_8, st_9, st_10, st_11, st_12, st_13, st_14, st_15, st_16, st_17, st_18, st_19, st_20, st_21, st_22, st_23, st_24, st_25, st_26, st_27, st_28, st_29, st_30, st_31, st_32, st_33, st_34, st_34a, st_35, st_36, st_37, st_38, st_39, st_42, st_44, st_45, st_47, st_40, st_41, st_46, st_48, st_49, st_43, go_0, go_s, cut_0, cut_s, get_0, get_s, put_0, put_1, put_s, clr_0, clr_s, unl_i, unl_l, unl_r, unl_n, nth_0, nth_s, sf_0, sf_s, cnd_0, cnd_1, cnd_2, cnd_3, cnd_4, cnd_5, fit_0, fit_1, fit_2, en_0, en_i, en_l, en_r, kb_t, kb_f, kb_n, sw_0, sw_s, ↓reduceIte, Nat.reduceEqDiff, Nat.left_eq_add, Nat.add_eq_left, Nat.add_left_cancel_iff, Nat.reduceAdd, Int.reduceLT, Int.reduceLE, Int.reduceAdd, Int.reduceSub, Int.reduceNeg, Int.reduceMul, Int.reduceToNat, Int.reduceEq, reduceCtorEq, true_and, and_true, true_or, or_true, and_false, false_and, or_false, false_or, not_true_eq_false, not_false_eq_true, Nat.le_refl, and_self, Sum.inl.injEq, Sum.inr.injEq, Option.some.injEq, hS_2, k_isref, pd_0, pd_s, List.cons_append, List.nil_append, Option.toList_none, Option.toList_some, tX12_reads, rX12_reads, e5]
        exact k_brI (fun _ => p_sub (by (repeat (first | exact le_nil | refine le_s ?_ | refine le_n ?_))) kk) (fun _ => p_sub (by (repeat (first | exact le_nil | refine le_s ?_ | refine le_n ?_))) kk)
    · have e2 : (n : Int) < (at_ : Int) + ((w + 1 : Nat) : Int) := by omega
      simp only [st_0, st_1, st_2, st_3, st_4, st_5, st_6, st_7, st_8, st_9, st_10, st_11, st_12, st_13, st_14, st_15, st_16, st_17, st_18, st_19, st_20, st_21, st_22, st_23, st_24, st_25, st_26, st_27, st_28, st_29, st_30, st_31, st_32, st_33, st_34, st_34a, st_35, st_36, st_37, st_38, st_39, st_42, st_44, st_45, st_47, st_40, st_41, st_46, st_48, st_49, st_43, go_0, go_s, cut_0, cut_s, get_0, get_s, put_0, put_1, put_s, clr_0, clr_s, unl_i, unl_l, unl_r, unl_n, nth_0, nth_s, sf_0, sf_s, cnd_0, cnd_1, cnd_2, cnd_3, cnd_4, cnd_5, fit_0, fit_1, fit_2, en_0, en_i, en_l, en_r, kb_t, kb_f, kb_n, sw_0, sw_s, ↓reduceIte, Nat.reduceEqDiff, Nat.left_eq_add, Nat.add_eq_left, Nat.add_left_cancel_iff, Nat.reduceAdd, Int.reduceLT, Int.reduceLE, Int.reduceAdd, Int.reduceSub, Int.reduceNeg, Int.reduceMul, Int.reduceToNat, Int.reduceEq, reduceCtorEq, true_and, and_true, true_or, or_true, and_false, false_and, or_false, false_or, not_true_eq_false, not_false_eq_true, Nat.le_refl, and_self, Sum.inl.injEq, Sum.inr.injEq, Option.some.injEq, hS_2, k_isref, pd_0, pd_s, List.cons_append, List.nil_append, Option.toList_none, Option.toList_some, tX12_reads, rX12_reads, e1, e2, e3]
      refine ⟨⟨by omega, by omega⟩, ⟨by omega, by omega⟩, ih (by omega) ?_⟩
      rw [show min (n - at_) w = min (n - at_) (w + 1) by omega]
      exact he
set_option maxRecDepth 100000 in
set_option maxHeartbeats 4000000 in
theorem w_rdS {S mn : F_} {fr n at_ r c m : Nat} {b : Int} {sd : F_} (hS1 : h.2 65 = some (cI 180 S)) (hM : h.2 66 = some (cI 60 mn)) (hmr : mn r = c) (hr : r < 60) (hc : c ≤ 3) (hm : m + c ≤ 40)
    (kk : k_Wp x d 0 0 mX12_reads P 0 0 212 [some (vR 57), some (vI fr), some (vI n), some (vI b), some (vI at_), some (vI r), none] [] (rdH h s (va_cpy S sd (3 * r) m c) (m + c : Nat))) : ∀ (j i : Nat), i + j = c →
    k_Wp x d 0 0 mX12_reads P 0 0 163 [some (vR 57), some (vI fr), some (vI n), some (vI b), some (vI at_), some (vI r), some (vI i)] [] (rdH h s (va_cpy S sd (3 * r) m i) (m + i : Nat)) := by
  intro j
  induction j with
  | zero =>
    intro i hi
    have e1 : (c : Int) ≤ (i : Int) := by omega
    rw [show i = c by omega] at *
    have k1 := rdH_72 (h := h) (s := s) (sd := va_cpy S sd (3 * r) m c) (m := (m + c : Nat))
    have k3 := (rdH_n (h := h) (s := s) (sd := va_cpy S sd (3 * r) m c) (m := (m + c : Nat)) (z := 66) (by decide) (by decide)).trans hM
    generalize rdH h s (va_cpy S sd (3 * r) m c) (m + c : Nat) = h3 at k1 k3 kk ⊢
    refine p_go [212] 40 ?_
    simp only [st_0, st_1, st_2, st_3, st_4, st_5, st_6, st_7, st_8, st_9, st_10, st_11, st_12, st_13, st_14, st_15, st_16, st_17, st_18, st_19, st_20, st_21, st_22, st_23, st_24, st_25, st_26, st_27, st_28, st_29, st_30, st_31, st_32, st_33, st_34, st_34a, st_35, st_36, st_37, st_38, st_39, st_42, st_44, st_45, st_47, st_40, st_41, st_46, st_48, st_49, st_43, go_0, go_s, cut_0, cut_s, get_0, get_s, put_0, put_1, put_s, clr_0, clr_s, unl_i, unl_l, unl_r, unl_n, nth_0, nth_s, sf_0, sf_s, cnd_0, cnd_1, cnd_2, cnd_3, cnd_4, cnd_5, fit_0, fit_1, fit_2, en_0, en_i, en_l, en_r, kb_t, kb_f, kb_n, sw_0, sw_s, ↓reduceIte, Nat.reduceEqDiff, Nat.left_eq_add, Nat.add_eq_left, Nat.add_left_cancel_iff, Nat.reduceAdd, Int.reduceLT, Int.reduceLE, Int.reduceAdd, Int.reduceSub, Int.reduceNeg, Int.reduceMul, Int.reduceToNat, Int.reduceEq, reduceCtorEq, true_and, and_true, true_or, or_true, and_false, false_and, or_false, false_or, not_true_eq_false, not_false_eq_true, Nat.le_refl, and_self, Sum.inl.injEq, Sum.inr.injEq, Option.some.injEq, hS_2, k_isref, pd_0, pd_s, List.cons_append, List.nil_append, Option.toList_none, Option.toList_some, tX12_reads, rX12_reads, k1, k3, hmr, e1, Int.toNat_natCast]
    exact ⟨⟨by omega, by omega⟩, p_sub (by (repeat (first | exact le_nil | refine le_s ?_ | refine le_n ?_))) kk⟩
  | succ j ih =>
    intro i hi
    have e1 : ¬ (c : Int) ≤ (i : Int) := by omega
    have e2 : ((3 : Int) * r + i).toNat = 3 * r + i := by omega
    have k1 := rdH_72 (h := h) (s := s) (sd := va_cpy S sd (3 * r) m i) (m := (m + i : Nat))
    have k2 := rdH_86 (h := h) (s := s) (sd := va_cpy S sd (3 * r) m i) (m := (m + i : Nat))
    have k3 := (rdH_n (h := h) (s := s) (sd := va_cpy S sd (3 * r) m i) (m := (m + i : Nat)) (z := 66) (by decide) (by decide)).trans hM
    have k4 := (rdH_n (h := h) (s := s) (sd := va_cpy S sd (3 * r) m i) (m := (m + i : Nat)) (z := 65) (by decide) (by decide)).trans hS1
    have hih := ih (i + 1) (by omega)
    rw [← cpy_s, ← rdH_rdH (sd := va_cpy S sd (3 * r) m i) (m := (m + i : Nat))] at hih
    have e3 : mS s 21 (m + i : Nat) 21 = (m + i : Nat) := rfl
    have e4 : (((m + i : Nat) : Int) + 1) = ((m + (i + 1) : Nat) : Int) := by omega
    generalize rdH h s (va_cpy S sd (3 * r) m i) (m + i : Nat) = h3 at k1 k2 k3 k4 hih ⊢
    refine p_go [163] 40 ?_
    simp only [st_0, st_1, st_2, st_3, st_4, st_5, st_6, st_7, st_8, st_9, st_10, st_11, st_12, st_13, st_14, st_15, st_16, st_17, st_18, st_19, st_20, st_21, st_22, st_23, st_24, st_25, st_26, st_27, st_28, st_29, st_30, st_31, st_32, st_33, st_34, st_34a, st_35, st_36, st_37, st_38, st_39, st_42, st_44, st_45, st_47, st_40, st_41, st_46, st_48, st_49, st_43, go_0, go_s, cut_0, cut_s, get_0, get_s, put_0, put_1, put_s, clr_0, clr_s, unl_i, unl_l, unl_r, unl_n, nth_0, nth_s, sf_0, sf_s, cnd_0, cnd_1, cnd_2, cnd_3, cnd_4, cnd_5, fit_0, fit_1, fit_2, en_0, en_i, en_l, en_r, kb_t, kb_f, kb_n, sw_0, sw_s, ↓reduceIte, Nat.reduceEqDiff, Nat.left_eq_add, Nat.add_eq_left, Nat.add_left_cancel_iff, Nat.reduceAdd, Int.reduceLT, Int.reduceLE, Int.reduceAdd, Int.reduceSub, Int.reduceNeg, Int.reduceMul, Int.reduceToNat, Int.reduceEq, reduceCtorEq, true_and, and_true, true_or, or_true, and_false, false_and, or_false, false_or, not_true_eq_false, not_false_eq_true, Nat.le_refl, and_self, Sum.inl.injEq, Sum.inr.injEq, Option.some.injEq, hS_2, k_isref, pd_0, pd_s, List.cons_append, List.nil_append, Option.toList_none, Option.toList_some, tX12_reads, rX12_reads, k1, k2, k3, k4, hmr, e1, e2, e3, e4, nat1, Int.toNat_natCast]
    (repeat (first | exact hih | refine ⟨⟨by omega, by omega⟩, ?_⟩ | refine And.intro (by omega) ?_))
theorem lgst_k {cs ls L ln : F_} {sz b : Nat} (hR : lxR cs ls sz L ln 4) : ∀ (m : Nat), alls g b m → m ≤ 4 → ∀ k : Nat, lgst cs sz g b m = k → k < sz ∧ 1 ≤ ls k ∧ ls k ≤ m
  | 0, _, _, k, he => by
    have : ((k : Nat) : Int) = -1 := he.symm
    omega
  | m + 1, hg, hm, k, he => by
    unfold lgst at he
    split at he
    · obtain ⟨q1, q2, q3⟩ := lgst_k hR m (fun i hi => hg i (by omega)) (by omega) k he
      exact ⟨q1, q2, by omega⟩
    · rcases fnd_b cs (cd_ g b (m + 1)) sz 0 with q | ⟨k', f1, f2, f3, f4⟩
      · rename_i hne; exact absurd q hne
      · have : k' = k := by rw [he] at f3; omega
        subst this
        have h1 := (lxR_eq hR (show k' < sz by omega) hg).mp f4
        have h2 := hR k' (by omega)
        exact ⟨by omega, h2.2.1.1, by omega⟩
/-- what reading by rules comes to, so far -/
def rdI (at_ many : Nat) (sd lf sf : F_) : Prop := many ≤ 3 * at_ ∧ lf 0 = (min many 20 : Nat) ∧ ∀ i, i < min many 20 → sd i = sf i
/-- a reading of the reference's, and the class's -/
def rdQ (h : PH) (s : F_) (n : Nat) (T : Int × F_ × F_) : PO → PH → Prop := fun o h' => ∃ (p m : Int) (sd : F_), o = rI p ∧ h' = rdH h s sd m ∧ ((p = -1 ∧ (1 ≤ m ∧ m ≤ 20) ∧ T.1 = m ∧ T.2.1 0 = m ∧ ∀ i : Nat, (i : Int) < m → sd i = T.2.2 i) ∨ ((0 ≤ p ∧ p ≤ n) ∧ T.1 = -2 - p))
set_option maxRecDepth 100000 in
set_option maxHeartbeats 4000000 in
theorem w_rdG {cs ls L ln rl rs S mn : F_} {fr n sz : Nat} {b : Int} (hz : ∀ z, z ≠ 57 → z ≠ 71 → h.2 z = h.2 z) (hA : h.2 63 = some (cI 240 L)) (hB : h.2 64 = some (cI 60 ln)) (hS1 : h.2 65 = some (cI 180 S)) (hM : h.2 66 = some (cI 60 mn)) (hT : h.2 62 = some (.inl (1, 400, g))) (hsz : sz ≤ 60) (hss : s 14 = sz) (hR : lxR cs ls sz L ln 4) (hS2 : lxS rl rs sz 3 mn S) (hrl : RwW 3 60 rl) (hg : alls g fr n) (hf : fr + n ≤ 400) (hn : n ≤ 10) (hd : 1 ≤ d) : ∀ (j at_ many : Nat) (sd lf sf : F_), n - at_ < j → at_ ≤ n → rdI at_ many sd lf sf →
    k_Wp x d 0 0 mX12_reads (rdQ h s n (rdGo cs ls rl rs sz 3 g fr n j at_ many lf sf)) 0 0 87 [some (vR 57), some (vI fr), some (vI n), some (vI b), some (vI at_), none, none] [] (rdH h s sd many) := by
  intro j
  induction j with
  | zero => intro at_ many sd lf sf h1; omega
  | succ j ih =>
    intro at_ many sd lf sf hj hat hI
    unfold rdGo
    have k1 := rdH_72 (h := h) (s := s) (sd := sd) (m := many)
    have kz : ∀ z, z ≠ 71 → z ≠ 57 → (rdH h s sd many).2 z = h.2 z := fun z z1 z2 => rdH_n z1 z2
    have e21 : mS s 21 many 21 = many := rfl
    by_cases hc : n ≤ at_
    · rw [if_pos hc]
      have e1 : (n : Int) ≤ at_ := by omega
      generalize hh : rdH h s sd many = h3 at k1 ⊢
      refine p_go [] 40 ?_
      simp only [st_0, st_1, st_2, st_3, st_4, st_5, st_6, st_7, st_8, st_9, st_10, st_11, st_12, st_13, st_14, st_15, st_16, st_17, st_18, st_19, st_20, st_21, st_22, st_23, st_24, st_25, st_26, st_27, st_28, st_29, st_30, st_31, st_32, st_33, st_34, st_34a, st_35, st_36, st_37, st_38, st_39, st_42, st_44, st_45, st_47, st_40, st_41, st_46, st_48, st_49, st_43, go_0, go_s, cut_0, cut_s, get_0, get_s, put_0, put_1, put_s, clr_0, clr_s, unl_i, unl_l, unl_r, unl_n, nth_0, nth_s, sf_0, sf_s, cnd_0, cnd_1, cnd_2, cnd_3, cnd_4, cnd_5, fit_0, fit_1, fit_2, en_0, en_i, en_l, en_r, kb_t, kb_f, kb_n, sw_0, sw_s, ↓reduceIte, Nat.reduceEqDiff, Nat.left_eq_add, Nat.add_eq_left, Nat.add_left_cancel_iff, Nat.reduceAdd, Int.reduceLT, Int.reduceLE, Int.reduceAdd, Int.reduceSub, Int.reduceNeg, Int.reduceMul, Int.reduceToNat, Int.reduceEq, reduceCtorEq, true_and, and_true, true_or, or_true, and_false, false_and, or_false, false_or, not_true_eq_false, not_false_eq_true, Nat.le_refl, and_self, Sum.inl.injEq, Sum.inr.injEq, Option.some.injEq, hS_2, k_isref, pd_0, pd_s, List.cons_append, List.nil_append, Option.toList_none, Option.toList_some, tX12_reads, rX12_reads, e1, k1, e21]
      by_cases hm : many < 1 ∨ 20 < many
      · have hQ : rdQ h s n (if (many : Int) < 1 ∨ 20 < (many : Int) then -2 - (n : Int) else many, lf, sf) (rI n) h3 := by
          rw [if_pos (by omega)]
          exact ⟨n, many, sd, rfl, hh.symm, Or.inr ⟨by omega, rfl⟩⟩
        refine k_brI (fun c => hQ) (fun c => k_brI (fun c2 => by omega) (fun c2 => hQ))
      · have hQ : rdQ h s n (if (many : Int) < 1 ∨ 20 < (many : Int) then -2 - (n : Int) else many, lf, sf) (rI (-1)) h3 := by
          rw [if_neg (by omega)]
          refine ⟨-1, many, sd, rfl, hh.symm, Or.inl ⟨rfl, by omega, rfl, ?_, fun i hi => hI.2.2 i (by omega)⟩⟩
          show lf 0 = many
          rw [hI.2.1]
          congr 1
          omega
        refine k_brI (fun c => by omega) (fun c => k_brI (fun c2 => hQ) (fun c2 => by omega))
    · rw [if_neg hc]
      have e1 : ¬ (n : Int) ≤ at_ := by omega
      have ha : alls g (fr + at_) (min (n - at_) 4) := fun i hi => by have := hg (at_ + i) (by omega); rw [← Nat.add_assoc] at this; exact this
      refine p_go [99] 40 ?_
      simp only [st_0, st_1, st_2, st_3, st_4, st_5, st_6, st_7, st_8, st_9, st_10, st_11, st_12, st_13, st_14, st_15, st_16, st_17, st_18, st_19, st_20, st_21, st_22, st_23, st_24, st_25, st_26, st_27, st_28, st_29, st_30, st_31, st_32, st_33, st_34, st_34a, st_35, st_36, st_37, st_38, st_39, st_42, st_44, st_45, st_47, st_40, st_41, st_46, st_48, st_49, st_43, go_0, go_s, cut_0, cut_s, get_0, get_s, put_0, put_1, put_s, clr_0, clr_s, unl_i, unl_l, unl_r, unl_n, nth_0, nth_s, sf_0, sf_s, cnd_0, cnd_1, cnd_2, cnd_3, cnd_4, cnd_5, fit_0, fit_1, fit_2, en_0, en_i, en_l, en_r, kb_t, kb_f, kb_n, sw_0, sw_s, ↓reduceIte, Nat.reduceEqDiff, Nat.left_eq_add, Nat.add_eq_left, Nat.add_left_cancel_iff, Nat.reduceAdd, Int.reduceLT, Int.reduceLE, Int.reduceAdd, Int.reduceSub, Int.reduceNeg, Int.reduceMul, Int.reduceToNat, Int.reduceEq, reduceCtorEq, true_and, and_true, true_or, or_true, and_false, false_and, or_false, false_or, not_true_eq_false, not_false_eq_true, Nat.le_refl, and_self, Sum.inl.injEq, Sum.inr.injEq, Option.some.injEq, hS_2, k_isref, pd_0, pd_s, List.cons_append, List.nil_append, Option.toList_none, Option.toList_some, tX12_reads, rX12_reads, e1]
      refine w_rdW k1 ((kz _ (by decide) (by decide)).trans hA) ((kz _ (by decide) (by decide)).trans hB) ((kz _ (by decide) (by decide)).trans hT) hsz hss hR hg hf hat hd ?_ 4 (Nat.le_refl 4) rfl
      rcases lgst_b cs sz g (fr + at_) (min (n - at_) 4) with hl | ⟨k, hl1, hl2⟩
      · rw [hl, if_pos rfl]
        generalize hh : rdH h s sd many = h3 at k1 ⊢
        refine p_go [] 40 ?_
        simp only [st_0, st_1, st_2, st_3, st_4, st_5, st_6, st_7, st_8, st_9, st_10, st_11, st_12, st_13, st_14, st_15, st_16, st_17, st_18, st_19, st_20, st_21, st_22, st_23, st_24, st_25, st_26, st_27, st_28, st_29, st_30, st_31, st_32, st_33, st_34, st_34a, st_35, st_36, st_37, st_38, st_39, st_42, st_44, st_45, st_47, st_40, st_41, st_46, st_48, st_49, st_43, go_0, go_s, cut_0, cut_s, get_0, get_s, put_0, put_1, put_s, clr_0, clr_s, unl_i, unl_l, unl_r, unl_n, nth_0, nth_s, sf_0, sf_s, cnd_0, cnd_1, cnd_2, cnd_3, cnd_4, cnd_5, fit_0, fit_1, fit_2, en_0, en_i, en_l, en_r, kb_t, kb_f, kb_n, sw_0, sw_s, ↓reduceIte, Nat.reduceEqDiff, Nat.left_eq_add, Nat.add_eq_left, Nat.add_left_cancel_iff, Nat.reduceAdd, Int.reduceLT, Int.reduceLE, Int.reduceAdd, Int.reduceSub, Int.reduceNeg, Int.reduceMul, Int.reduceToNat, Int.reduceEq, reduceCtorEq, true_and, and_true, true_or, or_true, and_false, false_and, or_false, false_or, not_true_eq_false, not_false_eq_true, Nat.le_refl, and_self, Sum.inl.injEq, Sum.inr.injEq, Option.some.injEq, hS_2, k_isref, pd_0, pd_s, List.cons_append, List.nil_append, Option.toList_none, Option.toList_some, tX12_reads, rX12_reads]
        exact ⟨at_, many, sd, rfl, hh.symm, Or.inr ⟨by omega, rfl⟩⟩
      · obtain ⟨q1, q2, q3⟩ := lgst_k hR _ ha (by omega) k hl2
        rw [hl2, if_neg (by omega), Int.toNat_natCast]
        have b1 := hrl.1 k (by omega)
        obtain ⟨c, ec⟩ : ∃ c : Nat, rl k = (c : Int) := ⟨(rl k).toNat, by omega⟩
        obtain ⟨m1, m2⟩ := hS2 k hl1
        have i1 := hI.1
        have hl4 := (hR k hl1).1
        refine p_go [163] 40 ?_
        have e5 : 0 ≤ ((k : Nat) : Int) := by omega
        have e6 : ¬ ((k : Nat) : Int) < 0 := by omega
        simp only [st_0, st_1, st_2, st_3, st_4, st_5, st_6, st_7, st_8, st_9, st_10, st_11, st_12, st_13, st_14, st_15, st_16, st_17, st_18, st_19, st_20, st_21, st_22, st_23, st_24, st_25, st_26, st_27, st_28, st_29, st_30, st_31, st_32, st_33, st_34, st_34a, st_35, st_36, st_37, st_38, st_39, st_42, st_44, st_45, st_47, st_40, st_41, st_46, st_48, st_49, st_43, go_0, go_s, cut_0, cut_s, get_0, get_s, put_0, put_1, put_s, clr_0, clr_s, unl_i, unl_l, unl_r, unl_n, nth_0, nth_s, sf_0, sf_s, cnd_0, cnd_1, cnd_2, cnd_3, cnd_4, cnd_5, fit_0, fit_1, fit_2, en_0, en_i, en_l, en_r, kb_t, kb_f, kb_n, sw_0, sw_s, ↓reduceIte, Nat.reduceEqDiff, Nat.left_eq_add, Nat.add_eq_left, Nat.add_left_cancel_iff, Nat.reduceAdd, Int.reduceLT, Int.reduceLE, Int.reduceAdd, Int.reduceSub, Int.reduceNeg, Int.reduceMul, Int.reduceToNat, Int.reduceEq, reduceCtorEq, true_and, and_true, true_or, or_true, and_false, false_and, or_false, false_or, not_true_eq_false, not_false_eq_true, Nat.le_refl, and_self, Sum.inl.injEq, Sum.inr.injEq, Option.some.injEq, hS_2, k_isref, pd_0, pd_s, List.cons_append, List.nil_append, Option.toList_none, Option.toList_some, tX12_reads, rX12_reads, e5, e6]
        have hw := w_rdS (x := x) (d := d) (P := rdQ h s n (rdGo cs ls rl rs sz 3 g fr n j (at_ + (ls k).toNat) (many + rl k) (fS lf 0 (lf 0 + jn 20 (lf 0) (rl k))) (va_cpy rs sf (k * 3) (lf 0).toNat (jn 20 (lf 0) (rl k)).toNat))) (s := s) (b := b) (at_ := at_) (fr := fr) (n := n) (r := k) (c := c) (m := many) (sd := sd) hS1 hM (by omega) (by omega) (by omega) (by omega) ?_ c 0 (by omega)
        · rw [cpy_0] at hw
          exact hw
        · have y1 := rdH_72 (h := h) (s := s) (sd := va_cpy S sd (3 * k) many c) (m := (many + c : Nat))
          have y2 := (rdH_n (h := h) (s := s) (sd := va_cpy S sd (3 * k) many c) (m := (many + c : Nat)) (z := 64) (by decide) (by decide)).trans hB
          have e8 : (at_ : Int) + ln k = ((at_ + (ls k).toNat : Nat) : Int) := by omega
          have hih := ih (at_ + (ls k).toNat) (many + c) (va_cpy S sd (3 * k) many c) (fS lf 0 (lf 0 + jn 20 (lf 0) (rl k))) (va_cpy rs sf (k * 3) (lf 0).toNat (jn 20 (lf 0) (rl k)).toNat) (by omega) (by omega) ?_
          · rw [show ((many : Int) + rl k) = ((many + c : Nat) : Int) by omega]
            generalize rdH h s (va_cpy S sd (3 * k) many c) (many + c : Nat) = h3 at y1 y2 hih ⊢
            refine p_go [87] 40 ?_
            simp only [st_0, st_1, st_2, st_3, st_4, st_5, st_6, st_7, st_8, st_9, st_10, st_11, st_12, st_13, st_14, st_15, st_16, st_17, st_18, st_19, st_20, st_21, st_22, st_23, st_24, st_25, st_26, st_27, st_28, st_29, st_30, st_31, st_32, st_33, st_34, st_34a, st_35, st_36, st_37, st_38, st_39, st_42, st_44, st_45, st_47, st_40, st_41, st_46, st_48, st_49, st_43, go_0, go_s, cut_0, cut_s, get_0, get_s, put_0, put_1, put_s, clr_0, clr_s, unl_i, unl_l, unl_r, unl_n, nth_0, nth_s, sf_0, sf_s, cnd_0, cnd_1, cnd_2, cnd_3, cnd_4, cnd_5, fit_0, fit_1, fit_2, en_0, en_i, en_l, en_r, kb_t, kb_f, kb_n, sw_0, sw_s, ↓reduceIte, Nat.reduceEqDiff, Nat.left_eq_add, Nat.add_eq_left, Nat.add_left_cancel_iff, Nat.reduceAdd, Int.reduceLT, Int.reduceLE, Int.reduceAdd, Int.reduceSub, Int.reduceNeg, Int.reduceMul, Int.reduceToNat, Int.reduceEq, reduceCtorEq, true_and, and_true, true_or, or_true, and_false, false_and, or_false, false_or, not_true_eq_false, not_false_eq_true, Nat.le_refl, and_self, Sum.inl.injEq, Sum.inr.injEq, Option.some.injEq, hS_2, k_isref, pd_0, pd_s, List.cons_append, List.nil_append, Option.toList_none, Option.toList_some, tX12_reads, rX12_reads, y1, y2, e8, Int.toNat_natCast]
            refine ⟨⟨by omega, by omega⟩, ⟨by omega, by omega⟩, p_sub (by (repeat (first | exact le_nil | refine le_s ?_ | refine le_n ?_))) hih⟩
          · obtain ⟨i1, i2, i3⟩ := hI
            have hj' : jn 20 (lf 0) (rl k) = (min (many + c) 20 - min many 20 : Nat) := by
              unfold jn
              rw [i2, ec]
              split <;> omega
            refine ⟨by omega, ?_, fun i hi => ?_⟩
            · rw [fS_s, hj', i2]
              omega
            · rw [hj', i2, Int.toNat_natCast, Int.toNat_natCast]
              unfold va_cpy
              by_cases c1 : i < min many 20
              · rw [if_neg (by omega), if_neg (by omega)]
                exact i3 i c1
              · rw [if_pos (by omega), if_pos (by omega)]
                have := m2 (i - many) (by omega)
                rw [show 3 * k + (i - many) = 3 * k + (i - many) from rfl] at this
                rw [show k * 3 + (i - min many 20) = k * 3 + (i - many) by omega]
                exact this
set_option maxRecDepth 100000 in
set_option maxHeartbeats 4000000 in
theorem w_rdB {es : F_} {fr n k c : Nat} {sd BS BM : F_} (h1 : h.2 57 = some (mO s)) (hBS : h.2 69 = some (cI 800 BS)) (hBM : h.2 70 = some (cI 40 BM)) (hk : k < 40) (hc : BM k = c) (hc2 : c ≤ 20)
    (kk : P (rI (-1)) (rdH h s (va_cpy BS sd (20 * k) 0 c) c)) : ∀ (j i : Nat), i + j = c →
    k_Wp x d 0 0 mX12_reads P 0 0 36 [some (vR 57), some (vI fr), some (vI n), some (vI k), some (vI i), none, none] [] (hS h 71 (cI 40 (va_cpy BS sd (20 * k) 0 i))) := by
  intro j
  induction j with
  | zero =>
    intro i hi
    have e1 : (c : Int) ≤ (i : Int) := by omega
    rw [show i = c by omega] at *
    unfold rdH at kk
    have k1 := (hS_n (h := h) (a := 71) (c := cI 40 (va_cpy BS sd (20 * k) 0 c)) (show 57 ≠ 71 by decide)).trans h1
    have k2 := (hS_n (h := h) (a := 71) (c := cI 40 (va_cpy BS sd (20 * k) 0 c)) (show 70 ≠ 71 by decide)).trans hBM
    generalize hS h 71 (cI 40 (va_cpy BS sd (20 * k) 0 c)) = h3 at k1 k2 kk ⊢
    refine p_go [] 40 ?_
    simp only [st_0, st_1, st_2, st_3, st_4, st_5, st_6, st_7, st_8, st_9, st_10, st_11, st_12, st_13, st_14, st_15, st_16, st_17, st_18, st_19, st_20, st_21, st_22, st_23, st_24, st_25, st_26, st_27, st_28, st_29, st_30, st_31, st_32, st_33, st_34, st_34a, st_35, st_36, st_37, st_38, st_39, st_42, st_44, st_45, st_47, st_40, st_41, st_46, st_48, st_49, st_43, go_0, go_s, cut_0, cut_s, get_0, get_s, put_0, put_1, put_s, clr_0, clr_s, unl_i, unl_l, unl_r, unl_n, nth_0, nth_s, sf_0, sf_s, cnd_0, cnd_1, cnd_2, cnd_3, cnd_4, cnd_5, fit_0, fit_1, fit_2, en_0, en_i, en_l, en_r, kb_t, kb_f, kb_n, sw_0, sw_s, ↓reduceIte, Nat.reduceEqDiff, Nat.left_eq_add, Nat.add_eq_left, Nat.add_left_cancel_iff, Nat.reduceAdd, Int.reduceLT, Int.reduceLE, Int.reduceAdd, Int.reduceSub, Int.reduceNeg, Int.reduceMul, Int.reduceToNat, Int.reduceEq, reduceCtorEq, true_and, and_true, true_or, or_true, and_false, false_and, or_false, false_or, not_true_eq_false, not_false_eq_true, Nat.le_refl, and_self, Sum.inl.injEq, Sum.inr.injEq, Option.some.injEq, hS_2, k_isref, pd_0, pd_s, List.cons_append, List.nil_append, Option.toList_none, Option.toList_some, tX12_reads, rX12_reads, k1, k2, hc, e1, Int.toNat_natCast]
    (repeat (first | exact kk | refine ⟨⟨by omega, by omega⟩, ?_⟩ | refine And.intro (by omega) ?_))
  | succ j ih =>
    intro i hi
    have e1 : ¬ (c : Int) ≤ (i : Int) := by omega
    have e2 : ((20 : Int) * k + i).toNat = 20 * k + i := by omega
    have hih := ih (i + 1) (by omega)
    rw [← cpy_s, Nat.zero_add] at hih
    refine p_go [36] 40 ?_
    simp only [st_0, st_1, st_2, st_3, st_4, st_5, st_6, st_7, st_8, st_9, st_10, st_11, st_12, st_13, st_14, st_15, st_16, st_17, st_18, st_19, st_20, st_21, st_22, st_23, st_24, st_25, st_26, st_27, st_28, st_29, st_30, st_31, st_32, st_33, st_34, st_34a, st_35, st_36, st_37, st_38, st_39, st_42, st_44, st_45, st_47, st_40, st_41, st_46, st_48, st_49, st_43, go_0, go_s, cut_0, cut_s, get_0, get_s, put_0, put_1, put_s, clr_0, clr_s, unl_i, unl_l, unl_r, unl_n, nth_0, nth_s, sf_0, sf_s, cnd_0, cnd_1, cnd_2, cnd_3, cnd_4, cnd_5, fit_0, fit_1, fit_2, en_0, en_i, en_l, en_r, kb_t, kb_f, kb_n, sw_0, sw_s, ↓reduceIte, Nat.reduceEqDiff, Nat.left_eq_add, Nat.add_eq_left, Nat.add_left_cancel_iff, Nat.reduceAdd, Int.reduceLT, Int.reduceLE, Int.reduceAdd, Int.reduceSub, Int.reduceNeg, Int.reduceMul, Int.reduceToNat, Int.reduceEq, reduceCtorEq, true_and, and_true, true_or, or_true, and_false, false_and, or_false, false_or, not_true_eq_false, not_false_eq_true, Nat.le_refl, and_self, Sum.inl.injEq, Sum.inr.injEq, Option.some.injEq, hS_2, k_isref, pd_0, pd_s, List.cons_append, List.nil_append, Option.toList_none, Option.toList_some, tX12_reads, rX12_reads, h1, hBS, hBM, hc, e1, e2, nat1, hS_hS, Int.toNat_natCast]
    (repeat (first | exact hih | refine ⟨⟨by omega, by omega⟩, ?_⟩ | refine And.intro (by omega) ?_))
set_option maxRecDepth 100000 in
set_option maxHeartbeats 4000000 in
theorem e_reads {cs ls L ln rl rs S mn ecs els EL eln el es BS BM : F_} {fr n sz esz : Nat} {lf sf sd0 : F_} (h1 : h.2 57 = some (mO s)) (h86 : h.2 71 = some (cI 40 sd0)) (hA : h.2 63 = some (cI 240 L)) (hB : h.2 64 = some (cI 60 ln)) (hS1 : h.2 65 = some (cI 180 S)) (hM : h.2 66 = some (cI 60 mn)) (hT : h.2 62 = some (.inl (1, 400, g))) (hEA : h.2 67 = some (cI 400 EL)) (hEB : h.2 68 = some (cI 40 eln)) (hBS : h.2 69 = some (cI 800 BS)) (hBM : h.2 70 = some (cI 40 BM))
    (hsz : sz ≤ 60) (hss : s 14 = sz) (hR : lxR cs ls sz L ln 4) (hS2 : lxS rl rs sz 3 mn S) (hrl : RwW 3 60 rl) (hesz : esz ≤ 40) (hess : s 19 = esz) (hER : lxR ecs els esz EL eln 10) (hES : lxS el es esz 20 BM BS) (hel : RwW 20 40 el) (hel1 : ∀ k, k < esz → 1 ≤ el k) (hg : alls g fr n) (hf : fr + n ≤ 400) (hn : n ≤ 10) (hd : 1 ≤ d) :
    k_Ev x d 0 0 mX12_reads [vR 57, vI fr, vI n] h (rdQ h s n (rdT cs ls rl rs sz 3 ecs el es esz g fr n lf sf)) := by
  unfold rdT
  have k1 : (hS h 57 (mO (mS s 21 0))).2 57 = some (mO (mS s 21 0)) := hS_s _ _ _
  have kz : ∀ z, z ≠ 57 → (hS h 57 (mO (mS s 21 0))).2 z = h.2 z := fun z hz => hS_n hz
  refine k_enp 4 (Nat.le_of_ble_eq_true rfl) (p_go [] 40 ?_)
  simp only [st_0, st_1, st_2, st_3, st_4, st_5, st_6, st_7, st_8, st_9, st_10, st_11, st_12, st_13, st_14, st_15, st_16, st_17, st_18, st_19, st_20, st_21, st_22, st_23, st_24, st_25, st_26, st_27, st_28, st_29, st_30, st_31, st_32, st_33, st_34, st_34a, st_35, st_36, st_37, st_38, st_39, st_42, st_44, st_45, st_47, st_40, st_41, st_46, st_48, st_49, st_43, go_0, go_s, cut_0, cut_s, get_0, get_s, put_0, put_1, put_s, clr_0, clr_s, unl_i, unl_l, unl_r, unl_n, nth_0, nth_s, sf_0, sf_s, cnd_0, cnd_1, cnd_2, cnd_3, cnd_4, cnd_5, fit_0, fit_1, fit_2, en_0, en_i, en_l, en_r, kb_t, kb_f, kb_n, sw_0, sw_s, ↓reduceIte, Nat.reduceEqDiff, Nat.left_eq_add, Nat.add_eq_left, Nat.add_left_cancel_iff, Nat.reduceAdd, Int.reduceLT, Int.reduceLE, Int.reduceAdd, Int.reduceSub, Int.reduceNeg, Int.reduceMul, Int.reduceToNat, Int.reduceEq, reduceCtorEq, true_and, and_true, true_or, or_true, and_false, false_and, or_false, false_or, not_true_eq_false, not_false_eq_true, Nat.le_refl, and_self, Sum.inl.injEq, Sum.inr.injEq, Option.some.injEq, hS_2, k_isref, pd_0, pd_s, List.cons_append, List.nil_append, Option.toList_none, Option.toList_some, tX12_reads, rX12_reads, h1]
  have hev := e_mfind (x := x) (d := 0) (fr := fr) (n := n) ((kz 67 (by decide)).trans hEA) ((kz 68 (by decide)).trans hEB) ((kz 62 (by decide)).trans hT) hesz (by decide) (by decide) (by decide) (by omega) hER hg
  rw [← hess] at hev
  refine cS (d' := 0) [vR 67, vI ((10 : Nat) : Int), vR 68, vI (s 19), vR 62, vI fr, vI n] [] l_12_162 hev (by omega) (p_go [36, 87] 40 ?_)
  rcases fnd_b ecs (cd_ g fr n) esz 0 with hf1 | ⟨k, f1, f2, f3, f4⟩
  · rw [hf1, if_pos rfl]
    simp only [st_0, st_1, st_2, st_3, st_4, st_5, st_6, st_7, st_8, st_9, st_10, st_11, st_12, st_13, st_14, st_15, st_16, st_17, st_18, st_19, st_20, st_21, st_22, st_23, st_24, st_25, st_26, st_27, st_28, st_29, st_30, st_31, st_32, st_33, st_34, st_34a, st_35, st_36, st_37, st_38, st_39, st_42, st_44, st_45, st_47, st_40, st_41, st_46, st_48, st_49, st_43, go_0, go_s, cut_0, cut_s, get_0, get_s, put_0, put_1, put_s, clr_0, clr_s, unl_i, unl_l, unl_r, unl_n, nth_0, nth_s, sf_0, sf_s, cnd_0, cnd_1, cnd_2, cnd_3, cnd_4, cnd_5, fit_0, fit_1, fit_2, en_0, en_i, en_l, en_r, kb_t, kb_f, kb_n, sw_0, sw_s, ↓reduceIte, Nat.reduceEqDiff, Nat.left_eq_add, Nat.add_eq_left, Nat.add_left_cancel_iff, Nat.reduceAdd, Int.reduceLT, Int.reduceLE, Int.reduceAdd, Int.reduceSub, Int.reduceNeg, Int.reduceMul, Int.reduceToNat, Int.reduceEq, reduceCtorEq, true_and, and_true, true_or, or_true, and_false, false_and, or_false, false_or, not_true_eq_false, not_false_eq_true, Nat.le_refl, and_self, Sum.inl.injEq, Sum.inr.injEq, Option.some.injEq, hS_2, k_isref, pd_0, pd_s, List.cons_append, List.nil_append, Option.toList_none, Option.toList_some, tX12_reads, rX12_reads]
    have hh : hS h 57 (mO (mS s 21 0)) = rdH h s sd0 ((0 : Nat) : Int) := by
      unfold rdH
      rw [hS_id h86]
      rfl
    have hw := w_rdG (x := x) (d := d) (s := s) (b := -1) (fun z _ _ => rfl) hA hB hS1 hM hT hsz hss hR hS2 hrl hg hf hn hd (n + 1) 0 0 sd0 (fS lf 0 0) sf (by omega) (by omega) ⟨by omega, by rw [fS_s]; rfl, fun i hi => by omega⟩
    rw [← hh] at hw
    exact hw
  · rw [f3, if_neg (by omega), Int.toNat_natCast]
    have e5 : 0 ≤ ((k : Nat) : Int) := by omega
    have e6 : ¬ ((k : Nat) : Int) < 0 := by omega
    simp only [st_0, st_1, st_2, st_3, st_4, st_5, st_6, st_7, st_8, st_9, st_10, st_11, st_12, st_13, st_14, st_15, st_16, st_17, st_18, st_19, st_20, st_21, st_22, st_23, st_24, st_25, st_26, st_27, st_28, st_29, st_30, st_31, st_32, st_33, st_34, st_34a, st_35, st_36, st_37, st_38, st_39, st_42, st_44, st_45, st_47, st_40, st_41, st_46, st_48, st_49, st_43, go_0, go_s, cut_0, cut_s, get_0, get_s, put_0, put_1, put_s, clr_0, clr_s, unl_i, unl_l, unl_r, unl_n, nth_0, nth_s, sf_0, sf_s, cnd_0, cnd_1, cnd_2, cnd_3, cnd_4, cnd_5, fit_0, fit_1, fit_2, en_0, en_i, en_l, en_r, kb_t, kb_f, kb_n, sw_0, sw_s, ↓reduceIte, Nat.reduceEqDiff, Nat.left_eq_add, Nat.add_eq_left, Nat.add_left_cancel_iff, Nat.reduceAdd, Int.reduceLT, Int.reduceLE, Int.reduceAdd, Int.reduceSub, Int.reduceNeg, Int.reduceMul, Int.reduceToNat, Int.reduceEq, reduceCtorEq, true_and, and_true, true_or, or_true, and_false, false_and, or_false, false_or, not_true_eq_false, not_false_eq_true, Nat.le_refl, and_self, Sum.inl.injEq, Sum.inr.injEq, Option.some.injEq, hS_2, k_isref, pd_0, pd_s, List.cons_append, List.nil_append, Option.toList_none, Option.toList_some, tX12_reads, rX12_reads, e5, e6]
    have b1 := hel.1 k (by omega)
    have b2 := hel1 k (by omega)
    obtain ⟨m1, m2⟩ := hES k (by omega)
    obtain ⟨c, ec⟩ : ∃ c : Nat, el k = (c : Int) := ⟨(el k).toNat, by omega⟩
    have ej : jn 20 0 (el k) = c := by unfold jn; split <;> omega
    rw [ej, Int.toNat_natCast]
    have hw := w_rdB (x := x) (d := d) (P := rdQ h s n ((c : Int), fS lf 0 c, va_cpy es sf (k * 20) 0 c)) (es := es) (fr := fr) (n := n) (k := k) (c := c) (sd := sd0) k1 ((kz 69 (by decide)).trans hBS) ((kz 70 (by decide)).trans hBM) (by omega) (by omega) (by omega) ?_ c 0 (by omega)
    · rw [cpy_0, hS_id ((kz 71 (by decide)).trans h86)] at hw
      exact hw
    · refine ⟨-1, c, va_cpy BS sd0 (20 * k) 0 c, rfl, ?_, Or.inl ⟨rfl, by omega, rfl, (show fS lf 0 (c : Int) 0 = (c : Int) from fS_s), fun i hi => ?_⟩⟩
      · unfold rdH
        rw [hS_c (a := 57) (b := 71) (by decide), hS_hS, mS_mS]
      · show va_cpy BS sd0 (20 * k) 0 c i = va_cpy es sf (k * 20) 0 c i
        unfold va_cpy
        rw [if_pos (by omega), if_pos (by omega), Nat.sub_zero]
        exact m2 i (by omega)
end Mread66
