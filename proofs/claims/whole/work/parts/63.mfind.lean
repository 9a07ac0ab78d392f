/-! the reference: isSpelling, find; no two spellings have one code -/
theorem alls_s {f : F_} {a c : Nat} (h : alls f a (c + 1)) : alls f a c ∧ lt_ (f (a + c)) := ⟨fun i hi => h i (by omega), h c (by omega)⟩
theorem cd_inj {f g : F_} {a b : Nat} : ∀ (n m : Nat), alls f a n → alls g b m → cd_ f a n = cd_ g b m → n = m ∧ ∀ i, i < n → f (a + i) = g (b + i)
  | 0, 0, _, _, _ => ⟨rfl, fun i hi => by omega⟩
  | 0, m + 1, _, h2, e => by
    have h3 := (cd_b m (alls_s h2).1).1
    have h4 := (alls_s h2).2
    simp only [cd_] at e
    omega
  | n + 1, 0, h1, _, e => by
    have h3 := (cd_b n (alls_s h1).1).1
    have h4 := (alls_s h1).2
    simp only [cd_] at e
    omega
  | n + 1, m + 1, h1, h2, e => by
    have h3 := (alls_s h1).2
    have h4 := (alls_s h2).2
    simp only [cd_] at e
    have e1 : cd_ f a n = cd_ g b m := by omega
    have e2 : f (a + n) = g (b + m) := by omega
    obtain ⟨q1, q2⟩ := cd_inj n m (alls_s h1).1 (alls_s h2).1 e1
    refine ⟨by omega, fun i hi => ?_⟩
    by_cases c : i = n
    · subst c; rw [e2, q1]
    · exact q2 i (by omega)
theorem cd_ext {f g : F_} {a b : Nat} : ∀ (n : Nat), (∀ i, i < n → f (a + i) = g (b + i)) → cd_ f a n = cd_ g b n
  | 0, _ => rfl
  | n + 1, h => by
    simp only [cd_]
    rw [cd_ext n (fun i hi => h i (by omega)), h n (by omega)]
/-- a lexicon, and the reference's letters and lengths of it -/
def lxR (cs ls : F_) (sz : Nat) (L ln : F_) (wide : Nat) : Prop := ∀ k, k < sz → ln k = ls k ∧ (1 ≤ ls k ∧ ls k ≤ wide) ∧ alls L (wide * k) (ls k).toNat ∧ cs k = cd_ L (wide * k) (ls k).toNat
theorem lxR_eq {cs ls : F_} {sz : Nat} {L ln g : F_} {wide k b n : Nat} (hR : lxR cs ls sz L ln wide) (hk : k < sz) (hg : alls g b n) : cs k = cd_ g b n ↔ ln k = n ∧ ∀ i, i < n → L (wide * k + i) = g (b + i) := by
  obtain ⟨r1, r2, r3, r4⟩ := hR k hk
  constructor
  · intro e
    rw [r4] at e
    obtain ⟨q1, q2⟩ := cd_inj _ _ r3 hg e
    exact ⟨by omega, fun i hi => q2 i (by omega)⟩
  · intro ⟨q1, q2⟩
    have e1 : (ls k).toNat = n := by omega
    rw [r4, e1]
    exact cd_ext n q2
section Mfind63
variable {x : Bool} {d : Nat} {h : PH} {s : F_} {P : PO → PH → Prop} {A B wide most nA : Nat} {L ln g : F_} {many fr n : Nat}
set_option maxRecDepth 100000 in
set_option maxHeartbeats 4000000 in
theorem w_fdI (hA : h.2 A = some (cI nA L)) (hT : h.2 62 = some (.inl (1, 400, g))) {k : Nat} (hk : wide * k + n ≤ nA) (hnA : nA < 100000) (hf : fr + n ≤ 400)
    (kT : (∀ i, i < n → L (wide * k + i) = g (fr + i)) → k_Wp x d 0 0 mX12_find P 0 0 73 [some (vR A), some (vI wide), some (vR B), some (vI many), some (vR 62), some (vI fr), some (vI n), some (vI k), some (vI 1), none] [] h)
    (kF : ¬ (∀ i, i < n → L (wide * k + i) = g (fr + i)) → k_Wp x d 0 0 mX12_find P 0 0 73 [some (vR A), some (vI wide), some (vR B), some (vI many), some (vR 62), some (vI fr), some (vI n), some (vI k), some (vI 0), none] [] h) :
    ∀ (j i : Nat), i + j = n → (∀ u, u < i → L (wide * k + u) = g (fr + u)) →
    k_Wp x d 0 0 mX12_find P 0 0 28 [some (vR A), some (vI wide), some (vR B), some (vI many), some (vR 62), some (vI fr), some (vI n), some (vI k), some (vI 1), some (vI i)] [] h := by
  have m1 : (wide : Int) * k = ((wide * k : Nat) : Int) := by simp
  intro j
  induction j with
  | zero =>
    intro i hi hu
    have e1 : (n : Int) ≤ i := by omega
    refine p_go [73] 40 ?_
    simp only [st_0, st_1, st_2, st_3, st_4, st_5, st_6, st_7, st_8, st_9, st_10, st_11, st_12, st_13, st_14, st_15, st_16, st_17, st_18, st_19, st_20, st_21, st_22, st_23, st_24, st_25, st_26, st_27, st_28, st_29, st_30, st_31, st_32, st_33, st_34, st_34a, st_35, st_36, st_37, st_38, st_39, st_42, st_44, st_45, st_47, st_40, st_41, st_46, st_48, st_49, st_43, go_0, go_s, cut_0, cut_s, get_0, get_s, put_0, put_1, put_s, clr_0, clr_s, unl_i, unl_l, unl_r, unl_n, nth_0, nth_s, sf_0, sf_s, cnd_0, cnd_1, cnd_2, cnd_3, cnd_4, cnd_5, fit_0, fit_1, fit_2, en_0, en_i, en_l, en_r, kb_t, kb_f, kb_n, sw_0, sw_s, ↓reduceIte, Nat.reduceEqDiff, Nat.left_eq_add, Nat.add_eq_left, Nat.add_left_cancel_iff, Nat.reduceAdd, Int.reduceLT, Int.reduceLE, Int.reduceAdd, Int.reduceSub, Int.reduceNeg, Int.reduceMul, Int.reduceToNat, Int.reduceEq, reduceCtorEq, true_and, and_true, true_or, or_true, and_false, false_and, or_false, false_or, not_true_eq_false, not_false_eq_true, Nat.le_refl, and_self, Sum.inl.injEq, Sum.inr.injEq, Option.some.injEq, hS_2, k_isref, pd_0, pd_s, List.cons_append, List.nil_append, Option.toList_none, Option.toList_some, tX12_find, rX12_find, e1]
    exact p_sub (by (repeat (first | exact le_nil | refine le_s ?_ | refine le_n ?_))) (kT (fun u hu' => hu u (by omega)))
  | succ j ih =>
    intro i hi hu
    have e1 : ¬ (n : Int) ≤ i := by omega
    have e2 : (((wide * k : Nat) : Int) + i).toNat = wide * k + i := by omega
    have e3 : ((fr : Int) + i).toNat = fr + i := by omega
    refine p_go [28] 40 ?_
    simp only [st_0, st_1, st_2, st_3, st_4, st_5, st_6, st_7, st_8, st_9, st_10, st_11, st_12, st_13, st_14, st_15, st_16, st_17, st_18, st_19, st_20, st_21, st_22, st_23, st_24, st_25, st_26, st_27, st_28, st_29, st_30, st_31, st_32, st_33, st_34, st_34a, st_35, st_36, st_37, st_38, st_39, st_42, st_44, st_45, st_47, st_40, st_41, st_46, st_48, st_49, st_43, go_0, go_s, cut_0, cut_s, get_0, get_s, put_0, put_1, put_s, clr_0, clr_s, unl_i, unl_l, unl_r, unl_n, nth_0, nth_s, sf_0, sf_s, cnd_0, cnd_1, cnd_2, cnd_3, cnd_4, cnd_5, fit_0, fit_1, fit_2, en_0, en_i, en_l, en_r, kb_t, kb_f, kb_n, sw_0, sw_s, ↓reduceIte, Nat.reduceEqDiff, Nat.left_eq_add, Nat.add_eq_left, Nat.add_left_cancel_iff, Nat.reduceAdd, Int.reduceLT, Int.reduceLE, Int.reduceAdd, Int.reduceSub, Int.reduceNeg, Int.reduceMul, Int.reduceToNat, Int.reduceEq, reduceCtorEq, true_and, and_true, true_or, or_true, and_false, false_and, or_false, false_or, not_true_eq_false, not_false_eq_true, Nat.le_refl, and_self, Sum.inl.injEq, Sum.inr.injEq, Option.some.injEq, hS_2, k_isref, pd_0, pd_s, List.cons_append, List.nil_append, Option.toList_none, Option.toList_some, tX12_find, rX12_find, e1, hA, hT, m1, e2, e3, nat1]
    have hz : k_Wp x d 0 0 mX12_find P 0 0 28 [some (vR A), some (vI wide), some (vR B), some (vI many), some (vR 62), some (vI fr), some (vI n), some (vI k), some (vI 0), some (vI ((i + 1 : Nat) : Int))] [] h → True := fun _ => trivial
    refine ⟨⟨by omega, by omega⟩, ⟨by omega, by omega⟩, ⟨by omega, by omega⟩, ⟨by omega, by omega⟩, ⟨by omega, by omega⟩, ?_⟩
    refine k_brI (fun c => ⟨⟨by omega, by omega⟩, ?_⟩) (fun c => ⟨⟨by omega, by omega⟩, ?_⟩)
    · refine ih (i + 1) (by omega) (fun u hu' => ?_)
      by_cases cu : u = i
      · subst cu; exact c
      · exact hu u (by omega)
    · have hF := kF (fun w => c (w i (by omega)))
      refine p_go [73] 40 ?_
      simp only [st_0, st_1, st_2, st_3, st_4, st_5, st_6, st_7, st_8, st_9, st_10, st_11, st_12, st_13, st_14, st_15, st_16, st_17, st_18, st_19, st_20, st_21, st_22, st_23, st_24, st_25, st_26, st_27, st_28, st_29, st_30, st_31, st_32, st_33, st_34, st_34a, st_35, st_36, st_37, st_38, st_39, st_42, st_44, st_45, st_47, st_40, st_41, st_46, st_48, st_49, st_43, go_0, go_s, cut_0, cut_s, get_0, get_s, put_0, put_1, put_s, clr_0, clr_s, unl_i, unl_l, unl_r, unl_n, nth_0, nth_s, sf_0, sf_s, cnd_0, cnd_1, cnd_2, cnd_3, cnd_4, cnd_5, fit_0, fit_1, fit_2, en_0, en_i, en_l, en_r, kb_t, kb_f, kb_n, sw_0, sw_s, ↓reduceIte, Nat.reduceEqDiff, Nat.left_eq_add, Nat.add_eq_left, Nat.add_left_cancel_iff, Nat.reduceAdd, Int.reduceLT, Int.reduceLE, Int.reduceAdd, Int.reduceSub, Int.reduceNeg, Int.reduceMul, Int.reduceToNat, Int.reduceEq, reduceCtorEq, true_and, and_true, true_or, or_true, and_false, false_and, or_false, false_or, not_true_eq_false, not_false_eq_true, Nat.le_refl, and_self, Sum.inl.injEq, Sum.inr.injEq, Option.some.injEq, hS_2, k_isref, pd_0, pd_s, List.cons_append, List.nil_append, Option.toList_none, Option.toList_some, tX12_find, rX12_find]
      refine k_brI (fun c2 => p_sub (by (repeat (first | exact le_nil | refine le_s ?_ | refine le_n ?_))) hF) (fun c2 => p_sub (by (repeat (first | exact le_nil | refine le_s ?_ | refine le_n ?_))) hF)
set_option maxRecDepth 100000 in
set_option maxHeartbeats 4000000 in
theorem w_fdK {cs ls : F_} (hA : h.2 A = some (cI nA L)) (hB : h.2 B = some (cI most ln)) (hT : h.2 62 = some (.inl (1, 400, g))) (hmm : many ≤ most) (hm : most < 1000) (hwd : wide * most ≤ nA) (hnA : nA < 100000) (hf : fr + n ≤ 400) (hR : lxR cs ls many L ln wide) (hg : alls g fr n) (hnw : n ≤ 400) :
    ∀ (j k : Nat), k + j = many → P (rI (fnd cs (cd_ g fr n) k j)) h →
    k_Wp x d 0 0 mX12_find P 0 0 3 [some (vR A), some (vI wide), some (vR B), some (vI many), some (vR 62), some (vI fr), some (vI n), some (vI k), none, none] [] h := by
  intro j
  induction j with
  | zero =>
    intro k hk hP
    have e1 : (many : Int) ≤ k := by omega
    refine p_go [] 40 ?_
    simp only [st_0, st_1, st_2, st_3, st_4, st_5, st_6, st_7, st_8, st_9, st_10, st_11, st_12, st_13, st_14, st_15, st_16, st_17, st_18, st_19, st_20, st_21, st_22, st_23, st_24, st_25, st_26, st_27, st_28, st_29, st_30, st_31, st_32, st_33, st_34, st_34a, st_35, st_36, st_37, st_38, st_39, st_42, st_44, st_45, st_47, st_40, st_41, st_46, st_48, st_49, st_43, go_0, go_s, cut_0, cut_s, get_0, get_s, put_0, put_1, put_s, clr_0, clr_s, unl_i, unl_l, unl_r, unl_n, nth_0, nth_s, sf_0, sf_s, cnd_0, cnd_1, cnd_2, cnd_3, cnd_4, cnd_5, fit_0, fit_1, fit_2, en_0, en_i, en_l, en_r, kb_t, kb_f, kb_n, sw_0, sw_s, ↓reduceIte, Nat.reduceEqDiff, Nat.left_eq_add, Nat.add_eq_left, Nat.add_left_cancel_iff, Nat.reduceAdd, Int.reduceLT, Int.reduceLE, Int.reduceAdd, Int.reduceSub, Int.reduceNeg, Int.reduceMul, Int.reduceToNat, Int.reduceEq, reduceCtorEq, true_and, and_true, true_or, or_true, and_false, false_and, or_false, false_or, not_true_eq_false, not_false_eq_true, Nat.le_refl, and_self, Sum.inl.injEq, Sum.inr.injEq, Option.some.injEq, hS_2, k_isref, pd_0, pd_s, List.cons_append, List.nil_append, Option.toList_none, Option.toList_some, tX12_find, rX12_find, e1]
    exact hP
  | succ j ih =>
    intro k hk hP
    have e1 : ¬ (many : Int) ≤ k := by omega
    have hr := lxR_eq hR (show k < many by omega) hg
    obtain ⟨r1, r2, r3, r4⟩ := hR k (by omega)
    have h3 := Nat.mul_le_mul_left wide (show k + 1 ≤ most by omega)
    have h4 : wide * (k + 1) = wide * k + wide := Nat.mul_succ wide k
    have hih := ih (k + 1) (by omega)
    unfold fnd at hP
    have kF : ¬ (cs k = cd_ g fr n) → k_Wp x d 0 0 mX12_find P 0 0 73 [some (vR A), some (vI wide), some (vR B), some (vI many), some (vR 62), some (vI fr), some (vI n), some (vI k), some (vI 0), none] [] h := by
      intro hc
      rw [if_neg hc] at hP
      refine p_go [3] 40 ?_
      simp only [st_0, st_1, st_2, st_3, st_4, st_5, st_6, st_7, st_8, st_9, st_10, st_11, st_12, st_13, st_14, st_15, st_16, st_17, st_18, st_19, st_20, st_21, st_22, st_23, st_24, st_25, st_26, st_27, st_28, st_29, st_30, st_31, st_32, st_33, st_34, st_34a, st_35, st_36, st_37, st_38, st_39, st_42, st_44, st_45, st_47, st_40, st_41, st_46, st_48, st_49, st_43, go_0, go_s, cut_0, cut_s, get_0, get_s, put_0, put_1, put_s, clr_0, clr_s, unl_i, unl_l, unl_r, unl_n, nth_0, nth_s, sf_0, sf_s, cnd_0, cnd_1, cnd_2, cnd_3, cnd_4, cnd_5, fit_0, fit_1, fit_2, en_0, en_i, en_l, en_r, kb_t, kb_f, kb_n, sw_0, sw_s, ↓reduceIte, Nat.reduceEqDiff, Nat.left_eq_add, Nat.add_eq_left, Nat.add_left_cancel_iff, Nat.reduceAdd, Int.reduceLT, Int.reduceLE, Int.reduceAdd, Int.reduceSub, Int.reduceNeg, Int.reduceMul, Int.reduceToNat, Int.reduceEq, reduceCtorEq, true_and, and_true, true_or, or_true, and_false, false_and, or_false, false_or, not_true_eq_false, not_false_eq_true, Nat.le_refl, and_self, Sum.inl.injEq, Sum.inr.injEq, Option.some.injEq, hS_2, k_isref, pd_0, pd_s, List.cons_append, List.nil_append, Option.toList_none, Option.toList_some, tX12_find, rX12_find, nat1]
      exact ⟨⟨by omega, by omega⟩, p_sub (by (repeat (first | exact le_nil | refine le_s ?_ | refine le_n ?_))) (hih hP)⟩
    have kT : cs k = cd_ g fr n → k_Wp x d 0 0 mX12_find P 0 0 73 [some (vR A), some (vI wide), some (vR B), some (vI many), some (vR 62), some (vI fr), some (vI n), some (vI k), some (vI 1), none] [] h := by
      intro hc
      rw [if_pos hc] at hP
      refine p_go [] 40 ?_
      simp only [st_0, st_1, st_2, st_3, st_4, st_5, st_6, st_7, st_8, st_9, st_10, st_11, st_12, st_13, st_14, st_15, st_16, st_17, st_18, st_19, st_20, st_21, st_22, st_23, st_24, st_25, st_26, st_27, st_28, st_29, st_30, st_31, st_32, st_33, st_34, st_34a, st_35, st_36, st_37, st_38, st_39, st_42, st_44, st_45, st_47, st_40, st_41, st_46, st_48, st_49, st_43, go_0, go_s, cut_0, cut_s, get_0, get_s, put_0, put_1, put_s, clr_0, clr_s, unl_i, unl_l, unl_r, unl_n, nth_0, nth_s, sf_0, sf_s, cnd_0, cnd_1, cnd_2, cnd_3, cnd_4, cnd_5, fit_0, fit_1, fit_2, en_0, en_i, en_l, en_r, kb_t, kb_f, kb_n, sw_0, sw_s, ↓reduceIte, Nat.reduceEqDiff, Nat.left_eq_add, Nat.add_eq_left, Nat.add_left_cancel_iff, Nat.reduceAdd, Int.reduceLT, Int.reduceLE, Int.reduceAdd, Int.reduceSub, Int.reduceNeg, Int.reduceMul, Int.reduceToNat, Int.reduceEq, reduceCtorEq, true_and, and_true, true_or, or_true, and_false, false_and, or_false, false_or, not_true_eq_false, not_false_eq_true, Nat.le_refl, and_self, Sum.inl.injEq, Sum.inr.injEq, Option.some.injEq, hS_2, k_isref, pd_0, pd_s, List.cons_append, List.nil_append, Option.toList_none, Option.toList_some, tX12_find, rX12_find]
      exact hP
    refine p_go [28] 40 ?_
    simp only [st_0, st_1, st_2, st_3, st_4, st_5, st_6, st_7, st_8, st_9, st_10, st_11, st_12, st_13, st_14, st_15, st_16, st_17, st_18, st_19, st_20, st_21, st_22, st_23, st_24, st_25, st_26, st_27, st_28, st_29, st_30, st_31, st_32, st_33, st_34, st_34a, st_35, st_36, st_37, st_38, st_39, st_42, st_44, st_45, st_47, st_40, st_41, st_46, st_48, st_49, st_43, go_0, go_s, cut_0, cut_s, get_0, get_s, put_0, put_1, put_s, clr_0, clr_s, unl_i, unl_l, unl_r, unl_n, nth_0, nth_s, sf_0, sf_s, cnd_0, cnd_1, cnd_2, cnd_3, cnd_4, cnd_5, fit_0, fit_1, fit_2, en_0, en_i, en_l, en_r, kb_t, kb_f, kb_n, sw_0, sw_s, ↓reduceIte, Nat.reduceEqDiff, Nat.left_eq_add, Nat.add_eq_left, Nat.add_left_cancel_iff, Nat.reduceAdd, Int.reduceLT, Int.reduceLE, Int.reduceAdd, Int.reduceSub, Int.reduceNeg, Int.reduceMul, Int.reduceToNat, Int.reduceEq, reduceCtorEq, true_and, and_true, true_or, or_true, and_false, false_and, or_false, false_or, not_true_eq_false, not_false_eq_true, Nat.le_refl, and_self, Sum.inl.injEq, Sum.inr.injEq, Option.some.injEq, hS_2, k_isref, pd_0, pd_s, List.cons_append, List.nil_append, Option.toList_none, Option.toList_some, tX12_find, rX12_find, e1, hB, Int.toNat_natCast]
    refine ⟨⟨by omega, by omega⟩, k_brI (fun c => ?_) (fun c => ?_)⟩
    · exact w_fdI hA hT (by omega) hnA hf (fun w => kT (hr.mpr ⟨c, w⟩)) (fun w => kF (fun q => w (hr.mp q).2)) n 0 (by omega) (fun u hu => by omega)
    · have hF := kF (fun q => c (hr.mp q).1)
      refine p_go [73] 40 ?_
      simp only [st_0, st_1, st_2, st_3, st_4, st_5, st_6, st_7, st_8, st_9, st_10, st_11, st_12, st_13, st_14, st_15, st_16, st_17, st_18, st_19, st_20, st_21, st_22, st_23, st_24, st_25, st_26, st_27, st_28, st_29, st_30, st_31, st_32, st_33, st_34, st_34a, st_35, st_36, st_37, st_38, st_39, st_42, st_44, st_45, st_47, st_40, st_41, st_46, st_48, st_49, st_43, go_0, go_s, cut_0, cut_s, get_0, get_s, put_0, put_1, put_s, clr_0, clr_s, unl_i, unl_l, unl_r, unl_n, nth_0, nth_s, sf_0, sf_s, cnd_0, cnd_1, cnd_2, cnd_3, cnd_4, cnd_5, fit_0, fit_1, fit_2, en_0, en_i, en_l, en_r, kb_t, kb_f, kb_n, sw_0, sw_s, ↓reduceIte, Nat.reduceEqDiff, Nat.left_eq_add, Nat.add_eq_left, Nat.add_left_cancel_iff, Nat.reduceAdd, Int.reduceLT, Int.reduceLE, Int.reduceAdd, Int.reduceSub, Int.reduceNeg, Int.reduceMul, Int.reduceToNat, Int.reduceEq, reduceCtorEq, true_and, and_true, true_or, or_true, and_false, false_and, or_false, false_or, not_true_eq_false, not_false_eq_true, Nat.le_refl, and_self, Sum.inl.injEq, Sum.inr.injEq, Option.some.injEq, hS_2, k_isref, pd_0, pd_s, List.cons_append, List.nil_append, Option.toList_none, Option.toList_some, tX12_find, rX12_find]
      refine k_brI (fun c2 => p_sub (by (repeat (first | exact le_nil | refine le_s ?_ | refine le_n ?_))) hF) (fun c2 => p_sub (by (repeat (first | exact le_nil | refine le_s ?_ | refine le_n ?_))) hF)
set_option maxRecDepth 100000 in
set_option maxHeartbeats 4000000 in
theorem e_mfind {cs ls : F_} (hA : h.2 A = some (cI nA L)) (hB : h.2 B = some (cI most ln)) (hT : h.2 62 = some (.inl (1, 400, g))) (hmm : many ≤ most) (hm : most < 1000) (hwd : wide * most ≤ nA) (hnA : nA < 100000) (hf : fr + n ≤ 400) (hR : lxR cs ls many L ln wide) (hg : alls g fr n) :
    k_Ev x d 0 0 mX12_find [vR A, vI wide, vR B, vI many, vR 62, vI fr, vI n] h (fun o h' => o = rI (fnd cs (cd_ g fr n) 0 many) ∧ h' = h) := by
  refine k_enp 3 (Nat.le_of_ble_eq_true rfl) (p_go [3] 40 ?_)
  simp only [st_0, st_1, st_2, st_3, st_4, st_5, st_6, st_7, st_8, st_9, st_10, st_11, st_12, st_13, st_14, st_15, st_16, st_17, st_18, st_19, st_20, st_21, st_22, st_23, st_24, st_25, st_26, st_27, st_28, st_29, st_30, st_31, st_32, st_33, st_34, st_34a, st_35, st_36, st_37, st_38, st_39, st_42, st_44, st_45, st_47, st_40, st_41, st_46, st_48, st_49, st_43, go_0, go_s, cut_0, cut_s, get_0, get_s, put_0, put_1, put_s, clr_0, clr_s, unl_i, unl_l, unl_r, unl_n, nth_0, nth_s, sf_0, sf_s, cnd_0, cnd_1, cnd_2, cnd_3, cnd_4, cnd_5, fit_0, fit_1, fit_2, en_0, en_i, en_l, en_r, kb_t, kb_f, kb_n, sw_0, sw_s, ↓reduceIte, Nat.reduceEqDiff, Nat.left_eq_add, Nat.add_eq_left, Nat.add_left_cancel_iff, Nat.reduceAdd, Int.reduceLT, Int.reduceLE, Int.reduceAdd, Int.reduceSub, Int.reduceNeg, Int.reduceMul, Int.reduceToNat, Int.reduceEq, reduceCtorEq, true_and, and_true, true_or, or_true, and_false, false_and, or_false, false_or, not_true_eq_false, not_false_eq_true, Nat.le_refl, and_self, Sum.inl.injEq, Sum.inr.injEq, Option.some.injEq, hS_2, k_isref, pd_0, pd_s, List.cons_append, List.nil_append, Option.toList_none, Option.toList_some, tX12_find, rX12_find]
  exact w_fdK hA hB hT hmm hm hwd hnA hf hR hg (by omega) many 0 (by omega) ⟨rfl, rfl⟩
end Mfind63
