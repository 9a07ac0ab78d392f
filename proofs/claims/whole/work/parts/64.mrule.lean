/-! the reference: isSpelling, rule, book -/
theorem cpy_0 {f g : F_} {a b : Nat} : va_cpy f g a b 0 = g := by
  funext j
  unfold va_cpy
  rw [if_neg (by omega)]
theorem cpy_s {f g : F_} {a b n : Nat} : fS (va_cpy f g a b n) (b + n) (f (a + n)) = va_cpy f g a b (n + 1) := by
  funext j
  by_cases e : j = b + n
  · subst e
    rw [fS_s]
    unfold va_cpy
    rw [if_pos (by omega)]
    congr 1
    omega
  · rw [fS_n e]
    unfold va_cpy
    by_cases c : b ≤ j ∧ j < b + n
    · rw [if_pos (by omega), if_pos (by omega)]
    · rw [if_neg (by omega), if_neg (by omega)]
section Mrule64
variable {x : Bool} {d : Nat} {h : PH} {s : F_} {P : PO → PH → Prop} {g : F_}
theorem lt_b {z : Int} (hz : -128 ≤ z ∧ z ≤ 127) : lt_ (z % 256) ↔ lt_ z := by constructor <;> intro q <;> omega
set_option maxRecDepth 100000 in
set_option maxHeartbeats 4000000 in
theorem w_mspell {n : Nat} {mo_ : Int} (h1 : h.2 57 = some (mO s)) (h2 : h.2 62 = some (.inl (1, 400, g))) (hs : s 9 = n) (hn : n ≤ 400) (hg : ∀ k, k < 400 → -128 ≤ g k ∧ g k ≤ 127) (hd : 1 ≤ d) (c1 : alls g 0 n → P (rI 1) h) (c2 : ¬ alls g 0 n → P (rI 0) h) : ∀ (j i : Nat), i + j = n → alls g 0 i →
    k_Wp x d 0 0 mX12_isSpelling P 0 0 24 [some (vR 57), some (vI mo_), some (vI 1), some (vI i)] [] h := by
  intro j
  induction j with
  | zero =>
    intro i hi ha
    have e1 : s 9 ≤ (i : Int) := by omega
    refine p_go [] 40 ?_
    simp only [st_0, st_1, st_2, st_3, st_4, st_5, st_6, st_7, st_8, st_9, st_10, st_11, st_12, st_13, st_14, st_15, st_16, st_17, st_18, st_19, st_20, st_21, st_22, st_23, st_24, st_25, st_26, st_27, st_28, st_29, st_30, st_31, st_32, st_33, st_34, st_34a, st_35, st_36, st_37, st_38, st_39, st_42, st_44, st_45, st_47, st_40, st_41, st_46, st_48, st_49, st_43, go_0, go_s, cut_0, cut_s, get_0, get_s, put_0, put_1, put_s, clr_0, clr_s, unl_i, unl_l, unl_r, unl_n, nth_0, nth_s, sf_0, sf_s, cnd_0, cnd_1, cnd_2, cnd_3, cnd_4, cnd_5, fit_0, fit_1, fit_2, en_0, en_i, en_l, en_r, kb_t, kb_f, kb_n, sw_0, sw_s, ↓reduceIte, Nat.reduceEqDiff, Nat.left_eq_add, Nat.add_eq_left, Nat.add_left_cancel_iff, Nat.reduceAdd, Int.reduceLT, Int.reduceLE, Int.reduceAdd, Int.reduceSub, Int.reduceNeg, Int.reduceMul, Int.reduceToNat, Int.reduceEq, reduceCtorEq, true_and, and_true, true_or, or_true, and_false, false_and, or_false, false_or, not_true_eq_false, not_false_eq_true, Nat.le_refl, and_self, Sum.inl.injEq, Sum.inr.injEq, Option.some.injEq, hS_2, k_isref, pd_0, pd_s, List.cons_append, List.nil_append, Option.toList_none, Option.toList_some, tX12_isSpelling, rX12_isSpelling, h1, e1]
    exact c1 (by rw [show n = i by omega]; exact ha)
  | succ j ih =>
    intro i hi ha
    have e1 : ¬ s 9 ≤ (i : Int) := by omega
    refine p_go [] 40 ?_
    simp only [st_0, st_1, st_2, st_3, st_4, st_5, st_6, st_7, st_8, st_9, st_10, st_11, st_12, st_13, st_14, st_15, st_16, st_17, st_18, st_19, st_20, st_21, st_22, st_23, st_24, st_25, st_26, st_27, st_28, st_29, st_30, st_31, st_32, st_33, st_34, st_34a, st_35, st_36, st_37, st_38, st_39, st_42, st_44, st_45, st_47, st_40, st_41, st_46, st_48, st_49, st_43, go_0, go_s, cut_0, cut_s, get_0, get_s, put_0, put_1, put_s, clr_0, clr_s, unl_i, unl_l, unl_r, unl_n, nth_0, nth_s, sf_0, sf_s, cnd_0, cnd_1, cnd_2, cnd_3, cnd_4, cnd_5, fit_0, fit_1, fit_2, en_0, en_i, en_l, en_r, kb_t, kb_f, kb_n, sw_0, sw_s, ↓reduceIte, Nat.reduceEqDiff, Nat.left_eq_add, Nat.add_eq_left, Nat.add_left_cancel_iff, Nat.reduceAdd, Int.reduceLT, Int.reduceLE, Int.reduceAdd, Int.reduceSub, Int.reduceNeg, Int.reduceMul, Int.reduceToNat, Int.reduceEq, reduceCtorEq, true_and, and_true, true_or, or_true, and_false, false_and, or_false, false_or, not_true_eq_false, not_false_eq_true, Nat.le_refl, and_self, Sum.inl.injEq, Sum.inr.injEq, Option.some.injEq, hS_2, k_isref, pd_0, pd_s, List.cons_append, List.nil_append, Option.toList_none, Option.toList_some, tX12_isSpelling, rX12_isSpelling, h1, e1]
    refine cV (d' := 0) [vI i] [] l_12_146 h1 (e_byteAt h1 h2 (by omega)) (by omega) (p_go [] 40 ?_)
    rw [if_pos (show (i : Int) < s 9 by omega)]
    simp only [st_0, st_1, st_2, st_3, st_4, st_5, st_6, st_7, st_8, st_9, st_10, st_11, st_12, st_13, st_14, st_15, st_16, st_17, st_18, st_19, st_20, st_21, st_22, st_23, st_24, st_25, st_26, st_27, st_28, st_29, st_30, st_31, st_32, st_33, st_34, st_34a, st_35, st_36, st_37, st_38, st_39, st_42, st_44, st_45, st_47, st_40, st_41, st_46, st_48, st_49, st_43, go_0, go_s, cut_0, cut_s, get_0, get_s, put_0, put_1, put_s, clr_0, clr_s, unl_i, unl_l, unl_r, unl_n, nth_0, nth_s, sf_0, sf_s, cnd_0, cnd_1, cnd_2, cnd_3, cnd_4, cnd_5, fit_0, fit_1, fit_2, en_0, en_i, en_l, en_r, kb_t, kb_f, kb_n, sw_0, sw_s, ↓reduceIte, Nat.reduceEqDiff, Nat.left_eq_add, Nat.add_eq_left, Nat.add_left_cancel_iff, Nat.reduceAdd, Int.reduceLT, Int.reduceLE, Int.reduceAdd, Int.reduceSub, Int.reduceNeg, Int.reduceMul, Int.reduceToNat, Int.reduceEq, reduceCtorEq, true_and, and_true, true_or, or_true, and_false, false_and, or_false, false_or, not_true_eq_false, not_false_eq_true, Nat.le_refl, and_self, Sum.inl.injEq, Sum.inr.injEq, Option.some.injEq, hS_2, k_isref, pd_0, pd_s, List.cons_append, List.nil_append, Option.toList_none, Option.toList_some, tX12_isSpelling, rX12_isSpelling]
    refine cS (d' := 0) [vI (g i % 256)] [] l_12_150 (e_mletter _) (by omega) (p_go [24] 40 ?_)
    by_cases hl : lt_ (g i)
    · rw [if_pos ((lt_b (hg i (by omega))).mpr hl)]
      simp only [st_0, st_1, st_2, st_3, st_4, st_5, st_6, st_7, st_8, st_9, st_10, st_11, st_12, st_13, st_14, st_15, st_16, st_17, st_18, st_19, st_20, st_21, st_22, st_23, st_24, st_25, st_26, st_27, st_28, st_29, st_30, st_31, st_32, st_33, st_34, st_34a, st_35, st_36, st_37, st_38, st_39, st_42, st_44, st_45, st_47, st_40, st_41, st_46, st_48, st_49, st_43, go_0, go_s, cut_0, cut_s, get_0, get_s, put_0, put_1, put_s, clr_0, clr_s, unl_i, unl_l, unl_r, unl_n, nth_0, nth_s, sf_0, sf_s, cnd_0, cnd_1, cnd_2, cnd_3, cnd_4, cnd_5, fit_0, fit_1, fit_2, en_0, en_i, en_l, en_r, kb_t, kb_f, kb_n, sw_0, sw_s, ↓reduceIte, Nat.reduceEqDiff, Nat.left_eq_add, Nat.add_eq_left, Nat.add_left_cancel_iff, Nat.reduceAdd, Int.reduceLT, Int.reduceLE, Int.reduceAdd, Int.reduceSub, Int.reduceNeg, Int.reduceMul, Int.reduceToNat, Int.reduceEq, reduceCtorEq, true_and, and_true, true_or, or_true, and_false, false_and, or_false, false_or, not_true_eq_false, not_false_eq_true, Nat.le_refl, and_self, Sum.inl.injEq, Sum.inr.injEq, Option.some.injEq, hS_2, k_isref, pd_0, pd_s, List.cons_append, List.nil_append, Option.toList_none, Option.toList_some, tX12_isSpelling, rX12_isSpelling, nat1]
      refine ⟨⟨by omega, by omega⟩, ih (i + 1) (by omega) (fun u hu => ?_)⟩
      by_cases cu : u = i
      · subst cu; rw [Nat.zero_add]; exact hl
      · exact ha u (by omega)
    · rw [if_neg (fun q => hl ((lt_b (hg i (by omega))).mp q))]
      simp only [st_0, st_1, st_2, st_3, st_4, st_5, st_6, st_7, st_8, st_9, st_10, st_11, st_12, st_13, st_14, st_15, st_16, st_17, st_18, st_19, st_20, st_21, st_22, st_23, st_24, st_25, st_26, st_27, st_28, st_29, st_30, st_31, st_32, st_33, st_34, st_34a, st_35, st_36, st_37, st_38, st_39, st_42, st_44, st_45, st_47, st_40, st_41, st_46, st_48, st_49, st_43, go_0, go_s, cut_0, cut_s, get_0, get_s, put_0, put_1, put_s, clr_0, clr_s, unl_i, unl_l, unl_r, unl_n, nth_0, nth_s, sf_0, sf_s, cnd_0, cnd_1, cnd_2, cnd_3, cnd_4, cnd_5, fit_0, fit_1, fit_2, en_0, en_i, en_l, en_r, kb_t, kb_f, kb_n, sw_0, sw_s, ↓reduceIte, Nat.reduceEqDiff, Nat.left_eq_add, Nat.add_eq_left, Nat.add_left_cancel_iff, Nat.reduceAdd, Int.reduceLT, Int.reduceLE, Int.reduceAdd, Int.reduceSub, Int.reduceNeg, Int.reduceMul, Int.reduceToNat, Int.reduceEq, reduceCtorEq, true_and, and_true, true_or, or_true, and_false, false_and, or_false, false_or, not_true_eq_false, not_false_eq_true, Nat.le_refl, and_self, Sum.inl.injEq, Sum.inr.injEq, Option.some.injEq, hS_2, k_isref, pd_0, pd_s, List.cons_append, List.nil_append, Option.toList_none, Option.toList_some, tX12_isSpelling, rX12_isSpelling, nat1]
      refine ⟨⟨by omega, by omega⟩, ?_⟩
      have hP := c2 (fun q => hl (by have := q i (by omega); rw [Nat.zero_add] at this; exact this))
      refine p_go [] 40 ?_
      simp only [st_0, st_1, st_2, st_3, st_4, st_5, st_6, st_7, st_8, st_9, st_10, st_11, st_12, st_13, st_14, st_15, st_16, st_17, st_18, st_19, st_20, st_21, st_22, st_23, st_24, st_25, st_26, st_27, st_28, st_29, st_30, st_31, st_32, st_33, st_34, st_34a, st_35, st_36, st_37, st_38, st_39, st_42, st_44, st_45, st_47, st_40, st_41, st_46, st_48, st_49, st_43, go_0, go_s, cut_0, cut_s, get_0, get_s, put_0, put_1, put_s, clr_0, clr_s, unl_i, unl_l, unl_r, unl_n, nth_0, nth_s, sf_0, sf_s, cnd_0, cnd_1, cnd_2, cnd_3, cnd_4, cnd_5, fit_0, fit_1, fit_2, en_0, en_i, en_l, en_r, kb_t, kb_f, kb_n, sw_0, sw_s, ↓reduceIte, Nat.reduceEqDiff, Nat.left_eq_add, Nat.add_eq_left, Nat.add_left_cancel_iff, Nat.reduceAdd, Int.reduceLT, Int.reduceLE, Int.reduceAdd, Int.reduceSub, Int.reduceNeg, Int.reduceMul, Int.reduceToNat, Int.reduceEq, reduceCtorEq, true_and, and_true, true_or, or_true, and_false, false_and, or_false, false_or, not_true_eq_false, not_false_eq_true, Nat.le_refl, and_self, Sum.inl.injEq, Sum.inr.injEq, Option.some.injEq, hS_2, k_isref, pd_0, pd_s, List.cons_append, List.nil_append, Option.toList_none, Option.toList_some, tX12_isSpelling, rX12_isSpelling, h1]
      exact k_brI (fun _ => hP) (fun _ => hP)
/-- a spelling of so many letters at most lies on the tape -/
def mSp (g : F_) (n : Int) (most : Nat) : Prop := 1 ≤ n ∧ n ≤ most ∧ alls g 0 n.toNat
set_option maxRecDepth 100000 in
set_option maxHeartbeats 4000000 in
theorem e_mspell {most : Nat} (h1 : h.2 57 = some (mO s)) (h2 : h.2 62 = some (.inl (1, 400, g))) (hs : 0 ≤ s 9 ∧ s 9 ≤ 400) (hg : ∀ k, k < 400 → -128 ≤ g k ∧ g k ≤ 127) (hd : 1 ≤ d) : k_Ev x d 0 0 mX12_isSpelling [vR 57, vI most] h (fun o h' => h' = h ∧ ((mSp g (s 9) most ∧ o = rI 1) ∨ (¬ mSp g (s 9) most ∧ o = rI 0))) := by
  obtain ⟨n, hn⟩ := Int.eq_ofNat_of_zero_le hs.1
  have hn1 : s 9 = (n : Int) := hn
  have hno : ¬ (1 ≤ s 9 ∧ s 9 ≤ most) → k_Wp x d 0 0 mX12_isSpelling (fun o h' => h' = h ∧ ((mSp g (s 9) most ∧ o = rI 1) ∨ (¬ mSp g (s 9) most ∧ o = rI 0))) 0 0 24 [some (vR 57), some (vI most), some (vI 0), some (vI 0)] [] h := by
    intro hc
    have hP : ¬ mSp g (s 9) most := fun q => hc ⟨q.1, q.2.1⟩
    refine p_go [] 40 ?_
    simp only [st_0, st_1, st_2, st_3, st_4, st_5, st_6, st_7, st_8, st_9, st_10, st_11, st_12, st_13, st_14, st_15, st_16, st_17, st_18, st_19, st_20, st_21, st_22, st_23, st_24, st_25, st_26, st_27, st_28, st_29, st_30, st_31, st_32, st_33, st_34, st_34a, st_35, st_36, st_37, st_38, st_39, st_42, st_44, st_45, st_47, st_40, st_41, st_46, st_48, st_49, st_43, go_0, go_s, cut_0, cut_s, get_0, get_s, put_0, put_1, put_s, clr_0, clr_s, unl_i, unl_l, unl_r, unl_n, nth_0, nth_s, sf_0, sf_s, cnd_0, cnd_1, cnd_2, cnd_3, cnd_4, cnd_5, fit_0, fit_1, fit_2, en_0, en_i, en_l, en_r, kb_t, kb_f, kb_n, sw_0, sw_s, ↓reduceIte, Nat.reduceEqDiff, Nat.left_eq_add, Nat.add_eq_left, Nat.add_left_cancel_iff, Nat.reduceAdd, Int.reduceLT, Int.reduceLE, Int.reduceAdd, Int.reduceSub, Int.reduceNeg, Int.reduceMul, Int.reduceToNat, Int.reduceEq, reduceCtorEq, true_and, and_true, true_or, or_true, and_false, false_and, or_false, false_or, not_true_eq_false, not_false_eq_true, Nat.le_refl, and_self, Sum.inl.injEq, Sum.inr.injEq, Option.some.injEq, hS_2, k_isref, pd_0, pd_s, List.cons_append, List.nil_append, Option.toList_none, Option.toList_some, tX12_isSpelling, rX12_isSpelling, h1]
    exact k_brI (fun _ => hP) (fun _ => hP)
  refine k_enp 2 (Nat.le_of_ble_eq_true rfl) (p_go [24] 40 ?_)
  simp only [st_0, st_1, st_2, st_3, st_4, st_5, st_6, st_7, st_8, st_9, st_10, st_11, st_12, st_13, st_14, st_15, st_16, st_17, st_18, st_19, st_20, st_21, st_22, st_23, st_24, st_25, st_26, st_27, st_28, st_29, st_30, st_31, st_32, st_33, st_34, st_34a, st_35, st_36, st_37, st_38, st_39, st_42, st_44, st_45, st_47, st_40, st_41, st_46, st_48, st_49, st_43, go_0, go_s, cut_0, cut_s, get_0, get_s, put_0, put_1, put_s, clr_0, clr_s, unl_i, unl_l, unl_r, unl_n, nth_0, nth_s, sf_0, sf_s, cnd_0, cnd_1, cnd_2, cnd_3, cnd_4, cnd_5, fit_0, fit_1, fit_2, en_0, en_i, en_l, en_r, kb_t, kb_f, kb_n, sw_0, sw_s, ↓reduceIte, Nat.reduceEqDiff, Nat.left_eq_add, Nat.add_eq_left, Nat.add_left_cancel_iff, Nat.reduceAdd, Int.reduceLT, Int.reduceLE, Int.reduceAdd, Int.reduceSub, Int.reduceNeg, Int.reduceMul, Int.reduceToNat, Int.reduceEq, reduceCtorEq, true_and, and_true, true_or, or_true, and_false, false_and, or_false, false_or, not_true_eq_false, not_false_eq_true, Nat.le_refl, and_self, Sum.inl.injEq, Sum.inr.injEq, Option.some.injEq, hS_2, k_isref, pd_0, pd_s, List.cons_append, List.nil_append, Option.toList_none, Option.toList_some, tX12_isSpelling, rX12_isSpelling, h1]
  refine k_brI (fun c => hno (by omega)) (fun c => k_brI (fun c2 => hno (by omega)) (fun c2 => ?_))
  refine w_mspell h1 h2 hn1 (by omega) hg hd (fun ha => ⟨rfl, Or.inl ⟨⟨by omega, by omega, ?_⟩, rfl⟩⟩) (fun ha => ⟨rfl, Or.inr ⟨fun q => ha ?_, rfl⟩⟩) n 0 (by omega) (fun u hu => by omega)
  · rw [hn1, Int.toNat_natCast]; exact ha
  · have := q.2.2
    rw [hn1, Int.toNat_natCast] at this
    exact this
/-- a rule or an entry told to the reference, as entry k -/
def tmH (h : PH) (AL nL most nS : Nat) (L ln S mn g hf : F_) (wide w k n : Nat) (many : Int) : PH := hS (hS (hS (hS h AL (cI nL (va_cpy g L 0 (wide * k) n))) (AL + 1) (cI most (fS ln k n))) (AL + 2) (cI nS (va_cpy hf S 0 (w * k) many.toNat))) (AL + 3) (cI most (fS mn k many))
set_option maxRecDepth 100000 in
set_option maxHeartbeats 4000000 in
theorem w_ruleL {L : F_} {z many : Int} {k n : Nat} (h1 : h.2 57 = some (mO s)) (h2 : h.2 62 = some (.inl (1, 400, g))) (hs : s 9 = n) (hn : n ≤ 4) (hk : k < 60)
    (kk : k_Wp x d 0 0 mX12_rule P 0 0 137 [some (vR 57), some (vI z), some (vI many), some (vI k), none] [] (hS h 63 (cI 240 (va_cpy g L 0 (4 * k) n)))) : ∀ (j i : Nat), i + j = n →
    k_Wp x d 0 0 mX12_rule P 0 0 104 [some (vR 57), some (vI z), some (vI many), some (vI k), some (vI i)] [] (hS h 63 (cI 240 (va_cpy g L 0 (4 * k) i))) := by
  intro j
  induction j with
  | zero =>
    intro i hi
    have e1 : s 9 ≤ (i : Int) := by omega
    rw [show i = n by omega] at *
    refine p_go [137] 40 ?_
    simp only [st_0, st_1, st_2, st_3, st_4, st_5, st_6, st_7, st_8, st_9, st_10, st_11, st_12, st_13, st_14, st_15, st_16, st_17, st_18, st_19, st_20, st_21, st_22, st_23, st_24, st_25, st_26, st_27, st_28, st_29, st_30, st_31, st_32, st_33, st_34, st_34a, st_35, st_36, st_37, st_38, st_39, st_42, st_44, st_45, st_47, st_40, st_41, st_46, st_48, st_49, st_43, go_0, go_s, cut_0, cut_s, get_0, get_s, put_0, put_1, put_s, clr_0, clr_s, unl_i, unl_l, unl_r, unl_n, nth_0, nth_s, sf_0, sf_s, cnd_0, cnd_1, cnd_2, cnd_3, cnd_4, cnd_5, fit_0, fit_1, fit_2, en_0, en_i, en_l, en_r, kb_t, kb_f, kb_n, sw_0, sw_s, ↓reduceIte, Nat.reduceEqDiff, Nat.left_eq_add, Nat.add_eq_left, Nat.add_left_cancel_iff, Nat.reduceAdd, Int.reduceLT, Int.reduceLE, Int.reduceAdd, Int.reduceSub, Int.reduceNeg, Int.reduceMul, Int.reduceToNat, Int.reduceEq, reduceCtorEq, true_and, and_true, true_or, or_true, and_false, false_and, or_false, false_or, not_true_eq_false, not_false_eq_true, Nat.le_refl, and_self, Sum.inl.injEq, Sum.inr.injEq, Option.some.injEq, hS_2, k_isref, pd_0, pd_s, List.cons_append, List.nil_append, Option.toList_none, Option.toList_some, tX12_rule, rX12_rule, h1, e1]
    exact p_sub (by (repeat (first | exact le_nil | refine le_s ?_ | refine le_n ?_))) kk
  | succ j ih =>
    intro i hi
    have e1 : ¬ s 9 ≤ (i : Int) := by omega
    have e2 : ((4 : Int) * k + i).toNat = 4 * k + i := by omega
    have hih := ih (i + 1) (by omega)
    rw [← cpy_s, Nat.zero_add] at hih
    refine p_go [104] 40 ?_
    simp only [st_0, st_1, st_2, st_3, st_4, st_5, st_6, st_7, st_8, st_9, st_10, st_11, st_12, st_13, st_14, st_15, st_16, st_17, st_18, st_19, st_20, st_21, st_22, st_23, st_24, st_25, st_26, st_27, st_28, st_29, st_30, st_31, st_32, st_33, st_34, st_34a, st_35, st_36, st_37, st_38, st_39, st_42, st_44, st_45, st_47, st_40, st_41, st_46, st_48, st_49, st_43, go_0, go_s, cut_0, cut_s, get_0, get_s, put_0, put_1, put_s, clr_0, clr_s, unl_i, unl_l, unl_r, unl_n, nth_0, nth_s, sf_0, sf_s, cnd_0, cnd_1, cnd_2, cnd_3, cnd_4, cnd_5, fit_0, fit_1, fit_2, en_0, en_i, en_l, en_r, kb_t, kb_f, kb_n, sw_0, sw_s, ↓reduceIte, Nat.reduceEqDiff, Nat.left_eq_add, Nat.add_eq_left, Nat.add_left_cancel_iff, Nat.reduceAdd, Int.reduceLT, Int.reduceLE, Int.reduceAdd, Int.reduceSub, Int.reduceNeg, Int.reduceMul, Int.reduceToNat, Int.reduceEq, reduceCtorEq, true_and, and_true, true_or, or_true, and_false, false_and, or_false, false_or, not_true_eq_false, not_false_eq_true, Nat.le_refl, and_self, Sum.inl.injEq, Sum.inr.injEq, Option.some.injEq, hS_2, k_isref, pd_0, pd_s, List.cons_append, List.nil_append, Option.toList_none, Option.toList_some, tX12_rule, rX12_rule, h1, h2, e1, e2, nat1, hS_hS, Int.toNat_natCast]
    (repeat (first | exact hih | refine ⟨⟨by omega, by omega⟩, ?_⟩ | refine And.intro (by omega) ?_))
set_option maxRecDepth 100000 in
set_option maxHeartbeats 4000000 in
theorem w_ruleS {S hf : F_} {z : Int} {k many : Nat} (h1 : h.2 57 = some (mO s)) (h2 : h.2 61 = some (cI 40 hf)) (hn : many ≤ 3) (hk : k < 60)
    (kk : k_Wp x d 0 0 mX12_rule P 0 0 180 [some (vR 57), some (vI z), some (vI many), some (vI k), none] [] (hS h 65 (cI 180 (va_cpy hf S 0 (3 * k) many)))) : ∀ (j i : Nat), i + j = many →
    k_Wp x d 0 0 mX12_rule P 0 0 150 [some (vR 57), some (vI z), some (vI many), some (vI k), some (vI i)] [] (hS h 65 (cI 180 (va_cpy hf S 0 (3 * k) i))) := by
  intro j
  induction j with
  | zero =>
    intro i hi
    have e1 : (many : Int) ≤ (i : Int) := by omega
    rw [show i = many by omega] at *
    refine p_go [180] 40 ?_
    simp only [st_0, st_1, st_2, st_3, st_4, st_5, st_6, st_7, st_8, st_9, st_10, st_11, st_12, st_13, st_14, st_15, st_16, st_17, st_18, st_19, st_20, st_21, st_22, st_23, st_24, st_25, st_26, st_27, st_28, st_29, st_30, st_31, st_32, st_33, st_34, st_34a, st_35, st_36, st_37, st_38, st_39, st_42, st_44, st_45, st_47, st_40, st_41, st_46, st_48, st_49, st_43, go_0, go_s, cut_0, cut_s, get_0, get_s, put_0, put_1, put_s, clr_0, clr_s, unl_i, unl_l, unl_r, unl_n, nth_0, nth_s, sf_0, sf_s, cnd_0, cnd_1, cnd_2, cnd_3, cnd_4, cnd_5, fit_0, fit_1, fit_2, en_0, en_i, en_l, en_r, kb_t, kb_f, kb_n, sw_0, sw_s, ↓reduceIte, Nat.reduceEqDiff, Nat.left_eq_add, Nat.add_eq_left, Nat.add_left_cancel_iff, Nat.reduceAdd, Int.reduceLT, Int.reduceLE, Int.reduceAdd, Int.reduceSub, Int.reduceNeg, Int.reduceMul, Int.reduceToNat, Int.reduceEq, reduceCtorEq, true_and, and_true, true_or, or_true, and_false, false_and, or_false, false_or, not_true_eq_false, not_false_eq_true, Nat.le_refl, and_self, Sum.inl.injEq, Sum.inr.injEq, Option.some.injEq, hS_2, k_isref, pd_0, pd_s, List.cons_append, List.nil_append, Option.toList_none, Option.toList_some, tX12_rule, rX12_rule, e1]
    exact p_sub (by (repeat (first | exact le_nil | refine le_s ?_ | refine le_n ?_))) kk
  | succ j ih =>
    intro i hi
    have e1 : ¬ (many : Int) ≤ (i : Int) := by omega
    have e2 : ((3 : Int) * k + i).toNat = 3 * k + i := by omega
    have hih := ih (i + 1) (by omega)
    rw [← cpy_s, Nat.zero_add] at hih
    refine p_go [150] 40 ?_
    simp only [st_0, st_1, st_2, st_3, st_4, st_5, st_6, st_7, st_8, st_9, st_10, st_11, st_12, st_13, st_14, st_15, st_16, st_17, st_18, st_19, st_20, st_21, st_22, st_23, st_24, st_25, st_26, st_27, st_28, st_29, st_30, st_31, st_32, st_33, st_34, st_34a, st_35, st_36, st_37, st_38, st_39, st_42, st_44, st_45, st_47, st_40, st_41, st_46, st_48, st_49, st_43, go_0, go_s, cut_0, cut_s, get_0, get_s, put_0, put_1, put_s, clr_0, clr_s, unl_i, unl_l, unl_r, unl_n, nth_0, nth_s, sf_0, sf_s, cnd_0, cnd_1, cnd_2, cnd_3, cnd_4, cnd_5, fit_0, fit_1, fit_2, en_0, en_i, en_l, en_r, kb_t, kb_f, kb_n, sw_0, sw_s, ↓reduceIte, Nat.reduceEqDiff, Nat.left_eq_add, Nat.add_eq_left, Nat.add_left_cancel_iff, Nat.reduceAdd, Int.reduceLT, Int.reduceLE, Int.reduceAdd, Int.reduceSub, Int.reduceNeg, Int.reduceMul, Int.reduceToNat, Int.reduceEq, reduceCtorEq, true_and, and_true, true_or, or_true, and_false, false_and, or_false, false_or, not_true_eq_false, not_false_eq_true, Nat.le_refl, and_self, Sum.inl.injEq, Sum.inr.injEq, Option.some.injEq, hS_2, k_isref, pd_0, pd_s, List.cons_append, List.nil_append, Option.toList_none, Option.toList_some, tX12_rule, rX12_rule, h1, h2, e1, e2, nat1, hS_hS, Int.toNat_natCast]
    (repeat (first | exact hih | refine ⟨⟨by omega, by omega⟩, ?_⟩ | refine And.intro (by omega) ?_))
set_option maxRecDepth 100000 in
set_option maxHeartbeats 4000000 in
theorem w_ruleT {L ln S mn hf : F_} {z : Int} {k n many : Nat} (h1 : h.2 57 = some (mO s)) (h2 : h.2 62 = some (.inl (1, 400, g))) (h3 : h.2 61 = some (cI 40 hf)) (hL : h.2 63 = some (cI 240 L)) (hl : h.2 (63 + 1) = some (cI 60 ln)) (hS1 : h.2 (63 + 2) = some (cI 180 S)) (hm : h.2 (63 + 3) = some (cI 60 mn)) (hs : s 9 = n) (hn : n ≤ 4) (hmy : many ≤ 3) (hk : k < 60)
    (kk : P (rI (s 14)) (tmH h 63 240 60 180 L ln S mn g hf 4 3 k n many)) :
    k_Wp x d 0 0 mX12_rule P 0 0 101 [some (vR 57), some (vI z), some (vI many), some (vI k), none] [] h := by
  refine p_go [104] 40 ?_
  simp only [st_0, st_1, st_2, st_3, st_4, st_5, st_6, st_7, st_8, st_9, st_10, st_11, st_12, st_13, st_14, st_15, st_16, st_17, st_18, st_19, st_20, st_21, st_22, st_23, st_24, st_25, st_26, st_27, st_28, st_29, st_30, st_31, st_32, st_33, st_34, st_34a, st_35, st_36, st_37, st_38, st_39, st_42, st_44, st_45, st_47, st_40, st_41, st_46, st_48, st_49, st_43, go_0, go_s, cut_0, cut_s, get_0, get_s, put_0, put_1, put_s, clr_0, clr_s, unl_i, unl_l, unl_r, unl_n, nth_0, nth_s, sf_0, sf_s, cnd_0, cnd_1, cnd_2, cnd_3, cnd_4, cnd_5, fit_0, fit_1, fit_2, en_0, en_i, en_l, en_r, kb_t, kb_f, kb_n, sw_0, sw_s, ↓reduceIte, Nat.reduceEqDiff, Nat.left_eq_add, Nat.add_eq_left, Nat.add_left_cancel_iff, Nat.reduceAdd, Int.reduceLT, Int.reduceLE, Int.reduceAdd, Int.reduceSub, Int.reduceNeg, Int.reduceMul, Int.reduceToNat, Int.reduceEq, reduceCtorEq, true_and, and_true, true_or, or_true, and_false, false_and, or_false, false_or, not_true_eq_false, not_false_eq_true, Nat.le_refl, and_self, Sum.inl.injEq, Sum.inr.injEq, Option.some.injEq, hS_2, k_isref, pd_0, pd_s, List.cons_append, List.nil_append, Option.toList_none, Option.toList_some, tX12_rule, rX12_rule]
  unfold tmH at kk
  rw [Int.toNat_natCast] at kk
  have hgo : k_Wp x d 0 0 mX12_rule P 0 0 104 [some (vR 57), some (vI z), some (vI many), some (vI k), some (vI ((0 : Nat) : Int))] [] (hS h 63 (cI 240 (va_cpy g L 0 (4 * k) 0))) := by
    refine w_ruleL h1 h2 hs hn hk ?_ n 0 (by omega)
    have k1 : (hS h 63 (cI 240 (va_cpy g L 0 (4 * k) n))).2 57 = some (mO s) := (hS_n (by decide)).trans h1
    have k3 : (hS h 63 (cI 240 (va_cpy g L 0 (4 * k) n))).2 61 = some (cI 40 hf) := (hS_n (by decide)).trans h3
    have kl : (hS h 63 (cI 240 (va_cpy g L 0 (4 * k) n))).2 (63 + 1) = some (cI 60 ln) := (hS_n (by decide)).trans hl
    have kS : (hS h 63 (cI 240 (va_cpy g L 0 (4 * k) n))).2 (63 + 2) = some (cI 180 S) := (hS_n (by decide)).trans hS1
    have km : (hS h 63 (cI 240 (va_cpy g L 0 (4 * k) n))).2 (63 + 3) = some (cI 60 mn) := (hS_n (by decide)).trans hm
    generalize hS h 63 (cI 240 (va_cpy g L 0 (4 * k) n)) = h4 at k1 k3 kl kS km kk ⊢
    refine p_go [150] 40 ?_
    simp only [st_0, st_1, st_2, st_3, st_4, st_5, st_6, st_7, st_8, st_9, st_10, st_11, st_12, st_13, st_14, st_15, st_16, st_17, st_18, st_19, st_20, st_21, st_22, st_23, st_24, st_25, st_26, st_27, st_28, st_29, st_30, st_31, st_32, st_33, st_34, st_34a, st_35, st_36, st_37, st_38, st_39, st_42, st_44, st_45, st_47, st_40, st_41, st_46, st_48, st_49, st_43, go_0, go_s, cut_0, cut_s, get_0, get_s, put_0, put_1, put_s, clr_0, clr_s, unl_i, unl_l, unl_r, unl_n, nth_0, nth_s, sf_0, sf_s, cnd_0, cnd_1, cnd_2, cnd_3, cnd_4, cnd_5, fit_0, fit_1, fit_2, en_0, en_i, en_l, en_r, kb_t, kb_f, kb_n, sw_0, sw_s, ↓reduceIte, Nat.reduceEqDiff, Nat.left_eq_add, Nat.add_eq_left, Nat.add_left_cancel_iff, Nat.reduceAdd, Int.reduceLT, Int.reduceLE, Int.reduceAdd, Int.reduceSub, Int.reduceNeg, Int.reduceMul, Int.reduceToNat, Int.reduceEq, reduceCtorEq, true_and, and_true, true_or, or_true, and_false, false_and, or_false, false_or, not_true_eq_false, not_false_eq_true, Nat.le_refl, and_self, Sum.inl.injEq, Sum.inr.injEq, Option.some.injEq, hS_2, k_isref, pd_0, pd_s, List.cons_append, List.nil_append, Option.toList_none, Option.toList_some, tX12_rule, rX12_rule, k1, kl, hs, Int.toNat_natCast]
    refine ⟨⟨by omega, by omega⟩, ?_⟩
    have j1 : (hS h4 (63 + 1) (cI 60 (fS ln k n))).2 57 = some (mO s) := (hS_n (by decide)).trans k1
    have j3 : (hS h4 (63 + 1) (cI 60 (fS ln k n))).2 61 = some (cI 40 hf) := (hS_n (by decide)).trans k3
    have jS : (hS h4 (63 + 1) (cI 60 (fS ln k n))).2 (63 + 2) = some (cI 180 S) := (hS_n (by decide)).trans kS
    have jm : (hS h4 (63 + 1) (cI 60 (fS ln k n))).2 (63 + 3) = some (cI 60 mn) := (hS_n (by decide)).trans km
    change k_Wp x d 0 0 mX12_rule P 0 0 150 [some (vR 57), some (vI z), some (vI many), some (vI k), some (vI ((0 : Nat) : Int))] [] (hS h4 (63 + 1) (cI 60 (fS ln k n)))
    generalize hS h4 (63 + 1) (cI 60 (fS ln k n)) = h5 at j1 j3 jS jm kk ⊢
    have hgo2 : k_Wp x d 0 0 mX12_rule P 0 0 150 [some (vR 57), some (vI z), some (vI many), some (vI k), some (vI ((0 : Nat) : Int))] [] (hS h5 65 (cI 180 (va_cpy hf S 0 (3 * k) 0))) := by
      refine w_ruleS j1 j3 hmy hk ?_ many 0 (by omega)
      have i1 : (hS h5 65 (cI 180 (va_cpy hf S 0 (3 * k) many))).2 57 = some (mO s) := (hS_n (by decide)).trans j1
      have im : (hS h5 65 (cI 180 (va_cpy hf S 0 (3 * k) many))).2 (63 + 3) = some (cI 60 mn) := (hS_n (by decide)).trans jm
      change P (rI (s 14)) (hS (hS h5 65 (cI 180 (va_cpy hf S 0 (3 * k) many))) (63 + 3) (cI 60 (fS mn k many))) at kk
      generalize hS h5 65 (cI 180 (va_cpy hf S 0 (3 * k) many)) = h6 at i1 im kk ⊢
      refine p_go [] 40 ?_
      simp only [st_0, st_1, st_2, st_3, st_4, st_5, st_6, st_7, st_8, st_9, st_10, st_11, st_12, st_13, st_14, st_15, st_16, st_17, st_18, st_19, st_20, st_21, st_22, st_23, st_24, st_25, st_26, st_27, st_28, st_29, st_30, st_31, st_32, st_33, st_34, st_34a, st_35, st_36, st_37, st_38, st_39, st_42, st_44, st_45, st_47, st_40, st_41, st_46, st_48, st_49, st_43, go_0, go_s, cut_0, cut_s, get_0, get_s, put_0, put_1, put_s, clr_0, clr_s, unl_i, unl_l, unl_r, unl_n, nth_0, nth_s, sf_0, sf_s, cnd_0, cnd_1, cnd_2, cnd_3, cnd_4, cnd_5, fit_0, fit_1, fit_2, en_0, en_i, en_l, en_r, kb_t, kb_f, kb_n, sw_0, sw_s, ↓reduceIte, Nat.reduceEqDiff, Nat.left_eq_add, Nat.add_eq_left, Nat.add_left_cancel_iff, Nat.reduceAdd, Int.reduceLT, Int.reduceLE, Int.reduceAdd, Int.reduceSub, Int.reduceNeg, Int.reduceMul, Int.reduceToNat, Int.reduceEq, reduceCtorEq, true_and, and_true, true_or, or_true, and_false, false_and, or_false, false_or, not_true_eq_false, not_false_eq_true, Nat.le_refl, and_self, Sum.inl.injEq, Sum.inr.injEq, Option.some.injEq, hS_2, k_isref, pd_0, pd_s, List.cons_append, List.nil_append, Option.toList_none, Option.toList_some, tX12_rule, rX12_rule, i1, im, Int.toNat_natCast]
      (repeat (first | exact kk | refine ⟨⟨by omega, by omega⟩, ?_⟩ | refine And.intro (by omega) ?_))
    rw [cpy_0, hS_id jS] at hgo2
    exact hgo2
  rw [cpy_0, hS_id hL] at hgo
  exact hgo
set_option maxRecDepth 100000 in
set_option maxHeartbeats 4000000 in
theorem e_mrule {cs ls L ln S mn hf : F_} {sz : Nat} {z : Int} (h1 : h.2 57 = some (mO s)) (h2 : h.2 62 = some (.inl (1, 400, g))) (h3 : h.2 61 = some (cI 40 hf)) (hL : h.2 63 = some (cI 240 L)) (hl : h.2 (63 + 1) = some (cI 60 ln)) (hS1 : h.2 (63 + 2) = some (cI 180 S)) (hm : h.2 (63 + 3) = some (cI 60 mn)) (hg : ∀ k, k < 400 → -128 ≤ g k ∧ g k ≤ 127) (hsz : sz ≤ 60) (hss : s 14 = sz) (hR : lxR cs ls sz L ln 4) (h6 : 0 ≤ s 6 ∧ s 6 ≤ 40) (h8 : s 8 ≤ 400) (hd : 2 ≤ d)
    (c0 : ¬ (0 ≤ z ∧ z ≤ s 8) → P (rI 0) (hS h 57 (mO (mS s 0 1))))
    (c1 : 0 ≤ z ∧ z ≤ s 8 → ¬ (mSp g z 4 ∧ 0 ≤ s 6 ∧ s 6 ≤ 3) → P (rI (-1)) (hS h 57 (mO (mS (mS (mS (mS s 0 0) 9 z) 8 0) 6 0))))
    (c2 : 0 ≤ z ∧ z ≤ s 8 → mSp g z 4 ∧ 0 ≤ s 6 ∧ s 6 ≤ 3 → fnd cs (cd_ g 0 z.toNat) 0 sz = -1 → sz = 60 → P (rI (-2)) (hS h 57 (mO (mS (mS (mS (mS s 0 0) 9 z) 8 0) 6 0))))
    (c3 : 0 ≤ z ∧ z ≤ s 8 → mSp g z 4 ∧ 0 ≤ s 6 ∧ s 6 ≤ 3 → fnd cs (cd_ g 0 z.toNat) 0 sz = -1 → sz < 60 → P (rI (sz + 1 : Nat)) (tmH (hS h 57 (mO (mS (mS (mS (mS (mS s 0 0) 9 z) 8 0) 6 0) 14 (sz + 1 : Nat)))) 63 240 60 180 L ln S mn g hf 4 3 sz z.toNat (s 6)))
    (c4 : 0 ≤ z ∧ z ≤ s 8 → mSp g z 4 ∧ 0 ≤ s 6 ∧ s 6 ≤ 3 → ∀ k : Nat, fnd cs (cd_ g 0 z.toNat) 0 sz = k → k < sz → P (rI sz) (tmH (hS h 57 (mO (mS (mS (mS (mS s 0 0) 9 z) 8 0) 6 0))) 63 240 60 180 L ln S mn g hf 4 3 k z.toNat (s 6))) :
    k_Ev x d 0 0 mX12_rule [vR 57, vI z] h P := by
  refine k_enp 3 (Nat.le_of_ble_eq_true rfl) (p_go [] 40 ?_)
  simp only [st_0, st_1, st_2, st_3, st_4, st_5, st_6, st_7, st_8, st_9, st_10, st_11, st_12, st_13, st_14, st_15, st_16, st_17, st_18, st_19, st_20, st_21, st_22, st_23, st_24, st_25, st_26, st_27, st_28, st_29, st_30, st_31, st_32, st_33, st_34, st_34a, st_35, st_36, st_37, st_38, st_39, st_42, st_44, st_45, st_47, st_40, st_41, st_46, st_48, st_49, st_43, go_0, go_s, cut_0, cut_s, get_0, get_s, put_0, put_1, put_s, clr_0, clr_s, unl_i, unl_l, unl_r, unl_n, nth_0, nth_s, sf_0, sf_s, cnd_0, cnd_1, cnd_2, cnd_3, cnd_4, cnd_5, fit_0, fit_1, fit_2, en_0, en_i, en_l, en_r, kb_t, kb_f, kb_n, sw_0, sw_s, ↓reduceIte, Nat.reduceEqDiff, Nat.left_eq_add, Nat.add_eq_left, Nat.add_left_cancel_iff, Nat.reduceAdd, Int.reduceLT, Int.reduceLE, Int.reduceAdd, Int.reduceSub, Int.reduceNeg, Int.reduceMul, Int.reduceToNat, Int.reduceEq, reduceCtorEq, true_and, and_true, true_or, or_true, and_false, false_and, or_false, false_or, not_true_eq_false, not_false_eq_true, Nat.le_refl, and_self, Sum.inl.injEq, Sum.inr.injEq, Option.some.injEq, hS_2, k_isref, pd_0, pd_s, List.cons_append, List.nil_append, Option.toList_none, Option.toList_some, tX12_rule, rX12_rule, h1]
  have k1 : (hS h 57 (mO (mS s 0 0))).2 57 = some (mO (mS s 0 0)) := hS_s _ _ _
  refine cVQ (d' := 1) (P' := fun o h' => (¬ (0 ≤ z ∧ z ≤ s 8) ∧ o = rI 0 ∧ h' = hS h 57 (mO (mS s 0 1))) ∨ ((0 ≤ z ∧ z ≤ s 8) ∧ o = rI 1 ∧ h' = hS h 57 (mO (mS (mS (mS s 0 0) 9 z) 8 0)))) [vI z] [] l_12_153 k1 (e_takes k1 (Nat.le_refl 1) (fun c => Or.inl ⟨c, rfl, by rw [hS_hS, if_pos mS_s, mS_mS]⟩) (fun c => Or.inr ⟨c, rfl, by rw [hS_hS]⟩)) (by omega) ?_ (fun E h' q => by rcases q with ⟨_, q, _⟩ | ⟨_, q, _⟩ <;> cases q)
  intro r1 h4 q
  rcases q with ⟨q1, q2, q3⟩ | ⟨q1, q2, q3⟩
  · cases q2
    subst q3
    refine p_go [] 40 ?_
    simp only [st_0, st_1, st_2, st_3, st_4, st_5, st_6, st_7, st_8, st_9, st_10, st_11, st_12, st_13, st_14, st_15, st_16, st_17, st_18, st_19, st_20, st_21, st_22, st_23, st_24, st_25, st_26, st_27, st_28, st_29, st_30, st_31, st_32, st_33, st_34, st_34a, st_35, st_36, st_37, st_38, st_39, st_42, st_44, st_45, st_47, st_40, st_41, st_46, st_48, st_49, st_43, go_0, go_s, cut_0, cut_s, get_0, get_s, put_0, put_1, put_s, clr_0, clr_s, unl_i, unl_l, unl_r, unl_n, nth_0, nth_s, sf_0, sf_s, cnd_0, cnd_1, cnd_2, cnd_3, cnd_4, cnd_5, fit_0, fit_1, fit_2, en_0, en_i, en_l, en_r, kb_t, kb_f, kb_n, sw_0, sw_s, ↓reduceIte, Nat.reduceEqDiff, Nat.left_eq_add, Nat.add_eq_left, Nat.add_left_cancel_iff, Nat.reduceAdd, Int.reduceLT, Int.reduceLE, Int.reduceAdd, Int.reduceSub, Int.reduceNeg, Int.reduceMul, Int.reduceToNat, Int.reduceEq, reduceCtorEq, true_and, and_true, true_or, or_true, and_false, false_and, or_false, false_or, not_true_eq_false, not_false_eq_true, Nat.le_refl, and_self, Sum.inl.injEq, Sum.inr.injEq, Option.some.injEq, hS_2, k_isref, pd_0, pd_s, List.cons_append, List.nil_append, Option.toList_none, Option.toList_some, tX12_rule, rX12_rule]
    exact c0 q1
  · cases q2
    obtain ⟨n, en⟩ : ∃ n : Nat, z = (n : Int) := ⟨z.toNat, by omega⟩
    subst en
    obtain ⟨my, em⟩ : ∃ my : Nat, s 6 = (my : Int) := ⟨(s 6).toNat, by omega⟩
    simp only [Int.toNat_natCast] at c2 c3 c4
    have j1 : h4.2 57 = some (mO (mS (mS (mS s 0 0) 9 n) 8 0)) := by rw [q3]; exact hS_s _ _ _
    have jz : ∀ z, z ≠ 57 → h4.2 z = h.2 z := fun z hz => by rw [q3]; exact hS_n hz
    refine p_go [] 40 ?_
    simp only [st_0, st_1, st_2, st_3, st_4, st_5, st_6, st_7, st_8, st_9, st_10, st_11, st_12, st_13, st_14, st_15, st_16, st_17, st_18, st_19, st_20, st_21, st_22, st_23, st_24, st_25, st_26, st_27, st_28, st_29, st_30, st_31, st_32, st_33, st_34, st_34a, st_35, st_36, st_37, st_38, st_39, st_42, st_44, st_45, st_47, st_40, st_41, st_46, st_48, st_49, st_43, go_0, go_s, cut_0, cut_s, get_0, get_s, put_0, put_1, put_s, clr_0, clr_s, unl_i, unl_l, unl_r, unl_n, nth_0, nth_s, sf_0, sf_s, cnd_0, cnd_1, cnd_2, cnd_3, cnd_4, cnd_5, fit_0, fit_1, fit_2, en_0, en_i, en_l, en_r, kb_t, kb_f, kb_n, sw_0, sw_s, ↓reduceIte, Nat.reduceEqDiff, Nat.left_eq_add, Nat.add_eq_left, Nat.add_left_cancel_iff, Nat.reduceAdd, Int.reduceLT, Int.reduceLE, Int.reduceAdd, Int.reduceSub, Int.reduceNeg, Int.reduceMul, Int.reduceToNat, Int.reduceEq, reduceCtorEq, true_and, and_true, true_or, or_true, and_false, false_and, or_false, false_or, not_true_eq_false, not_false_eq_true, Nat.le_refl, and_self, Sum.inl.injEq, Sum.inr.injEq, Option.some.injEq, hS_2, k_isref, pd_0, pd_s, List.cons_append, List.nil_append, Option.toList_none, Option.toList_some, tX12_rule, rX12_rule, j1, hS_hS]
    have jH : hS h4 57 (mO (mS (mS (mS (mS s 0 0) 9 n) 8 0) 6 0)) = hS h 57 (mO (mS (mS (mS (mS s 0 0) 9 n) 8 0) 6 0)) := by rw [q3, hS_hS]
    have u1 : (hS h4 57 (mO (mS (mS (mS (mS s 0 0) 9 n) 8 0) 6 0))).2 57 = some (mO (mS (mS (mS (mS s 0 0) 9 n) 8 0) 6 0)) := hS_s _ _ _
    have uz : ∀ z, z ≠ 57 → (hS h4 57 (mO (mS (mS (mS (mS s 0 0) 9 n) 8 0) 6 0))).2 z = h.2 z := fun z hz => (hS_n hz).trans (jz z hz)
    have uF : ∀ t : F_, hS (hS h4 57 (mO (mS (mS (mS (mS s 0 0) 9 n) 8 0) 6 0))) 57 (mO t) = hS h 57 (mO t) := fun t => by rw [jH, hS_hS]
    change k_Wp x d 0 0 mX12_rule P 0 0 27 [some (vR 57), some (vI n), some (vI (s 6)), none, none] [vI ((4 : Nat) : Int), vR 57] (hS h4 57 (mO (mS (mS (mS (mS s 0 0) 9 n) 8 0) 6 0)))
    rw [← jH] at c1 c2 c4
    have c3' : ∀ t : F_, t = mS (mS (mS (mS (mS s 0 0) 9 n) 8 0) 6 0) 14 (sz + 1 : Nat) → 0 ≤ (n : Int) ∧ (n : Int) ≤ s 8 → mSp g n 4 ∧ 0 ≤ s 6 ∧ s 6 ≤ 3 → fnd cs (cd_ g 0 n) 0 sz = -1 → sz < 60 → P (rI (sz + 1 : Nat)) (tmH (hS (hS h4 57 (mO (mS (mS (mS (mS s 0 0) 9 n) 8 0) 6 0))) 57 (mO t)) 63 240 60 180 L ln S mn g hf 4 3 sz n (s 6)) := by
      intro t ht a1 a2 a3 a4
      rw [uF, ht]
      exact c3 a1 a2 a3 a4
    generalize hS h4 57 (mO (mS (mS (mS (mS s 0 0) 9 n) 8 0) 6 0)) = h5 at u1 uz c1 c2 c3' c4 ⊢
    generalize et : mS (mS (mS (mS s 0 0) 9 n) 8 0) 6 0 = t at u1 c3' 
    have t9 : t 9 = n := by rw [← et]; rfl
    have tF : t 14 = sz := by rw [← et]; exact hss
    refine cVQ (d' := 1) [vI ((4 : Nat) : Int)] [] l_12_156 u1 (e_mspell u1 ((uz 62 (by decide)).trans h2) (by omega) hg (Nat.le_refl 1)) (by omega) ?_ (fun E h' q => by rcases q.2 with ⟨_, q⟩ | ⟨_, q⟩ <;> cases q)
    intro r2 h6' ⟨v1, v2⟩
    subst v1
    rw [t9] at v2
    rcases v2 with ⟨v2, v3⟩ | ⟨v2, v3⟩
    · cases v3
      have fin : 0 ≤ s 6 → s 6 ≤ 3 → k_Wp x d 0 0 mX12_rule P 0 0 40 [some (vR 57), some (vI n), some (vI (s 6)), none, none] [] h6' := by
        intro w0 w1
        have hc : mSp g n 4 ∧ 0 ≤ s 6 ∧ s 6 ≤ 3 := ⟨v2, w0, w1⟩
        have hn10 : (n : Int) ≤ 4 := v2.2.1
        have al : alls g 0 n := by have := v2.2.2; rw [Int.toNat_natCast] at this; exact this
        refine p_go [] 40 ?_
        simp only [st_0, st_1, st_2, st_3, st_4, st_5, st_6, st_7, st_8, st_9, st_10, st_11, st_12, st_13, st_14, st_15, st_16, st_17, st_18, st_19, st_20, st_21, st_22, st_23, st_24, st_25, st_26, st_27, st_28, st_29, st_30, st_31, st_32, st_33, st_34, st_34a, st_35, st_36, st_37, st_38, st_39, st_42, st_44, st_45, st_47, st_40, st_41, st_46, st_48, st_49, st_43, go_0, go_s, cut_0, cut_s, get_0, get_s, put_0, put_1, put_s, clr_0, clr_s, unl_i, unl_l, unl_r, unl_n, nth_0, nth_s, sf_0, sf_s, cnd_0, cnd_1, cnd_2, cnd_3, cnd_4, cnd_5, fit_0, fit_1, fit_2, en_0, en_i, en_l, en_r, kb_t, kb_f, kb_n, sw_0, sw_s, ↓reduceIte, Nat.reduceEqDiff, Nat.left_eq_add, Nat.add_eq_left, Nat.add_left_cancel_iff, Nat.reduceAdd, Int.reduceLT, Int.reduceLE, Int.reduceAdd, Int.reduceSub, Int.reduceNeg, Int.reduceMul, Int.reduceToNat, Int.reduceEq, reduceCtorEq, true_and, and_true, true_or, or_true, and_false, false_and, or_false, false_or, not_true_eq_false, not_false_eq_true, Nat.le_refl, and_self, Sum.inl.injEq, Sum.inr.injEq, Option.some.injEq, hS_2, k_isref, pd_0, pd_s, List.cons_append, List.nil_append, Option.toList_none, Option.toList_some, tX12_rule, rX12_rule, u1, tF, t9]
        refine cS (d' := 0) [vR 63, vI ((4 : Nat) : Int), vR (63 + 1), vI sz, vR 62, vI ((0 : Nat) : Int), vI n] [] l_12_162 (e_mfind (A := 63) (B := 63 + 1) ((uz 63 (by decide)).trans hL) ((uz (63 + 1) (by decide)).trans hl) ((uz 62 (by decide)).trans h2) hsz (by decide) (by decide) (by decide) (by omega) hR al) (by omega) (p_go [101] 40 ?_)
        rcases fnd_b cs (cd_ g 0 n) sz 0 with hf | ⟨k, f1, f2, f3, f4⟩
        · rw [hf]
          by_cases h60 : sz = 60
          · have e60 : ((sz : Nat) : Int) = 60 := by omega
            simp only [st_0, st_1, st_2, st_3, st_4, st_5, st_6, st_7, st_8, st_9, st_10, st_11, st_12, st_13, st_14, st_15, st_16, st_17, st_18, st_19, st_20, st_21, st_22, st_23, st_24, st_25, st_26, st_27, st_28, st_29, st_30, st_31, st_32, st_33, st_34, st_34a, st_35, st_36, st_37, st_38, st_39, st_42, st_44, st_45, st_47, st_40, st_41, st_46, st_48, st_49, st_43, go_0, go_s, cut_0, cut_s, get_0, get_s, put_0, put_1, put_s, clr_0, clr_s, unl_i, unl_l, unl_r, unl_n, nth_0, nth_s, sf_0, sf_s, cnd_0, cnd_1, cnd_2, cnd_3, cnd_4, cnd_5, fit_0, fit_1, fit_2, en_0, en_i, en_l, en_r, kb_t, kb_f, kb_n, sw_0, sw_s, ↓reduceIte, Nat.reduceEqDiff, Nat.left_eq_add, Nat.add_eq_left, Nat.add_left_cancel_iff, Nat.reduceAdd, Int.reduceLT, Int.reduceLE, Int.reduceAdd, Int.reduceSub, Int.reduceNeg, Int.reduceMul, Int.reduceToNat, Int.reduceEq, reduceCtorEq, true_and, and_true, true_or, or_true, and_false, false_and, or_false, false_or, not_true_eq_false, not_false_eq_true, Nat.le_refl, and_self, Sum.inl.injEq, Sum.inr.injEq, Option.some.injEq, hS_2, k_isref, pd_0, pd_s, List.cons_append, List.nil_append, Option.toList_none, Option.toList_some, tX12_rule, rX12_rule, u1, tF, e60]
            exact c2 q1 hc hf h60
          · have e60 : (((sz : Nat) : Int) = 60) = False := eq_false (by omega)
            simp only [st_0, st_1, st_2, st_3, st_4, st_5, st_6, st_7, st_8, st_9, st_10, st_11, st_12, st_13, st_14, st_15, st_16, st_17, st_18, st_19, st_20, st_21, st_22, st_23, st_24, st_25, st_26, st_27, st_28, st_29, st_30, st_31, st_32, st_33, st_34, st_34a, st_35, st_36, st_37, st_38, st_39, st_42, st_44, st_45, st_47, st_40, st_41, st_46, st_48, st_49, st_43, go_0, go_s, cut_0, cut_s, get_0, get_s, put_0, put_1, put_s, clr_0, clr_s, unl_i, unl_l, unl_r, unl_n, nth_0, nth_s, sf_0, sf_s, cnd_0, cnd_1, cnd_2, cnd_3, cnd_4, cnd_5, fit_0, fit_1, fit_2, en_0, en_i, en_l, en_r, kb_t, kb_f, kb_n, sw_0, sw_s, ↓reduceIte, Nat.reduceEqDiff, Nat.left_eq_add, Nat.add_eq_left, Nat.add_left_cancel_iff, Nat.reduceAdd, Int.reduceLT, Int.reduceLE, Int.reduceAdd, Int.reduceSub, Int.reduceNeg, Int.reduceMul, Int.reduceToNat, Int.reduceEq, reduceCtorEq, true_and, and_true, true_or, or_true, and_false, false_and, or_false, false_or, not_true_eq_false, not_false_eq_true, Nat.le_refl, and_self, Sum.inl.injEq, Sum.inr.injEq, Option.some.injEq, hS_2, k_isref, pd_0, pd_s, List.cons_append, List.nil_append, Option.toList_none, Option.toList_some, tX12_rule, rX12_rule, u1, tF, e60, nat1]
            refine ⟨⟨by omega, by omega⟩, ?_⟩
            have hlast := c3' (mS t 14 (sz + 1 : Nat)) rfl q1 hc hf (by omega)
            have y1 : (hS h6' 57 (mO (mS t 14 (sz + 1 : Nat)))).2 57 = some (mO (mS t 14 (sz + 1 : Nat))) := hS_s _ _ _
            have yz : ∀ z, z ≠ 57 → (hS h6' 57 (mO (mS t 14 (sz + 1 : Nat)))).2 z = h.2 z := fun z hz => (hS_n hz).trans (uz z hz)
            have hw := w_ruleT (x := x) (d := d) (P := P) (z := n) (k := sz) (n := n) (many := my) y1 ((yz 62 (by decide)).trans h2) ((yz 61 (by decide)).trans h3) ((yz _ (by decide)).trans hL) ((yz _ (by decide)).trans hl) ((yz _ (by decide)).trans hS1) ((yz _ (by decide)).trans hm) (show mS t 14 (sz + 1 : Nat) 9 = n from t9) (by omega) (by omega) (by omega) (by rw [← em]; exact hlast)
            rw [← em] at hw
            exact hw
        · have e60 : (f : Prop) → True := fun _ => trivial
          rw [f3]
          have e61 : ¬ ((k : Nat) : Int) < 0 := by omega
          have e62 : 0 ≤ ((k : Nat) : Int) := by omega
          simp only [st_0, st_1, st_2, st_3, st_4, st_5, st_6, st_7, st_8, st_9, st_10, st_11, st_12, st_13, st_14, st_15, st_16, st_17, st_18, st_19, st_20, st_21, st_22, st_23, st_24, st_25, st_26, st_27, st_28, st_29, st_30, st_31, st_32, st_33, st_34, st_34a, st_35, st_36, st_37, st_38, st_39, st_42, st_44, st_45, st_47, st_40, st_41, st_46, st_48, st_49, st_43, go_0, go_s, cut_0, cut_s, get_0, get_s, put_0, put_1, put_s, clr_0, clr_s, unl_i, unl_l, unl_r, unl_n, nth_0, nth_s, sf_0, sf_s, cnd_0, cnd_1, cnd_2, cnd_3, cnd_4, cnd_5, fit_0, fit_1, fit_2, en_0, en_i, en_l, en_r, kb_t, kb_f, kb_n, sw_0, sw_s, ↓reduceIte, Nat.reduceEqDiff, Nat.left_eq_add, Nat.add_eq_left, Nat.add_left_cancel_iff, Nat.reduceAdd, Int.reduceLT, Int.reduceLE, Int.reduceAdd, Int.reduceSub, Int.reduceNeg, Int.reduceMul, Int.reduceToNat, Int.reduceEq, reduceCtorEq, true_and, and_true, true_or, or_true, and_false, false_and, or_false, false_or, not_true_eq_false, not_false_eq_true, Nat.le_refl, and_self, Sum.inl.injEq, Sum.inr.injEq, Option.some.injEq, hS_2, k_isref, pd_0, pd_s, List.cons_append, List.nil_append, Option.toList_none, Option.toList_some, tX12_rule, rX12_rule, e61, e62]
          have hlast := c4 q1 hc k f3 (by omega)
          have hw := w_ruleT (x := x) (d := d) (P := P) (z := n) (k := k) (n := n) (many := my) u1 ((uz 62 (by decide)).trans h2) ((uz 61 (by decide)).trans h3) ((uz _ (by decide)).trans hL) ((uz _ (by decide)).trans hl) ((uz _ (by decide)).trans hS1) ((uz _ (by decide)).trans hm) t9 (by omega) (by omega) (by omega) (by rw [← em, tF]; exact hlast)
          rw [← em] at hw
          exact hw
      refine p_go [40] 40 ?_
      simp only [st_0, st_1, st_2, st_3, st_4, st_5, st_6, st_7, st_8, st_9, st_10, st_11, st_12, st_13, st_14, st_15, st_16, st_17, st_18, st_19, st_20, st_21, st_22, st_23, st_24, st_25, st_26, st_27, st_28, st_29, st_30, st_31, st_32, st_33, st_34, st_34a, st_35, st_36, st_37, st_38, st_39, st_42, st_44, st_45, st_47, st_40, st_41, st_46, st_48, st_49, st_43, go_0, go_s, cut_0, cut_s, get_0, get_s, put_0, put_1, put_s, clr_0, clr_s, unl_i, unl_l, unl_r, unl_n, nth_0, nth_s, sf_0, sf_s, cnd_0, cnd_1, cnd_2, cnd_3, cnd_4, cnd_5, fit_0, fit_1, fit_2, en_0, en_i, en_l, en_r, kb_t, kb_f, kb_n, sw_0, sw_s, ↓reduceIte, Nat.reduceEqDiff, Nat.left_eq_add, Nat.add_eq_left, Nat.add_left_cancel_iff, Nat.reduceAdd, Int.reduceLT, Int.reduceLE, Int.reduceAdd, Int.reduceSub, Int.reduceNeg, Int.reduceMul, Int.reduceToNat, Int.reduceEq, reduceCtorEq, true_and, and_true, true_or, or_true, and_false, false_and, or_false, false_or, not_true_eq_false, not_false_eq_true, Nat.le_refl, and_self, Sum.inl.injEq, Sum.inr.injEq, Option.some.injEq, hS_2, k_isref, pd_0, pd_s, List.cons_append, List.nil_append, Option.toList_none, Option.toList_some, tX12_rule, rX12_rule]
      refine k_brI (fun w1 => fin (by omega) w1) (fun w1 => c1 q1 (fun w => by omega))
    · cases v3
      refine p_go [] 40 ?_
      simp only [st_0, st_1, st_2, st_3, st_4, st_5, st_6, st_7, st_8, st_9, st_10, st_11, st_12, st_13, st_14, st_15, st_16, st_17, st_18, st_19, st_20, st_21, st_22, st_23, st_24, st_25, st_26, st_27, st_28, st_29, st_30, st_31, st_32, st_33, st_34, st_34a, st_35, st_36, st_37, st_38, st_39, st_42, st_44, st_45, st_47, st_40, st_41, st_46, st_48, st_49, st_43, go_0, go_s, cut_0, cut_s, get_0, get_s, put_0, put_1, put_s, clr_0, clr_s, unl_i, unl_l, unl_r, unl_n, nth_0, nth_s, sf_0, sf_s, cnd_0, cnd_1, cnd_2, cnd_3, cnd_4, cnd_5, fit_0, fit_1, fit_2, en_0, en_i, en_l, en_r, kb_t, kb_f, kb_n, sw_0, sw_s, ↓reduceIte, Nat.reduceEqDiff, Nat.left_eq_add, Nat.add_eq_left, Nat.add_left_cancel_iff, Nat.reduceAdd, Int.reduceLT, Int.reduceLE, Int.reduceAdd, Int.reduceSub, Int.reduceNeg, Int.reduceMul, Int.reduceToNat, Int.reduceEq, reduceCtorEq, true_and, and_true, true_or, or_true, and_false, false_and, or_false, false_or, not_true_eq_false, not_false_eq_true, Nat.le_refl, and_self, Sum.inl.injEq, Sum.inr.injEq, Option.some.injEq, hS_2, k_isref, pd_0, pd_s, List.cons_append, List.nil_append, Option.toList_none, Option.toList_some, tX12_rule, rX12_rule]
      exact c1 q1 (fun w => v2 w.1)
end Mrule64
