/-! rows of sounds: SpokenDesk$Rows -/
abbrev rI (z : Int) : PO := Sum.inl (some (vI z))
abbrev rR (a : Nat) : PO := Sum.inl (some (vR a))
abbrev rL (z : Int) : PO := Sum.inl (some (vL z))
abbrev rV : PO := Sum.inl none
abbrev cI (n : Nat) (f : Nat → Int) : PC := Sum.inl (0, n, f)
abbrev cO (ci : Nat) (fs : List PV) : PC := Sum.inr (ci, fs)
/-- at q lies a Rows of n rows, w wide: its lengths, its sounds -/
def Rw (h : PH) (q w n : Nat) (lf sf : Nat → Int) : Prop := h.2 q = some (cO 8 [vI w, vR (q + 1), vR (q + 2)]) ∧ h.2 (q + 1) = some (cI n lf) ∧ h.2 (q + 2) = some (cI (n * w) sf)
/-- its numbers are as they should be -/
def RwW (w n : Nat) (lf : Nat → Int) : Prop := (∀ j : Nat, j < n → 0 ≤ lf j ∧ lf j ≤ w) ∧ n * w < 2147483648 ∧ w < 2147483648 ∧ n < 2147483648
theorem mulb {r n w : Nat} (h1 : r < n) : (r : Int) * (w : Int) = ((r * w : Nat) : Int) ∧ r * w + w ≤ n * w := by
  have h3 := Nat.mul_le_mul_right w (show r + 1 ≤ n from h1)
  have h4 : (r + 1) * w = r * w + w := Nat.succ_mul r w
  exact ⟨by simp, by omega⟩
section Rows20
variable {x : Bool} {d : Nat} {h : PH} {q w n r : Nat} {lf sf : Nat → Int}
set_option maxRecDepth 100000 in
set_option maxHeartbeats 4000000 in
theorem e_width (hR : Rw h q w n lf sf) : k_Ev x d 0 0 mX8_width [vR q] h (fun o h' => o = rI w ∧ h' = h) := by
  obtain ⟨h1, h2, h3⟩ := hR
  refine k_enp 0 (Nat.le_of_ble_eq_true rfl) (p_go [] 30 ?_)
  simp only [st_0, st_1, st_2, st_3, st_4, st_5, st_6, st_7, st_8, st_9, st_10, st_11, st_12, st_13, st_14, st_15, st_16, st_17, st_18, st_19, st_20, st_21, st_22, st_23, st_24, st_25, st_26, st_27, st_28, st_29, st_30, st_31, st_32, st_33, st_34, st_34a, st_35, st_36, st_37, st_38, st_39, st_42, st_44, st_45, st_47, st_40, st_41, st_46, st_48, st_49, st_43, go_0, go_s, cut_0, cut_s, get_0, get_s, put_0, put_1, put_s, clr_0, clr_s, unl_i, unl_l, unl_r, unl_n, nth_0, nth_s, sf_0, sf_s, cnd_0, cnd_1, cnd_2, cnd_3, cnd_4, cnd_5, fit_0, fit_1, fit_2, en_0, en_i, en_l, en_r, kb_t, kb_f, kb_n, sw_0, sw_s, ↓reduceIte, Nat.reduceEqDiff, Nat.left_eq_add, Nat.add_eq_left, Nat.add_left_cancel_iff, Nat.reduceAdd, Int.reduceLT, Int.reduceLE, Int.reduceAdd, Int.reduceSub, Int.reduceNeg, Int.reduceMul, Int.reduceToNat, Int.reduceEq, reduceCtorEq, true_and, and_true, true_or, or_true, and_false, false_and, or_false, false_or, not_true_eq_false, not_false_eq_true, Nat.le_refl, and_self, Sum.inl.injEq, Sum.inr.injEq, Option.some.injEq, hS_2, k_isref, pd_0, pd_s, List.cons_append, List.nil_append, Option.toList_none, Option.toList_some, tX8_width, rX8_width, h1, h2, h3]
set_option maxRecDepth 100000 in
set_option maxHeartbeats 4000000 in
theorem e_length (hR : Rw h q w n lf sf) (hr : r < n) : k_Ev x d 0 0 mX8_length [vR q, vI r] h (fun o h' => o = rI (lf r) ∧ h' = h) := by
  obtain ⟨h1, h2, h3⟩ := hR
  refine k_enp 0 (Nat.le_of_ble_eq_true rfl) (p_go [] 30 ?_)
  simp only [st_0, st_1, st_2, st_3, st_4, st_5, st_6, st_7, st_8, st_9, st_10, st_11, st_12, st_13, st_14, st_15, st_16, st_17, st_18, st_19, st_20, st_21, st_22, st_23, st_24, st_25, st_26, st_27, st_28, st_29, st_30, st_31, st_32, st_33, st_34, st_34a, st_35, st_36, st_37, st_38, st_39, st_42, st_44, st_45, st_47, st_40, st_41, st_46, st_48, st_49, st_43, go_0, go_s, cut_0, cut_s, get_0, get_s, put_0, put_1, put_s, clr_0, clr_s, unl_i, unl_l, unl_r, unl_n, nth_0, nth_s, sf_0, sf_s, cnd_0, cnd_1, cnd_2, cnd_3, cnd_4, cnd_5, fit_0, fit_1, fit_2, en_0, en_i, en_l, en_r, kb_t, kb_f, kb_n, sw_0, sw_s, ↓reduceIte, Nat.reduceEqDiff, Nat.left_eq_add, Nat.add_eq_left, Nat.add_left_cancel_iff, Nat.reduceAdd, Int.reduceLT, Int.reduceLE, Int.reduceAdd, Int.reduceSub, Int.reduceNeg, Int.reduceMul, Int.reduceToNat, Int.reduceEq, reduceCtorEq, true_and, and_true, true_or, or_true, and_false, false_and, or_false, false_or, not_true_eq_false, not_false_eq_true, Nat.le_refl, and_self, Sum.inl.injEq, Sum.inr.injEq, Option.some.injEq, hS_2, k_isref, pd_0, pd_s, List.cons_append, List.nil_append, Option.toList_none, Option.toList_some, tX8_length, rX8_length, h1, h2, h3, Int.toNat_natCast]
  (repeat' (first | refine k_brI (fun _ => ?_) (fun _ => ?_) | refine And.intro ?_ ?_))
  all_goals omega
set_option maxRecDepth 100000 in
set_option maxHeartbeats 4000000 in
theorem e_at (hR : Rw h q w n lf sf) (hW : RwW w n lf) (hr : r < n) (i : Int) : k_Ev x d 0 0 mX8_at [vR q, vI r, vI i] h (fun o h' => o = rI (if 0 ≤ i ∧ i < lf r then sf (r * w + i.toNat) else -1) ∧ h' = h) := by
  obtain ⟨h1, h2, h3⟩ := hR
  obtain ⟨w1, w2, w3, w4⟩ := hW
  obtain ⟨m1, m2⟩ := mulb (w := w) hr
  have hl1 := w1 r hr
  refine k_enp 0 (Nat.le_of_ble_eq_true rfl) (p_go [] 40 ?_)
  simp only [st_0, st_1, st_2, st_3, st_4, st_5, st_6, st_7, st_8, st_9, st_10, st_11, st_12, st_13, st_14, st_15, st_16, st_17, st_18, st_19, st_20, st_21, st_22, st_23, st_24, st_25, st_26, st_27, st_28, st_29, st_30, st_31, st_32, st_33, st_34, st_34a, st_35, st_36, st_37, st_38, st_39, st_42, st_44, st_45, st_47, st_40, st_41, st_46, st_48, st_49, st_43, go_0, go_s, cut_0, cut_s, get_0, get_s, put_0, put_1, put_s, clr_0, clr_s, unl_i, unl_l, unl_r, unl_n, nth_0, nth_s, sf_0, sf_s, cnd_0, cnd_1, cnd_2, cnd_3, cnd_4, cnd_5, fit_0, fit_1, fit_2, en_0, en_i, en_l, en_r, kb_t, kb_f, kb_n, sw_0, sw_s, ↓reduceIte, Nat.reduceEqDiff, Nat.left_eq_add, Nat.add_eq_left, Nat.add_left_cancel_iff, Nat.reduceAdd, Int.reduceLT, Int.reduceLE, Int.reduceAdd, Int.reduceSub, Int.reduceNeg, Int.reduceMul, Int.reduceToNat, Int.reduceEq, reduceCtorEq, true_and, and_true, true_or, or_true, and_false, false_and, or_false, false_or, not_true_eq_false, not_false_eq_true, Nat.le_refl, and_self, Sum.inl.injEq, Sum.inr.injEq, Option.some.injEq, hS_2, k_isref, pd_0, pd_s, List.cons_append, List.nil_append, Option.toList_none, Option.toList_some, tX8_at, rX8_at, h1, h2, h3, Int.toNat_natCast, m1]
  (repeat' (first | refine k_brI (fun _ => ?_) (fun _ => ?_) | refine And.intro ?_ ?_))
  all_goals try omega
  all_goals first | (rw [if_pos (by omega)]; congr 1; omega) | (rw [if_neg (by omega)])
set_option maxRecDepth 100000 in
set_option maxHeartbeats 4000000 in
theorem e_clear (hR : Rw h q w n lf sf) (hr : r < n) : k_Ev x d 0 0 mX8_clear [vR q, vI r] h (fun o h' => o = rV ∧ h' = hS h (q + 1) (cI n (fS lf r 0))) := by
  obtain ⟨h1, h2, h3⟩ := hR
  refine k_enp 0 (Nat.le_of_ble_eq_true rfl) (p_go [] 40 ?_)
  simp only [st_0, st_1, st_2, st_3, st_4, st_5, st_6, st_7, st_8, st_9, st_10, st_11, st_12, st_13, st_14, st_15, st_16, st_17, st_18, st_19, st_20, st_21, st_22, st_23, st_24, st_25, st_26, st_27, st_28, st_29, st_30, st_31, st_32, st_33, st_34, st_34a, st_35, st_36, st_37, st_38, st_39, st_42, st_44, st_45, st_47, st_40, st_41, st_46, st_48, st_49, st_43, go_0, go_s, cut_0, cut_s, get_0, get_s, put_0, put_1, put_s, clr_0, clr_s, unl_i, unl_l, unl_r, unl_n, nth_0, nth_s, sf_0, sf_s, cnd_0, cnd_1, cnd_2, cnd_3, cnd_4, cnd_5, fit_0, fit_1, fit_2, en_0, en_i, en_l, en_r, kb_t, kb_f, kb_n, sw_0, sw_s, ↓reduceIte, Nat.reduceEqDiff, Nat.left_eq_add, Nat.add_eq_left, Nat.add_left_cancel_iff, Nat.reduceAdd, Int.reduceLT, Int.reduceLE, Int.reduceAdd, Int.reduceSub, Int.reduceNeg, Int.reduceMul, Int.reduceToNat, Int.reduceEq, reduceCtorEq, true_and, and_true, true_or, or_true, and_false, false_and, or_false, false_or, not_true_eq_false, not_false_eq_true, Nat.le_refl, and_self, Sum.inl.injEq, Sum.inr.injEq, Option.some.injEq, hS_2, k_isref, pd_0, pd_s, List.cons_append, List.nil_append, Option.toList_none, Option.toList_some, tX8_clear, rX8_clear, h1, h2, h3, Int.toNat_natCast]
  (repeat' (first | refine k_brI (fun _ => ?_) (fun _ => ?_) | refine And.intro ?_ ?_))
  all_goals omega
set_option maxRecDepth 100000 in
set_option maxHeartbeats 4000000 in
theorem e_add (hR : Rw h q w n lf sf) (hW : RwW w n lf) (hr : r < n) (v : Int) : k_Ev x d 0 0 mX8_add [vR q, vI r, vI v] h (fun o h' => if lf r < w then o = rI 1 ∧ h' = hS (hS h (q + 2) (cI (n * w) (fS sf (r * w + (lf r).toNat) v))) (q + 1) (cI n (fS lf r (lf r + 1))) else o = rI 0 ∧ h' = h) := by
  obtain ⟨h1, h2, h3⟩ := hR
  obtain ⟨w1, w2, w3, w4⟩ := hW
  obtain ⟨m1, m2⟩ := mulb (w := w) hr
  have hl1 := w1 r hr
  refine k_enp 0 (Nat.le_of_ble_eq_true rfl) (p_go [] 60 ?_)
  simp only [st_0, st_1, st_2, st_3, st_4, st_5, st_6, st_7, st_8, st_9, st_10, st_11, st_12, st_13, st_14, st_15, st_16, st_17, st_18, st_19, st_20, st_21, st_22, st_23, st_24, st_25, st_26, st_27, st_28, st_29, st_30, st_31, st_32, st_33, st_34, st_34a, st_35, st_36, st_37, st_38, st_39, st_42, st_44, st_45, st_47, st_40, st_41, st_46, st_48, st_49, st_43, go_0, go_s, cut_0, cut_s, get_0, get_s, put_0, put_1, put_s, clr_0, clr_s, unl_i, unl_l, unl_r, unl_n, nth_0, nth_s, sf_0, sf_s, cnd_0, cnd_1, cnd_2, cnd_3, cnd_4, cnd_5, fit_0, fit_1, fit_2, en_0, en_i, en_l, en_r, kb_t, kb_f, kb_n, sw_0, sw_s, ↓reduceIte, Nat.reduceEqDiff, Nat.left_eq_add, Nat.add_eq_left, Nat.add_left_cancel_iff, Nat.reduceAdd, Int.reduceLT, Int.reduceLE, Int.reduceAdd, Int.reduceSub, Int.reduceNeg, Int.reduceMul, Int.reduceToNat, Int.reduceEq, reduceCtorEq, true_and, and_true, true_or, or_true, and_false, false_and, or_false, false_or, not_true_eq_false, not_false_eq_true, Nat.le_refl, and_self, Sum.inl.injEq, Sum.inr.injEq, Option.some.injEq, hS_2, k_isref, pd_0, pd_s, List.cons_append, List.nil_append, Option.toList_none, Option.toList_some, tX8_add, rX8_add, h1, h2, h3, Int.toNat_natCast, m1]
  have e : (((r * w : Nat) : Int) + lf r).toNat = r * w + (lf r).toNat := by omega
  (repeat' (first | refine k_brI (fun _ => ?_) (fun _ => ?_) | refine And.intro ?_ ?_))
  all_goals try omega
  · rw [if_pos (by omega), e]
  · rw [if_neg (by omega)]; trivial
/-- how much of a row there is room for -/
def jn (w : Nat) (a b : Int) : Int := if (w : Int) - a < b then (w : Int) - a else b
set_option maxRecDepth 100000 in
set_option maxHeartbeats 4000000 in
theorem e_join {q' w' n' r' : Nat} {lf' sf' : Nat → Int} (hR : Rw h q w n lf sf) (hW : RwW w n lf) (hr : r < n) (hR' : Rw h q' w' n' lf' sf') (hW' : RwW w' n' lf') (hr' : r' < n') (hd : 1 ≤ d) (hq : (q' + 2 = q + 2) = False ∧ (q' + 1 = q + 2) = False ∧ (q' = q + 2) = False) :
    k_Ev x d 0 0 mX8_join [vR q, vI r, vR q', vI r'] h (fun o h' => o = rV ∧ h' = hS (hS h (q + 2) (cI (n * w) (va_cpy sf' sf (r' * w') (r * w + (lf r).toNat) (jn w (lf r) (lf' r')).toNat))) (q + 1) (cI n (fS lf r (lf r + jn w (lf r) (lf' r'))))) := by
  obtain ⟨h1, h2, h3⟩ := hR
  obtain ⟨w1, w2, w3, w4⟩ := hW
  obtain ⟨g1, g2, g3⟩ := hR'
  obtain ⟨v1, v2, v3, v4⟩ := hW'
  obtain ⟨m1, m2⟩ := mulb (w := w) hr
  obtain ⟨m1', m2'⟩ := mulb (w := w') hr'
  have hl1 := w1 r hr
  have hl1' := v1 r' hr'
  have e : (((r * w : Nat) : Int) + lf r).toNat = r * w + (lf r).toNat := by omega
  have hj : 0 ≤ jn w (lf r) (lf' r') ∧ jn w (lf r) (lf' r') ≤ lf' r' ∧ jn w (lf r) (lf' r') ≤ w - lf r := by unfold jn; split <;> omega
  refine k_enp 1 (Nat.le_of_ble_eq_true rfl) (p_go [] 60 ?_)
  simp only [st_0, st_1, st_2, st_3, st_4, st_5, st_6, st_7, st_8, st_9, st_10, st_11, st_12, st_13, st_14, st_15, st_16, st_17, st_18, st_19, st_20, st_21, st_22, st_23, st_24, st_25, st_26, st_27, st_28, st_29, st_30, st_31, st_32, st_33, st_34, st_34a, st_35, st_36, st_37, st_38, st_39, st_42, st_44, st_45, st_47, st_40, st_41, st_46, st_48, st_49, st_43, go_0, go_s, cut_0, cut_s, get_0, get_s, put_0, put_1, put_s, clr_0, clr_s, unl_i, unl_l, unl_r, unl_n, nth_0, nth_s, sf_0, sf_s, cnd_0, cnd_1, cnd_2, cnd_3, cnd_4, cnd_5, fit_0, fit_1, fit_2, en_0, en_i, en_l, en_r, kb_t, kb_f, kb_n, sw_0, sw_s, ↓reduceIte, Nat.reduceEqDiff, Nat.left_eq_add, Nat.add_eq_left, Nat.add_left_cancel_iff, Nat.reduceAdd, Int.reduceLT, Int.reduceLE, Int.reduceAdd, Int.reduceSub, Int.reduceNeg, Int.reduceMul, Int.reduceToNat, Int.reduceEq, reduceCtorEq, true_and, and_true, true_or, or_true, and_false, false_and, or_false, false_or, not_true_eq_false, not_false_eq_true, Nat.le_refl, and_self, Sum.inl.injEq, Sum.inr.injEq, Option.some.injEq, hS_2, k_isref, pd_0, pd_s, List.cons_append, List.nil_append, Option.toList_none, Option.toList_some, tX8_join, rX8_join, h1, h2, h3, g1, g2, g3, Int.toNat_natCast, m1, m1']
  (repeat' (first | refine k_brI (fun _ => ?_) (fun _ => ?_) | refine And.intro ?_ ?_))
  all_goals try omega
  all_goals try (show k_cs _ ≤ 40; decide)
  refine p_copy (by rfl) g3 h3 ?_ ?_ ?_ ?_ ?_ hd ?_ (p_go [] 30 ?_)
  · omega
  · omega
  · exact hj.1
  · have := hj.2.1; unfold jn at this; omega
  · have := hj.2.2; unfold jn at this; omega
  · decide
  simp only [st_0, st_1, st_2, st_3, st_4, st_5, st_6, st_7, st_8, st_9, st_10, st_11, st_12, st_13, st_14, st_15, st_16, st_17, st_18, st_19, st_20, st_21, st_22, st_23, st_24, st_25, st_26, st_27, st_28, st_29, st_30, st_31, st_32, st_33, st_34, st_34a, st_35, st_36, st_37, st_38, st_39, st_42, st_44, st_45, st_47, st_40, st_41, st_46, st_48, st_49, st_43, go_0, go_s, cut_0, cut_s, get_0, get_s, put_0, put_1, put_s, clr_0, clr_s, unl_i, unl_l, unl_r, unl_n, nth_0, nth_s, sf_0, sf_s, cnd_0, cnd_1, cnd_2, cnd_3, cnd_4, cnd_5, fit_0, fit_1, fit_2, en_0, en_i, en_l, en_r, kb_t, kb_f, kb_n, sw_0, sw_s, ↓reduceIte, Nat.reduceEqDiff, Nat.left_eq_add, Nat.add_eq_left, Nat.add_left_cancel_iff, Nat.reduceAdd, Int.reduceLT, Int.reduceLE, Int.reduceAdd, Int.reduceSub, Int.reduceNeg, Int.reduceMul, Int.reduceToNat, Int.reduceEq, reduceCtorEq, true_and, and_true, true_or, or_true, and_false, false_and, or_false, false_or, not_true_eq_false, not_false_eq_true, Nat.le_refl, and_self, Sum.inl.injEq, Sum.inr.injEq, Option.some.injEq, hS_2, k_isref, pd_0, pd_s, List.cons_append, List.nil_append, Option.toList_none, Option.toList_some, tX8_join, rX8_join, h1, h2, h3, g1, g2, g3, Int.toNat_natCast, e, jn]
  (repeat' (first | refine k_brI (fun _ => ?_) (fun _ => ?_) | refine And.intro ?_ ?_))
  all_goals first | omega | rfl
theorem Rw.off {a : Nat} {c : PC} (hR : Rw h q w n lf sf) (h1 : a ≠ q) (h2 : a ≠ q + 1) (h3 : a ≠ q + 2) : Rw (hS h a c) q w n lf sf := ⟨(hS_n (Ne.symm h1)).trans hR.1, (hS_n (Ne.symm h2)).trans hR.2.1, (hS_n (Ne.symm h3)).trans hR.2.2⟩
theorem Rw.len {lf2 : Nat → Int} (hR : Rw h q w n lf sf) : Rw (hS h (q + 1) (cI n lf2)) q w n lf2 sf := ⟨(hS_n (by omega)).trans hR.1, hS_s _ _ _, (hS_n (by omega)).trans hR.2.2⟩
theorem Rw.snd {sf2 : Nat → Int} (hR : Rw h q w n lf sf) : Rw (hS h (q + 2) (cI (n * w) sf2)) q w n lf sf2 := ⟨(hS_n (by omega)).trans hR.1, (hS_n (by omega)).trans hR.2.1, hS_s _ _ _⟩
theorem RwW.set {v : Int} (hW : RwW w n lf) (h0 : 0 ≤ v) (h1 : v ≤ w) : RwW w n (fS lf r v) := ⟨fun j hj => by unfold fS; split; exact ⟨h0, h1⟩; exact hW.1 j hj, hW.2⟩
theorem PHx {h h' : PH} (h1 : h.1 = h'.1) (h2 : ∀ b, h.2 b = h'.2 b) : h = h' := Prod.ext h1 (funext h2)
theorem hS_hS {h : PH} {a : Nat} {c c' : PC} : hS (hS h a c) a c' = hS h a c' := by
  unfold hS; congr 1; funext b; simp only []; split <;> rfl
theorem hS_c {h : PH} {a b : Nat} {c c' : PC} (hab : a ≠ b) : hS (hS h a c) b c' = hS (hS h b c') a c := by
  unfold hS; congr 1; funext e; simp only []; split <;> split <;> first | rfl | omega
theorem fS_fS {f : Nat → Int} {i : Nat} {v w : Int} : fS (fS f i v) i w = fS f i w := by
  unfold fS; funext j; split <;> rfl
theorem fS_s {f : Nat → Int} {i : Nat} {v : Int} : fS f i v i = v := by unfold fS; simp
theorem fS_n {f : Nat → Int} {i j : Nat} {v : Int} (h : j ≠ i) : fS f i v j = f j := by unfold fS; simp [h]
set_option maxRecDepth 100000 in
set_option maxHeartbeats 4000000 in
theorem e_copy {q' w' n' r' : Nat} {lf' sf' : Nat → Int} (hR : Rw h q w n lf sf) (hW : RwW w n lf) (hr : r < n) (hR' : Rw h q' w' n' lf' sf') (hW' : RwW w' n' lf') (hr' : r' < n') (hd : 2 ≤ d) (hq : q' + 2 < q ∨ q + 2 < q') :
    k_Ev x d 0 0 mX8_copy [vR q, vI r, vR q', vI r'] h (fun o h' => o = rV ∧ h' = hS (hS h (q + 2) (cI (n * w) (va_cpy sf' sf (r' * w') (r * w) (jn w 0 (lf' r')).toNat))) (q + 1) (cI n (fS lf r (jn w 0 (lf' r'))))) := by
  have hR0 := hR
  obtain ⟨h1, h2, h3⟩ := hR
  refine k_enp 0 (Nat.le_of_ble_eq_true rfl) (p_go [] 60 ?_)
  simp only [st_0, st_1, st_2, st_3, st_4, st_5, st_6, st_7, st_8, st_9, st_10, st_11, st_12, st_13, st_14, st_15, st_16, st_17, st_18, st_19, st_20, st_21, st_22, st_23, st_24, st_25, st_26, st_27, st_28, st_29, st_30, st_31, st_32, st_33, st_34, st_34a, st_35, st_36, st_37, st_38, st_39, st_42, st_44, st_45, st_47, st_40, st_41, st_46, st_48, st_49, st_43, go_0, go_s, cut_0, cut_s, get_0, get_s, put_0, put_1, put_s, clr_0, clr_s, unl_i, unl_l, unl_r, unl_n, nth_0, nth_s, sf_0, sf_s, cnd_0, cnd_1, cnd_2, cnd_3, cnd_4, cnd_5, fit_0, fit_1, fit_2, en_0, en_i, en_l, en_r, kb_t, kb_f, kb_n, sw_0, sw_s, ↓reduceIte, Nat.reduceEqDiff, Nat.left_eq_add, Nat.add_eq_left, Nat.add_left_cancel_iff, Nat.reduceAdd, Int.reduceLT, Int.reduceLE, Int.reduceAdd, Int.reduceSub, Int.reduceNeg, Int.reduceMul, Int.reduceToNat, Int.reduceEq, reduceCtorEq, true_and, and_true, true_or, or_true, and_false, false_and, or_false, false_or, not_true_eq_false, not_false_eq_true, Nat.le_refl, and_self, Sum.inl.injEq, Sum.inr.injEq, Option.some.injEq, hS_2, k_isref, pd_0, pd_s, List.cons_append, List.nil_append, Option.toList_none, Option.toList_some, tX8_copy, rX8_copy, h1]
  refine cV (d' := 0) [vI r] [] l_8_34 h1 (e_clear hR0 hr) (by omega) (p_go [] 30 ?_)
  have h1' : (hS h (q + 1) (cI n (fS lf r 0))).2 q = some (cO 8 [vI w, vR (q + 1), vR (q + 2)]) := (Rw.len hR0).1
  simp only [st_0, st_1, st_2, st_3, st_4, st_5, st_6, st_7, st_8, st_9, st_10, st_11, st_12, st_13, st_14, st_15, st_16, st_17, st_18, st_19, st_20, st_21, st_22, st_23, st_24, st_25, st_26, st_27, st_28, st_29, st_30, st_31, st_32, st_33, st_34, st_34a, st_35, st_36, st_37, st_38, st_39, st_42, st_44, st_45, st_47, st_40, st_41, st_46, st_48, st_49, st_43, go_0, go_s, cut_0, cut_s, get_0, get_s, put_0, put_1, put_s, clr_0, clr_s, unl_i, unl_l, unl_r, unl_n, nth_0, nth_s, sf_0, sf_s, cnd_0, cnd_1, cnd_2, cnd_3, cnd_4, cnd_5, fit_0, fit_1, fit_2, en_0, en_i, en_l, en_r, kb_t, kb_f, kb_n, sw_0, sw_s, ↓reduceIte, Nat.reduceEqDiff, Nat.left_eq_add, Nat.add_eq_left, Nat.add_left_cancel_iff, Nat.reduceAdd, Int.reduceLT, Int.reduceLE, Int.reduceAdd, Int.reduceSub, Int.reduceNeg, Int.reduceMul, Int.reduceToNat, Int.reduceEq, reduceCtorEq, true_and, and_true, true_or, or_true, and_false, false_and, or_false, false_or, not_true_eq_false, not_false_eq_true, Nat.le_refl, and_self, Sum.inl.injEq, Sum.inr.injEq, Option.some.injEq, hS_2, k_isref, pd_0, pd_s, List.cons_append, List.nil_append, Option.toList_none, Option.toList_some, tX8_copy, rX8_copy, h1]
  refine cV (d' := 1) [vI r, vR q', vI r'] [] l_8_38 h1' (e_join (Rw.len hR0) (hW.set (r := r) (Int.le_refl 0) (by omega)) hr (hR'.off (by omega) (by omega) (by omega)) hW' hr' (Nat.le_refl 1) (by simp only [eq_iff_iff, iff_false]; omega)) (by omega) (p_go [] 30 ?_)
  simp only [st_0, st_1, st_2, st_3, st_4, st_5, st_6, st_7, st_8, st_9, st_10, st_11, st_12, st_13, st_14, st_15, st_16, st_17, st_18, st_19, st_20, st_21, st_22, st_23, st_24, st_25, st_26, st_27, st_28, st_29, st_30, st_31, st_32, st_33, st_34, st_34a, st_35, st_36, st_37, st_38, st_39, st_42, st_44, st_45, st_47, st_40, st_41, st_46, st_48, st_49, st_43, go_0, go_s, cut_0, cut_s, get_0, get_s, put_0, put_1, put_s, clr_0, clr_s, unl_i, unl_l, unl_r, unl_n, nth_0, nth_s, sf_0, sf_s, cnd_0, cnd_1, cnd_2, cnd_3, cnd_4, cnd_5, fit_0, fit_1, fit_2, en_0, en_i, en_l, en_r, kb_t, kb_f, kb_n, sw_0, sw_s, ↓reduceIte, Nat.reduceEqDiff, Nat.left_eq_add, Nat.add_eq_left, Nat.add_left_cancel_iff, Nat.reduceAdd, Int.reduceLT, Int.reduceLE, Int.reduceAdd, Int.reduceSub, Int.reduceNeg, Int.reduceMul, Int.reduceToNat, Int.reduceEq, reduceCtorEq, true_and, and_true, true_or, or_true, and_false, false_and, or_false, false_or, not_true_eq_false, not_false_eq_true, Nat.le_refl, and_self, Sum.inl.injEq, Sum.inr.injEq, Option.some.injEq, hS_2, k_isref, pd_0, pd_s, List.cons_append, List.nil_append, Option.toList_none, Option.toList_some, tX8_copy, rX8_copy, h1]
  rw [hS_c (a := q + 1) (b := q + 2) (by omega), hS_hS]
  simp only [fS_s, fS_fS, Int.zero_add, Int.toNat_zero, Nat.add_zero]
end Rows20
