/-! the reference: chooses -/
section Mcho73
variable {x : Bool} {d : Nat} {h h0 : PH} {s C : F_} {P : PO → PH → Prop}
/-- least, one slot against those behind it -/
def lvT (F ch : F_) (a : Nat) : Nat → Nat → Int → Int
  | 0, _, l => l
  | j + 1, t, l => lvT F ch a j (t + 1) (if l < 0 ∨ F (32 * (4 * a + (ch a).toNat) + (4 * t + (ch t).toNat)) < l then F (32 * (4 * a + (ch a).toNat) + (4 * t + (ch t).toNat)) else l)
def lvS (F ch : F_) (sz : Nat) : Nat → Nat → Int → Int
  | 0, _, l => l
  | j + 1, a, l => lvS F ch sz j (a + 1) (lvT F ch a (sz - (a + 1)) (a + 1) l)
def lv (F : F_) (sz : Nat) (ch : F_) : Int := lvS F ch sz sz 0 (-1)
def updM (F : F_) (sz : Nat) (ch : F_) (T : Int × F_) : Int × F_ := if T.1 < lv F sz ch then (lv F sz ch, va_cpy ch T.2 0 0 sz) else T
def fldL (rc : F_ → Int × F_ → Int × F_) (slot : Nat) (ch : F_) : Nat → Nat → Int × F_ → Int × F_
  | 0, _, T => T
  | j + 1, w, T => fldL rc slot ch j (w + 1) (rc (fS ch slot w) T)
def fldM (F : F_) (sz : Nat) (SW : F_) : Nat → Nat → F_ → Int × F_ → Int × F_
  | 0, _, ch, T => updM F sz ch T
  | n + 1, slot, ch, T => fldL (fldM F sz SW n (slot + 1)) slot ch (SW slot).toNat 0 T
variable {F SW : F_} {sz : Nat}
/-- the heap while it is chosen -/
abbrev chH (h : PH) (ch bs : F_) : PH := hS (hS h 89 (cI 8 ch)) 90 (cI 8 bs)
theorem chH_n {ch bs : F_} {z : Nat} (h1 : z ≠ 89) (h2 : z ≠ 90) : (chH h ch bs).2 z = h.2 z := (hS_n h2).trans (hS_n h1)
theorem chH_104 {ch bs : F_} : (chH h ch bs).2 89 = some (cI 8 ch) := (hS_n (by decide)).trans (hS_s _ _ _)
theorem chH_105 {ch bs : F_} : (chH h ch bs).2 90 = some (cI 8 bs) := hS_s _ _ _
theorem chH_c {ch bs ch' : F_} : hS (chH h ch bs) 89 (cI 8 ch') = chH h ch' bs := by
  unfold chH
  rw [hS_c (a := 90) (b := 89) (by decide), hS_hS]
theorem chH_b {ch bs bs' : F_} : hS (chH h ch bs) 90 (cI 8 bs') = chH h ch bs' := hS_hS
set_option maxRecDepth 100000 in
set_option maxHeartbeats 4000000 in
theorem w_lvT {can wo mo_ : Int} {a : Nat} {ch : F_} (h1 : h.2 57 = some (mO s)) (h103 : h.2 88 = some (cI 1024 F)) (h104 : h.2 89 = some (cI 8 ch)) (h52 : s 52 = sz) (hsz : sz ≤ 8) (ha : a < sz) (hch : ∀ i, i < sz → 0 ≤ ch i ∧ ch i < 4)
    {L : Int} (kk : k_Wp x d 0 0 mX12_chooses P 0 0 281 [some (vR 57), some (vI can), some (vI wo), some (vI mo_), some (vI L), some (vI a), none, none] [] h) : ∀ (j t : Nat) (l : Int), t + j = sz → lvT F ch a j t l = L →
    k_Wp x d 0 0 mX12_chooses P 0 0 210 [some (vR 57), some (vI can), some (vI wo), some (vI mo_), some (vI l), some (vI a), some (vI t), none] [] h := by
  intro j
  induction j with
  | zero =>
    intro t l ht he
    have he : l = L := he
    subst he
    have e1 : s 52 ≤ (t : Int) := by omega
    refine p_go [281] 40 ?_
    simp only [st_0, st_1, st_2, st_3, st_4, st_5, st_6, st_7, st_8, st_9, st_10, st_11, st_12, st_13, st_14, st_15, st_16, st_17, st_18, st_19, st_20, st_21, st_22, st_23, st_24, st_25, st_26, st_27, st_28, st_29, st_30, st_31, st_32, st_33, st_34, st_34a, st_35, st_36, st_37, st_38, st_39, st_42, st_44, st_45, st_47, st_40, st_41, st_46, st_48, st_49, st_43, go_0, go_s, cut_0, cut_s, get_0, get_s, put_0, put_1, put_s, clr_0, clr_s, unl_i, unl_l, unl_r, unl_n, nth_0, nth_s, sf_0, sf_s, cnd_0, cnd_1, cnd_2, cnd_3, cnd_4, cnd_5, fit_0, fit_1, fit_2, en_0, en_i, en_l, en_r, kb_t, kb_f, kb_n, sw_0, sw_s, ↓reduceIte, Nat.reduceEqDiff, Nat.left_eq_add, Nat.add_eq_left, Nat.add_left_cancel_iff, Nat.reduceAdd, Int.reduceLT, Int.reduceLE, Int.reduceAdd, Int.reduceSub, Int.reduceNeg, Int.reduceMul, Int.reduceToNat, Int.reduceEq, reduceCtorEq, true_and, and_true, true_or, or_true, and_false, false_and, or_false, false_or, not_true_eq_false, not_false_eq_true, Nat.le_refl, and_self, Sum.inl.injEq, Sum.inr.injEq, Option.some.injEq, hS_2, k_isref, pd_0, pd_s, List.cons_append, List.nil_append, Option.toList_none, Option.toList_some, tX12_chooses, rX12_chooses, h1, e1]
    exact p_sub (by (repeat (first | exact le_nil | refine le_s ?_ | refine le_n ?_))) kk
  | succ j ih =>
    intro t l ht he
    have e1 : ¬ s 52 ≤ (t : Int) := by omega
    have b1 := hch a ha
    have b2 := hch t (by omega)
    have e2 : ((32 : Int) * (4 * (a : Int) + ch a) + 4 * (t : Int) + ch t).toNat = 32 * (4 * a + (ch a).toNat) + (4 * t + (ch t).toNat) := by omega
    unfold lvT at he
    refine p_go [210] 60 ?_
    simp only [st_0, st_1, st_2, st_3, st_4, st_5, st_6, st_7, st_8, st_9, st_10, st_11, st_12, st_13, st_14, st_15, st_16, st_17, st_18, st_19, st_20, st_21, st_22, st_23, st_24, st_25, st_26, st_27, st_28, st_29, st_30, st_31, st_32, st_33, st_34, st_34a, st_35, st_36, st_37, st_38, st_39, st_42, st_44, st_45, st_47, st_40, st_41, st_46, st_48, st_49, st_43, go_0, go_s, cut_0, cut_s, get_0, get_s, put_0, put_1, put_s, clr_0, clr_s, unl_i, unl_l, unl_r, unl_n, nth_0, nth_s, sf_0, sf_s, cnd_0, cnd_1, cnd_2, cnd_3, cnd_4, cnd_5, fit_0, fit_1, fit_2, en_0, en_i, en_l, en_r, kb_t, kb_f, kb_n, sw_0, sw_s, ↓reduceIte, Nat.reduceEqDiff, Nat.left_eq_add, Nat.add_eq_left, Nat.add_left_cancel_iff, Nat.reduceAdd, Int.reduceLT, Int.reduceLE, Int.reduceAdd, Int.reduceSub, Int.reduceNeg, Int.reduceMul, Int.reduceToNat, Int.reduceEq, reduceCtorEq, true_and, and_true, true_or, or_true, and_false, false_and, or_false, false_or, not_true_eq_false, not_false_eq_true, Nat.le_refl, and_self, Sum.inl.injEq, Sum.inr.injEq, Option.some.injEq, hS_2, k_isref, pd_0, pd_s, List.cons_append, List.nil_append, Option.toList_none, Option.toList_some, tX12_chooses, rX12_chooses, h1, h103, h104, e1, e2, nat1, Int.toNat_natCast]
    repeat (first | refine ⟨⟨by omega, by omega⟩, ?_⟩)
    generalize F (32 * (4 * a + (ch a).toNat) + (4 * t + (ch t).toNat)) = v at he ⊢
    by_cases hv : l < 0 ∨ v < l
    · rw [if_pos hv] at he
      have hl := ih (t + 1) v (by omega) he
      exact k_brI (fun g => ⟨⟨by omega, by omega⟩, p_sub (by (repeat (first | exact le_nil | refine le_s ?_ | refine le_n ?_))) hl⟩) (fun g => k_brI (fun g2 => by omega) (fun g2 => ⟨⟨by omega, by omega⟩, p_sub (by (repeat (first | exact le_nil | refine le_s ?_ | refine le_n ?_))) hl⟩))
    · rw [if_neg hv] at he
      have hl := ih (t + 1) l (by omega) he
      exact k_brI (fun g => by omega) (fun g => k_brI (fun g2 => ⟨⟨by omega, by omega⟩, p_sub (by (repeat (first | exact le_nil | refine le_s ?_ | refine le_n ?_))) hl⟩) (fun g2 => by omega))
set_option maxRecDepth 100000 in
set_option maxHeartbeats 4000000 in
theorem w_lvS {can wo mo_ : Int} {ch : F_} (h1 : h.2 57 = some (mO s)) (h103 : h.2 88 = some (cI 1024 F)) (h104 : h.2 89 = some (cI 8 ch)) (h52 : s 52 = sz) (hsz : sz ≤ 8) (hch : ∀ i, i < sz → 0 ≤ ch i ∧ ch i < 4)
    {L : Int} (kk : k_Wp x d 0 0 mX12_chooses P 0 0 287 [some (vR 57), some (vI can), some (vI wo), some (vI mo_), some (vI L), none, none, none] [] h) : ∀ (j a : Nat) (l : Int), a + j = sz → lvS F ch sz j a l = L →
    k_Wp x d 0 0 mX12_chooses P 0 0 195 [some (vR 57), some (vI can), some (vI wo), some (vI mo_), some (vI l), some (vI a), none, none] [] h := by
  intro j
  induction j with
  | zero =>
    intro a l ht he
    have he : l = L := he
    subst he
    have e1 : s 52 ≤ (a : Int) := by omega
    refine p_go [287] 40 ?_
    simp only [st_0, st_1, st_2, st_3, st_4, st_5, st_6, st_7, st_8, st_9, st_10, st_11, st_12, st_13, st_14, st_15, st_16, st_17, st_18, st_19, st_20, st_21, st_22, st_23, st_24, st_25, st_26, st_27, st_28, st_29, st_30, st_31, st_32, st_33, st_34, st_34a, st_35, st_36, st_37, st_38, st_39, st_42, st_44, st_45, st_47, st_40, st_41, st_46, st_48, st_49, st_43, go_0, go_s, cut_0, cut_s, get_0, get_s, put_0, put_1, put_s, clr_0, clr_s, unl_i, unl_l, unl_r, unl_n, nth_0, nth_s, sf_0, sf_s, cnd_0, cnd_1, cnd_2, cnd_3, cnd_4, cnd_5, fit_0, fit_1, fit_2, en_0, en_i, en_l, en_r, kb_t, kb_f, kb_n, sw_0, sw_s, ↓reduceIte, Nat.reduceEqDiff, Nat.left_eq_add, Nat.add_eq_left, Nat.add_left_cancel_iff, Nat.reduceAdd, Int.reduceLT, Int.reduceLE, Int.reduceAdd, Int.reduceSub, Int.reduceNeg, Int.reduceMul, Int.reduceToNat, Int.reduceEq, reduceCtorEq, true_and, and_true, true_or, or_true, and_false, false_and, or_false, false_or, not_true_eq_false, not_false_eq_true, Nat.le_refl, and_self, Sum.inl.injEq, Sum.inr.injEq, Option.some.injEq, hS_2, k_isref, pd_0, pd_s, List.cons_append, List.nil_append, Option.toList_none, Option.toList_some, tX12_chooses, rX12_chooses, h1, e1]
    exact p_sub (by (repeat (first | exact le_nil | refine le_s ?_ | refine le_n ?_))) kk
  | succ j ih =>
    intro a l ht he
    have e1 : ¬ s 52 ≤ (a : Int) := by omega
    unfold lvS at he
    refine p_go [210] 40 ?_
    simp only [st_0, st_1, st_2, st_3, st_4, st_5, st_6, st_7, st_8, st_9, st_10, st_11, st_12, st_13, st_14, st_15, st_16, st_17, st_18, st_19, st_20, st_21, st_22, st_23, st_24, st_25, st_26, st_27, st_28, st_29, st_30, st_31, st_32, st_33, st_34, st_34a, st_35, st_36, st_37, st_38, st_39, st_42, st_44, st_45, st_47, st_40, st_41, st_46, st_48, st_49, st_43, go_0, go_s, cut_0, cut_s, get_0, get_s, put_0, put_1, put_s, clr_0, clr_s, unl_i, unl_l, unl_r, unl_n, nth_0, nth_s, sf_0, sf_s, cnd_0, cnd_1, cnd_2, cnd_3, cnd_4, cnd_5, fit_0, fit_1, fit_2, en_0, en_i, en_l, en_r, kb_t, kb_f, kb_n, sw_0, sw_s, ↓reduceIte, Nat.reduceEqDiff, Nat.left_eq_add, Nat.add_eq_left, Nat.add_left_cancel_iff, Nat.reduceAdd, Int.reduceLT, Int.reduceLE, Int.reduceAdd, Int.reduceSub, Int.reduceNeg, Int.reduceMul, Int.reduceToNat, Int.reduceEq, reduceCtorEq, true_and, and_true, true_or, or_true, and_false, false_and, or_false, false_or, not_true_eq_false, not_false_eq_true, Nat.le_refl, and_self, Sum.inl.injEq, Sum.inr.injEq, Option.some.injEq, hS_2, k_isref, pd_0, pd_s, List.cons_append, List.nil_append, Option.toList_none, Option.toList_some, tX12_chooses, rX12_chooses, h1, e1, nat1]
    refine ⟨⟨by omega, by omega⟩, ?_⟩
    refine w_lvT h1 h103 h104 h52 hsz (by omega) hch (L := lvT F ch a (sz - (a + 1)) (a + 1) l) (p_go [195] 40 ?_) (sz - (a + 1)) (a + 1) l (by omega) rfl
    simp only [st_0, st_1, st_2, st_3, st_4, st_5, st_6, st_7, st_8, st_9, st_10, st_11, st_12, st_13, st_14, st_15, st_16, st_17, st_18, st_19, st_20, st_21, st_22, st_23, st_24, st_25, st_26, st_27, st_28, st_29, st_30, st_31, st_32, st_33, st_34, st_34a, st_35, st_36, st_37, st_38, st_39, st_42, st_44, st_45, st_47, st_40, st_41, st_46, st_48, st_49, st_43, go_0, go_s, cut_0, cut_s, get_0, get_s, put_0, put_1, put_s, clr_0, clr_s, unl_i, unl_l, unl_r, unl_n, nth_0, nth_s, sf_0, sf_s, cnd_0, cnd_1, cnd_2, cnd_3, cnd_4, cnd_5, fit_0, fit_1, fit_2, en_0, en_i, en_l, en_r, kb_t, kb_f, kb_n, sw_0, sw_s, ↓reduceIte, Nat.reduceEqDiff, Nat.left_eq_add, Nat.add_eq_left, Nat.add_left_cancel_iff, Nat.reduceAdd, Int.reduceLT, Int.reduceLE, Int.reduceAdd, Int.reduceSub, Int.reduceNeg, Int.reduceMul, Int.reduceToNat, Int.reduceEq, reduceCtorEq, true_and, and_true, true_or, or_true, and_false, false_and, or_false, false_or, not_true_eq_false, not_false_eq_true, Nat.le_refl, and_self, Sum.inl.injEq, Sum.inr.injEq, Option.some.injEq, hS_2, k_isref, pd_0, pd_s, List.cons_append, List.nil_append, Option.toList_none, Option.toList_some, tX12_chooses, rX12_chooses, nat1]
    exact ⟨⟨by omega, by omega⟩, p_sub (by (repeat (first | exact le_nil | refine le_s ?_ | refine le_n ?_))) (ih (a + 1) _ (by omega) he)⟩
set_option maxRecDepth 100000 in
set_option maxHeartbeats 4000000 in
theorem w_bst {can wo mo_ L : Int} {ch bs : F_} (h1 : h.2 57 = some (mO s)) (h52 : s 52 = sz) (hsz : sz ≤ 8)
    (kk : k_Wp x d 0 0 mX12_chooses P 0 0 328 [some (vR 57), some (vI can), some (vI wo), some (vI mo_), some (vI L), none, none, none] [] (chH h ch (va_cpy ch bs 0 0 sz))) : ∀ (j a : Nat), a + j = sz →
    k_Wp x d 0 0 mX12_chooses P 0 0 299 [some (vR 57), some (vI can), some (vI wo), some (vI mo_), some (vI L), some (vI a), none, none] [] (chH h ch (va_cpy ch bs 0 0 a)) := by
  intro j
  induction j with
  | zero =>
    intro a ha
    have e1 : s 52 ≤ (a : Int) := by omega
    have k1 := (chH_n (h := h) (ch := ch) (bs := va_cpy ch bs 0 0 a) (z := 57) (by decide) (by decide)).trans h1
    rw [show sz = a by omega] at kk
    generalize chH h ch (va_cpy ch bs 0 0 a) = h3 at k1 kk ⊢
    refine p_go [328] 40 ?_
    simp only [st_0, st_1, st_2, st_3, st_4, st_5, st_6, st_7, st_8, st_9, st_10, st_11, st_12, st_13, st_14, st_15, st_16, st_17, st_18, st_19, st_20, st_21, st_22, st_23, st_24, st_25, st_26, st_27, st_28, st_29, st_30, st_31, st_32, st_33, st_34, st_34a, st_35, st_36, st_37, st_38, st_39, st_42, st_44, st_45, st_47, st_40, st_41, st_46, st_48, st_49, st_43, go_0, go_s, cut_0, cut_s, get_0, get_s, put_0, put_1, put_s, clr_0, clr_s, unl_i, unl_l, unl_r, unl_n, nth_0, nth_s, sf_0, sf_s, cnd_0, cnd_1, cnd_2, cnd_3, cnd_4, cnd_5, fit_0, fit_1, fit_2, en_0, en_i, en_l, en_r, kb_t, kb_f, kb_n, sw_0, sw_s, ↓reduceIte, Nat.reduceEqDiff, Nat.left_eq_add, Nat.add_eq_left, Nat.add_left_cancel_iff, Nat.reduceAdd, Int.reduceLT, Int.reduceLE, Int.reduceAdd, Int.reduceSub, Int.reduceNeg, Int.reduceMul, Int.reduceToNat, Int.reduceEq, reduceCtorEq, true_and, and_true, true_or, or_true, and_false, false_and, or_false, false_or, not_true_eq_false, not_false_eq_true, Nat.le_refl, and_self, Sum.inl.injEq, Sum.inr.injEq, Option.some.injEq, hS_2, k_isref, pd_0, pd_s, List.cons_append, List.nil_append, Option.toList_none, Option.toList_some, tX12_chooses, rX12_chooses, k1, e1]
    exact p_sub (by (repeat (first | exact le_nil | refine le_s ?_ | refine le_n ?_))) kk
  | succ j ih =>
    intro a ha
    have e1 : ¬ s 52 ≤ (a : Int) := by omega
    have hih := ih (a + 1) (by omega)
    rw [← cpy_s, Nat.zero_add, ← chH_b (bs := va_cpy ch bs 0 0 a)] at hih
    have k1 := (chH_n (h := h) (ch := ch) (bs := va_cpy ch bs 0 0 a) (z := 57) (by decide) (by decide)).trans h1
    have k2 := chH_104 (h := h) (ch := ch) (bs := va_cpy ch bs 0 0 a)
    have k3 := chH_105 (h := h) (ch := ch) (bs := va_cpy ch bs 0 0 a)
    generalize chH h ch (va_cpy ch bs 0 0 a) = h3 at k1 k2 k3 hih ⊢
    refine p_go [299] 40 ?_
    simp only [st_0, st_1, st_2, st_3, st_4, st_5, st_6, st_7, st_8, st_9, st_10, st_11, st_12, st_13, st_14, st_15, st_16, st_17, st_18, st_19, st_20, st_21, st_22, st_23, st_24, st_25, st_26, st_27, st_28, st_29, st_30, st_31, st_32, st_33, st_34, st_34a, st_35, st_36, st_37, st_38, st_39, st_42, st_44, st_45, st_47, st_40, st_41, st_46, st_48, st_49, st_43, go_0, go_s, cut_0, cut_s, get_0, get_s, put_0, put_1, put_s, clr_0, clr_s, unl_i, unl_l, unl_r, unl_n, nth_0, nth_s, sf_0, sf_s, cnd_0, cnd_1, cnd_2, cnd_3, cnd_4, cnd_5, fit_0, fit_1, fit_2, en_0, en_i, en_l, en_r, kb_t, kb_f, kb_n, sw_0, sw_s, ↓reduceIte, Nat.reduceEqDiff, Nat.left_eq_add, Nat.add_eq_left, Nat.add_left_cancel_iff, Nat.reduceAdd, Int.reduceLT, Int.reduceLE, Int.reduceAdd, Int.reduceSub, Int.reduceNeg, Int.reduceMul, Int.reduceToNat, Int.reduceEq, reduceCtorEq, true_and, and_true, true_or, or_true, and_false, false_and, or_false, false_or, not_true_eq_false, not_false_eq_true, Nat.le_refl, and_self, Sum.inl.injEq, Sum.inr.injEq, Option.some.injEq, hS_2, k_isref, pd_0, pd_s, List.cons_append, List.nil_append, Option.toList_none, Option.toList_some, tX12_chooses, rX12_chooses, k1, k2, k3, e1, nat1, Int.toNat_natCast]
    repeat (first | exact p_sub (by (repeat (first | exact le_nil | refine le_s ?_ | refine le_n ?_))) hih | refine ⟨⟨by omega, by omega⟩, ?_⟩)
-- one choice is weighed
set_option maxRecDepth 100000 in
set_option maxHeartbeats 4000000 in
theorem w_chU {can : Int} {ch : F_} {T : Int × F_} (h1 : h.2 57 = some (mO s)) (h103 : h.2 88 = some (cI 1024 F)) (h52 : s 52 = sz) (hsz : sz ≤ 8) (hs1 : 1 ≤ sz) (hch : ∀ i, i < sz → 0 ≤ ch i ∧ ch i < 4)
    (kk : k_Wp x d 0 0 mX12_chooses P 0 0 336 [some (vR 57), some (vI can), some (vI (updM F sz ch T).1), some (vI 1), none, some (vI ((sz : Int) - 1)), none, none] [] (chH h ch (updM F sz ch T).2)) :
    k_Wp x d 0 0 mX12_chooses P 0 0 185 [some (vR 57), some (vI can), some (vI T.1), some (vI 1), none, none, none, none] [] (chH h ch T.2) := by
  have k1 := (chH_n (h := h) (ch := ch) (bs := T.2) (z := 57) (by decide) (by decide)).trans h1
  have k2 := (chH_n (h := h) (ch := ch) (bs := T.2) (z := 88) (by decide) (by decide)).trans h103
  have k3 := chH_104 (h := h) (ch := ch) (bs := T.2)
  refine p_go [195] 40 ?_
  simp only [st_0, st_1, st_2, st_3, st_4, st_5, st_6, st_7, st_8, st_9, st_10, st_11, st_12, st_13, st_14, st_15, st_16, st_17, st_18, st_19, st_20, st_21, st_22, st_23, st_24, st_25, st_26, st_27, st_28, st_29, st_30, st_31, st_32, st_33, st_34, st_34a, st_35, st_36, st_37, st_38, st_39, st_42, st_44, st_45, st_47, st_40, st_41, st_46, st_48, st_49, st_43, go_0, go_s, cut_0, cut_s, get_0, get_s, put_0, put_1, put_s, clr_0, clr_s, unl_i, unl_l, unl_r, unl_n, nth_0, nth_s, sf_0, sf_s, cnd_0, cnd_1, cnd_2, cnd_3, cnd_4, cnd_5, fit_0, fit_1, fit_2, en_0, en_i, en_l, en_r, kb_t, kb_f, kb_n, sw_0, sw_s, ↓reduceIte, Nat.reduceEqDiff, Nat.left_eq_add, Nat.add_eq_left, Nat.add_left_cancel_iff, Nat.reduceAdd, Int.reduceLT, Int.reduceLE, Int.reduceAdd, Int.reduceSub, Int.reduceNeg, Int.reduceMul, Int.reduceToNat, Int.reduceEq, reduceCtorEq, true_and, and_true, true_or, or_true, and_false, false_and, or_false, false_or, not_true_eq_false, not_false_eq_true, Nat.le_refl, and_self, Sum.inl.injEq, Sum.inr.injEq, Option.some.injEq, hS_2, k_isref, pd_0, pd_s, List.cons_append, List.nil_append, Option.toList_none, Option.toList_some, tX12_chooses, rX12_chooses]
  refine w_lvS k1 k2 k3 h52 hsz hch (L := lv F sz ch) ?_ sz 0 (-1) (by omega) rfl
  unfold updM at kk
  generalize lv F sz ch = L at kk ⊢
  have go : ∀ (wo : Int) (bs : F_), k_Wp x d 0 0 mX12_chooses P 0 0 336 [some (vR 57), some (vI can), some (vI wo), some (vI 1), none, some (vI ((sz : Int) - 1)), none, none] [] (chH h ch bs) → k_Wp x d 0 0 mX12_chooses P 0 0 328 [some (vR 57), some (vI can), some (vI wo), some (vI 1), some (vI L), none, none, none] [] (chH h ch bs) := by
    intro wo bs hk
    have j1 := (chH_n (h := h) (ch := ch) (bs := bs) (z := 57) (by decide) (by decide)).trans h1
    generalize chH h ch bs = h3 at j1 hk ⊢
    refine p_go [336] 40 ?_
    simp only [st_0, st_1, st_2, st_3, st_4, st_5, st_6, st_7, st_8, st_9, st_10, st_11, st_12, st_13, st_14, st_15, st_16, st_17, st_18, st_19, st_20, st_21, st_22, st_23, st_24, st_25, st_26, st_27, st_28, st_29, st_30, st_31, st_32, st_33, st_34, st_34a, st_35, st_36, st_37, st_38, st_39, st_42, st_44, st_45, st_47, st_40, st_41, st_46, st_48, st_49, st_43, go_0, go_s, cut_0, cut_s, get_0, get_s, put_0, put_1, put_s, clr_0, clr_s, unl_i, unl_l, unl_r, unl_n, nth_0, nth_s, sf_0, sf_s, cnd_0, cnd_1, cnd_2, cnd_3, cnd_4, cnd_5, fit_0, fit_1, fit_2, en_0, en_i, en_l, en_r, kb_t, kb_f, kb_n, sw_0, sw_s, ↓reduceIte, Nat.reduceEqDiff, Nat.left_eq_add, Nat.add_eq_left, Nat.add_left_cancel_iff, Nat.reduceAdd, Int.reduceLT, Int.reduceLE, Int.reduceAdd, Int.reduceSub, Int.reduceNeg, Int.reduceMul, Int.reduceToNat, Int.reduceEq, reduceCtorEq, true_and, and_true, true_or, or_true, and_false, false_and, or_false, false_or, not_true_eq_false, not_false_eq_true, Nat.le_refl, and_self, Sum.inl.injEq, Sum.inr.injEq, Option.some.injEq, hS_2, k_isref, pd_0, pd_s, List.cons_append, List.nil_append, Option.toList_none, Option.toList_some, tX12_chooses, rX12_chooses, j1, h52]
    exact ⟨⟨by omega, by omega⟩, p_sub (by (repeat (first | exact le_nil | refine le_s ?_ | refine le_n ?_))) hk⟩
  by_cases hv : T.1 < L
  · rw [if_pos hv] at kk
    have g1 : ¬ L ≤ T.1 := by omega
    refine p_go [299] 40 ?_
    simp only [st_0, st_1, st_2, st_3, st_4, st_5, st_6, st_7, st_8, st_9, st_10, st_11, st_12, st_13, st_14, st_15, st_16, st_17, st_18, st_19, st_20, st_21, st_22, st_23, st_24, st_25, st_26, st_27, st_28, st_29, st_30, st_31, st_32, st_33, st_34, st_34a, st_35, st_36, st_37, st_38, st_39, st_42, st_44, st_45, st_47, st_40, st_41, st_46, st_48, st_49, st_43, go_0, go_s, cut_0, cut_s, get_0, get_s, put_0, put_1, put_s, clr_0, clr_s, unl_i, unl_l, unl_r, unl_n, nth_0, nth_s, sf_0, sf_s, cnd_0, cnd_1, cnd_2, cnd_3, cnd_4, cnd_5, fit_0, fit_1, fit_2, en_0, en_i, en_l, en_r, kb_t, kb_f, kb_n, sw_0, sw_s, ↓reduceIte, Nat.reduceEqDiff, Nat.left_eq_add, Nat.add_eq_left, Nat.add_left_cancel_iff, Nat.reduceAdd, Int.reduceLT, Int.reduceLE, Int.reduceAdd, Int.reduceSub, Int.reduceNeg, Int.reduceMul, Int.reduceToNat, Int.reduceEq, reduceCtorEq, true_and, and_true, true_or, or_true, and_false, false_and, or_false, false_or, not_true_eq_false, not_false_eq_true, Nat.le_refl, and_self, Sum.inl.injEq, Sum.inr.injEq, Option.some.injEq, hS_2, k_isref, pd_0, pd_s, List.cons_append, List.nil_append, Option.toList_none, Option.toList_some, tX12_chooses, rX12_chooses, g1]
    have hw := w_bst (x := x) (d := d) (P := P) (can := can) (wo := L) (mo_ := 1) (L := L) (ch := ch) (bs := T.2) h1 h52 hsz (go L _ kk) sz 0 (by omega)
    rw [cpy_0] at hw
    exact hw
  · rw [if_neg hv] at kk
    have g1 : L ≤ T.1 := by omega
    refine p_go [328] 40 ?_
    simp only [st_0, st_1, st_2, st_3, st_4, st_5, st_6, st_7, st_8, st_9, st_10, st_11, st_12, st_13, st_14, st_15, st_16, st_17, st_18, st_19, st_20, st_21, st_22, st_23, st_24, st_25, st_26, st_27, st_28, st_29, st_30, st_31, st_32, st_33, st_34, st_34a, st_35, st_36, st_37, st_38, st_39, st_42, st_44, st_45, st_47, st_40, st_41, st_46, st_48, st_49, st_43, go_0, go_s, cut_0, cut_s, get_0, get_s, put_0, put_1, put_s, clr_0, clr_s, unl_i, unl_l, unl_r, unl_n, nth_0, nth_s, sf_0, sf_s, cnd_0, cnd_1, cnd_2, cnd_3, cnd_4, cnd_5, fit_0, fit_1, fit_2, en_0, en_i, en_l, en_r, kb_t, kb_f, kb_n, sw_0, sw_s, ↓reduceIte, Nat.reduceEqDiff, Nat.left_eq_add, Nat.add_eq_left, Nat.add_left_cancel_iff, Nat.reduceAdd, Int.reduceLT, Int.reduceLE, Int.reduceAdd, Int.reduceSub, Int.reduceNeg, Int.reduceMul, Int.reduceToNat, Int.reduceEq, reduceCtorEq, true_and, and_true, true_or, or_true, and_false, false_and, or_false, false_or, not_true_eq_false, not_false_eq_true, Nat.le_refl, and_self, Sum.inl.injEq, Sum.inr.injEq, Option.some.injEq, hS_2, k_isref, pd_0, pd_s, List.cons_append, List.nil_append, Option.toList_none, Option.toList_some, tX12_chooses, rX12_chooses, g1]
    exact p_sub (by (repeat (first | exact le_nil | refine le_s ?_ | refine le_n ?_))) (go T.1 T.2 kk)
theorem fS_id {f : F_} {i : Nat} {v : Int} (hv : f i = v) : fS f i v = f := by
  funext j
  by_cases e : j = i
  · rw [e, fS_s, hv]
  · exact fS_n e
-- all choices behind a slot are weighed
set_option maxRecDepth 100000 in
set_option maxHeartbeats 4000000 in
theorem w_chF {can : Int} (h1 : h.2 57 = some (mO s)) (h103 : h.2 88 = some (cI 1024 F)) (h102 : h.2 87 = some (cI 8 SW)) (h52 : s 52 = sz) (hsz : sz ≤ 8) (hs1 : 1 ≤ sz) (hSW : ∀ i, i < sz → 1 ≤ SW i ∧ SW i ≤ 4) : ∀ (n slot : Nat) (ch : F_) (T : Int × F_), slot + n = sz → (∀ i, slot ≤ i → i < sz → ch i = 0) → (∀ i, i < slot → 0 ≤ ch i ∧ ch i < SW i) →
    k_Wp x d 0 0 mX12_chooses P 0 0 336 [some (vR 57), some (vI can), some (vI (fldM F sz SW n slot ch T).1), some (vI 1), none, some (vI ((slot : Int) - 1)), none, none] [] (chH h ch (fldM F sz SW n slot ch T).2) →
    k_Wp x d 0 0 mX12_chooses P 0 0 185 [some (vR 57), some (vI can), some (vI T.1), some (vI 1), none, none, none, none] [] (chH h ch T.2) := by
  intro n
  induction n with
  | zero =>
    intro slot ch T hsl hz hp kk
    have e : slot = sz := by omega
    subst e
    exact w_chU h1 h103 h52 hsz hs1 (fun i hi => by have := hp i hi; have := hSW i hi; omega) kk
  | succ n ih =>
    intro slot ch T hsl hz hp kk
    have hws := hSW slot (by omega)
    have go : ∀ (j w : Nat) (T' : Int × F_), w + (j + 1) = (SW slot).toNat → fldL (fldM F sz SW n (slot + 1)) slot ch (j + 1) w T' = fldM F sz SW (n + 1) slot ch T →
        k_Wp x d 0 0 mX12_chooses P 0 0 185 [some (vR 57), some (vI can), some (vI T'.1), some (vI 1), none, none, none, none] [] (chH h (fS ch slot w) T'.2) := by
      intro j
      induction j with
      | zero =>
        intro w T' hw he
        unfold fldL fldL at he
        refine ih (slot + 1) (fS ch slot w) T' (by omega) (fun i i1 i2 => by rw [fS_n (by omega)]; exact hz i (by omega) i2) (fun i hi => ?_) ?_
        · by_cases e : i = slot
          · subst e; rw [fS_s]; omega
          · rw [fS_n e]; exact hp i (by omega)
        · rw [he]
          have k1 := (chH_n (h := h) (ch := fS ch slot w) (bs := (fldM F sz SW (n + 1) slot ch T).2) (z := 57) (by decide) (by decide)).trans h1
          have k2 := (chH_n (h := h) (ch := fS ch slot w) (bs := (fldM F sz SW (n + 1) slot ch T).2) (z := 87) (by decide) (by decide)).trans h102
          have k3 := chH_104 (h := h) (ch := fS ch slot w) (bs := (fldM F sz SW (n + 1) slot ch T).2)
          have e1 : (((slot + 1 : Nat) : Int) - 1) = (slot : Int) := by omega
          have e2 : ¬ (slot : Int) < 0 := by omega
          have e3 : ((w : Int) = SW slot - 1) = True := eq_true (by omega)
          have e4 : (slot : Int) + -1 = (slot : Int) - 1 := by omega
          rw [e1]
          have hch : fS (fS ch slot w) slot 0 = ch := by rw [fS_fS]; exact fS_id (hz slot (Nat.le_refl _) (by omega))
          have kk2 := kk
          rw [← hch, ← chH_c (ch := fS ch slot w)] at kk2
          rw [hch] at kk2
          generalize fldM F sz SW (n + 1) slot ch T = R at kk2 k1 k2 k3 ⊢
          generalize chH h (fS ch slot w) R.2 = h3 at k1 k2 k3 kk2 ⊢
          refine p_go [336] 40 ?_
          simp only [st_0, st_1, st_2, st_3, st_4, st_5, st_6, st_7, st_8, st_9, st_10, st_11, st_12, st_13, st_14, st_15, st_16, st_17, st_18, st_19, st_20, st_21, st_22, st_23, st_24, st_25, st_26, st_27, st_28, st_29, st_30, st_31, st_32, st_33, st_34, st_34a, st_35, st_36, st_37, st_38, st_39, st_42, st_44, st_45, st_47, st_40, st_41, st_46, st_48, st_49, st_43, go_0, go_s, cut_0, cut_s, get_0, get_s, put_0, put_1, put_s, clr_0, clr_s, unl_i, unl_l, unl_r, unl_n, nth_0, nth_s, sf_0, sf_s, cnd_0, cnd_1, cnd_2, cnd_3, cnd_4, cnd_5, fit_0, fit_1, fit_2, en_0, en_i, en_l, en_r, kb_t, kb_f, kb_n, sw_0, sw_s, ↓reduceIte, Nat.reduceEqDiff, Nat.left_eq_add, Nat.add_eq_left, Nat.add_left_cancel_iff, Nat.reduceAdd, Int.reduceLT, Int.reduceLE, Int.reduceAdd, Int.reduceSub, Int.reduceNeg, Int.reduceMul, Int.reduceToNat, Int.reduceEq, reduceCtorEq, true_and, and_true, true_or, or_true, and_false, false_and, or_false, false_or, not_true_eq_false, not_false_eq_true, Nat.le_refl, and_self, Sum.inl.injEq, Sum.inr.injEq, Option.some.injEq, hS_2, k_isref, pd_0, pd_s, List.cons_append, List.nil_append, Option.toList_none, Option.toList_some, tX12_chooses, rX12_chooses, k1, k2, k3, e2, fS_s, e3, e4, Int.toNat_natCast]
          rw [hch]
          (repeat (first | exact kk2 | refine ⟨⟨by omega, by omega⟩, ?_⟩ | refine And.intro (by omega) ?_))
      | succ j ihj =>
        intro w T' hw he
        have he : fldL (fldM F sz SW n (slot + 1)) slot ch (j + 1) (w + 1) (fldM F sz SW n (slot + 1) (fS ch slot w) T') = fldM F sz SW (n + 1) slot ch T := he
        have hnx := ihj (w + 1) _ (by omega) he
        refine ih (slot + 1) (fS ch slot w) T' (by omega) (fun i i1 i2 => by rw [fS_n (by omega)]; exact hz i (by omega) i2) (fun i hi => ?_) ?_
        · by_cases e : i = slot
          · subst e; rw [fS_s]; omega
          · rw [fS_n e]; exact hp i (by omega)
        · generalize fldM F sz SW n (slot + 1) (fS ch slot w) T' = R at hnx ⊢
          have k1 := (chH_n (h := h) (ch := fS ch slot w) (bs := R.2) (z := 57) (by decide) (by decide)).trans h1
          have k2 := (chH_n (h := h) (ch := fS ch slot w) (bs := R.2) (z := 87) (by decide) (by decide)).trans h102
          have k3 := chH_104 (h := h) (ch := fS ch slot w) (bs := R.2)
          have e1 : (((slot + 1 : Nat) : Int) - 1) = (slot : Int) := by omega
          have e2 : ¬ (slot : Int) < 0 := by omega
          have e3 : ((w : Int) = SW slot - 1) = False := eq_false (by omega)
          rw [e1]
          have hch : fS (fS ch slot w) slot ((w + 1 : Nat) : Int) = fS ch slot ((w + 1 : Nat) : Int) := fS_fS
          rw [← hch, ← chH_c (ch := fS ch slot w)] at hnx
          generalize chH h (fS ch slot w) R.2 = h3 at k1 k2 k3 hnx ⊢
          refine p_go [185] 40 ?_
          simp only [st_0, st_1, st_2, st_3, st_4, st_5, st_6, st_7, st_8, st_9, st_10, st_11, st_12, st_13, st_14, st_15, st_16, st_17, st_18, st_19, st_20, st_21, st_22, st_23, st_24, st_25, st_26, st_27, st_28, st_29, st_30, st_31, st_32, st_33, st_34, st_34a, st_35, st_36, st_37, st_38, st_39, st_42, st_44, st_45, st_47, st_40, st_41, st_46, st_48, st_49, st_43, go_0, go_s, cut_0, cut_s, get_0, get_s, put_0, put_1, put_s, clr_0, clr_s, unl_i, unl_l, unl_r, unl_n, nth_0, nth_s, sf_0, sf_s, cnd_0, cnd_1, cnd_2, cnd_3, cnd_4, cnd_5, fit_0, fit_1, fit_2, en_0, en_i, en_l, en_r, kb_t, kb_f, kb_n, sw_0, sw_s, ↓reduceIte, Nat.reduceEqDiff, Nat.left_eq_add, Nat.add_eq_left, Nat.add_left_cancel_iff, Nat.reduceAdd, Int.reduceLT, Int.reduceLE, Int.reduceAdd, Int.reduceSub, Int.reduceNeg, Int.reduceMul, Int.reduceToNat, Int.reduceEq, reduceCtorEq, true_and, and_true, true_or, or_true, and_false, false_and, or_false, false_or, not_true_eq_false, not_false_eq_true, Nat.le_refl, and_self, Sum.inl.injEq, Sum.inr.injEq, Option.some.injEq, hS_2, k_isref, pd_0, pd_s, List.cons_append, List.nil_append, Option.toList_none, Option.toList_some, tX12_chooses, rX12_chooses, k1, k2, k3, e2, fS_s, e3, nat1, Int.toNat_natCast]
          repeat (first | exact p_sub (by (repeat (first | exact le_nil | refine le_s ?_ | refine le_n ?_))) hnx | refine ⟨⟨by omega, by omega⟩, ?_⟩)
    have hg := go ((SW slot).toNat - 1) 0 T (by omega) (by
      show fldL (fldM F sz SW n (slot + 1)) slot ch ((SW slot).toNat - 1 + 1) 0 T = fldL (fldM F sz SW n (slot + 1)) slot ch (SW slot).toNat 0 T
      rw [show (SW slot).toNat - 1 + 1 = (SW slot).toNat by omega])
    rw [fS_id (show ch slot = ((0 : Nat) : Int) from hz slot (Nat.le_refl _) (by omega))] at hg
    exact hg
end Mcho73
