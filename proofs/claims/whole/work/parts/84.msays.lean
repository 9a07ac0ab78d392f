/-! the reference: says; words lie at points that there are -/
section Msays84
variable {x : Bool} {d : Nat} {h h0 : PH} {t : F_} {P : PO → PH → Prop} {pc wc : Nat} {nw wp wq wl ws : F_} {R E : LxT} {f : F_} {en : Nat}
theorem MWd.fr {h' : PH} (hf : ∀ z, z = 57 ∨ (72 ≤ z ∧ z ≤ 75) → h'.2 z = h.2 z) (hM : MWd h t wc wp wq wl ws) : MWd h' t wc wp wq wl ws := by
  obtain ⟨m1, m2, a, b, c, e, n1, n2, n3, n4, n5⟩ := hM
  exact ⟨(hf _ (by omega)).trans m1, m2, a, b, c, e, (hf _ (by omega)).trans n1, (hf _ (by omega)).trans n2, (hf _ (by omega)).trans n3, (hf _ (by omega)).trans n4, n5⟩
theorem cpy_row {np pi : F_} {k : Nat} (hr : ∀ p, p < pc → np (8 * k + p) = nw p) : agr pc (va_cpy np pi (8 * k) 0 pc) nw := by
  intro p hp
  unfold va_cpy
  rw [if_pos (by omega), Nat.sub_zero]
  exact hr p hp
set_option maxRecDepth 100000 in
set_option maxHeartbeats 4000000 in
theorem e_saysN {k : Nat} {np pi : F_} (hM : MWd h t wc wp wq wl ws) (h31 : t 31 = pc) (h98 : h.2 83 = some (cI 960 np)) (h99 : h.2 84 = some (cI 8 pi)) (hk : k < 120) (hpc : pc ≤ 8) (hwc : wc ≤ 20) (hwl : ∀ i, i < wc → 0 ≤ wl i ∧ wl i ≤ 20) (hwp : ∀ i, i < wc → -1 ≤ wp i ∧ wp i < pc) (hr : ∀ p, p < pc → np (8 * k + p) = nw p) (hd : 1 ≤ d) :
    k_Ev x d 0 0 mX12_says [vR 57, vI k, vI (-1)] h (fun o h' => o = rI (smj pc nw wp wq wl wc 0 0) ∧ h' = hS h 84 (cI 8 (va_cpy np pi (8 * k) 0 pc))) := by
  refine k_enp 3 (Nat.le_of_ble_eq_true rfl) (p_go [2] 40 ?_)
  simp only [st_0, st_1, st_2, st_3, st_4, st_5, st_6, st_7, st_8, st_9, st_10, st_11, st_12, st_13, st_14, st_15, st_16, st_17, st_18, st_19, st_20, st_21, st_22, st_23, st_24, st_25, st_26, st_27, st_28, st_29, st_30, st_31, st_32, st_33, st_34, st_34a, st_35, st_36, st_37, st_38, st_39, st_42, st_44, st_45, st_47, st_40, st_41, st_46, st_48, st_49, st_43, go_0, go_s, cut_0, cut_s, get_0, get_s, put_0, put_1, put_s, clr_0, clr_s, unl_i, unl_l, unl_r, unl_n, nth_0, nth_s, sf_0, sf_s, cnd_0, cnd_1, cnd_2, cnd_3, cnd_4, cnd_5, fit_0, fit_1, fit_2, en_0, en_i, en_l, en_r, kb_t, kb_f, kb_n, sw_0, sw_s, ↓reduceIte, Nat.reduceEqDiff, Nat.left_eq_add, Nat.add_eq_left, Nat.add_left_cancel_iff, Nat.reduceAdd, Int.reduceLT, Int.reduceLE, Int.reduceAdd, Int.reduceSub, Int.reduceNeg, Int.reduceMul, Int.reduceToNat, Int.reduceEq, reduceCtorEq, true_and, and_true, true_or, or_true, and_false, false_and, or_false, false_or, not_true_eq_false, not_false_eq_true, Nat.le_refl, and_self, Sum.inl.injEq, Sum.inr.injEq, Option.some.injEq, hS_2, k_isref, pd_0, pd_s, List.cons_append, List.nil_append, Option.toList_none, Option.toList_some, tX12_says, rX12_says]
  have hw := w_sayP (x := x) (d := d) (P := fun o h' => o = rI (smj pc nw wp wq wl wc 0 0) ∧ h' = hS h 84 (cI 8 (va_cpy np pi (8 * k) 0 pc))) (k := k) (to := -1) (pi := pi) hM.1 h31 hpc hk h98 (p_go [38] 40 (by
    simp only [st_0, st_1, st_2, st_3, st_4, st_5, st_6, st_7, st_8, st_9, st_10, st_11, st_12, st_13, st_14, st_15, st_16, st_17, st_18, st_19, st_20, st_21, st_22, st_23, st_24, st_25, st_26, st_27, st_28, st_29, st_30, st_31, st_32, st_33, st_34, st_34a, st_35, st_36, st_37, st_38, st_39, st_42, st_44, st_45, st_47, st_40, st_41, st_46, st_48, st_49, st_43, go_0, go_s, cut_0, cut_s, get_0, get_s, put_0, put_1, put_s, clr_0, clr_s, unl_i, unl_l, unl_r, unl_n, nth_0, nth_s, sf_0, sf_s, cnd_0, cnd_1, cnd_2, cnd_3, cnd_4, cnd_5, fit_0, fit_1, fit_2, en_0, en_i, en_l, en_r, kb_t, kb_f, kb_n, sw_0, sw_s, ↓reduceIte, Nat.reduceEqDiff, Nat.left_eq_add, Nat.add_eq_left, Nat.add_left_cancel_iff, Nat.reduceAdd, Int.reduceLT, Int.reduceLE, Int.reduceAdd, Int.reduceSub, Int.reduceNeg, Int.reduceMul, Int.reduceToNat, Int.reduceEq, reduceCtorEq, true_and, and_true, true_or, or_true, and_false, false_and, or_false, false_or, not_true_eq_false, not_false_eq_true, Nat.le_refl, and_self, Sum.inl.injEq, Sum.inr.injEq, Option.some.injEq, hS_2, k_isref, pd_0, pd_s, List.cons_append, List.nil_append, Option.toList_none, Option.toList_some, tX12_says, rX12_says]
    exact w_sayN (hM.fr (fun z hz => hS_n (by omega))) (hS_s _ _ _) hpc (cpy_row hr) hwc hwl hwp hd wc 0 0 (by omega) (by omega) rfl)) pc 0 (by omega)
  rw [cpy_0, hS_id h99] at hw
  exact hw
set_option maxRecDepth 100000 in
set_option maxHeartbeats 4000000 in
theorem e_saysW {k : Nat} {np pi sd cl cs : F_} (hM : MWd h t wc wp wq wl ws) (h31 : t 31 = pc) (h96 : h.2 81 = some (cI 4800 sd)) (h98 : h.2 83 = some (cI 960 np)) (h99 : h.2 84 = some (cI 8 pi)) (hk : k < 120) (hpc : pc ≤ 8) (hwc : wc ≤ 20) (hwl : ∀ i, i < wc → 0 ≤ wl i ∧ wl i ≤ 20) (hwp : ∀ i, i < wc → -1 ≤ wp i ∧ wp i < pc) (hr : ∀ p, p < pc → np (8 * k + p) = nw p) (hT : smj pc nw wp wq wl wc 0 0 ≤ 40) (hcl : cl k = 0) (hd : 1 ≤ d) :
    k_Ev x d 0 0 mX12_says [vR 57, vI k, vI ((40 * k : Nat) : Int)] h (fun o h' => o = rI (smj pc nw wp wq wl wc 0 0) ∧ ∃ (m : Nat) (sd' : F_), smj pc nw wp wq wl wc 0 0 = m ∧ sayI k m (jwd pc nw wp wq wl ws k wc 0 0 cl cs).2.1 (jwd pc nw wp wq wl ws k wc 0 0 cl cs).2.2 sd' sd ∧ h' = hS (hS h 84 (cI 8 (va_cpy np pi (8 * k) 0 pc))) 81 (cI 4800 sd')) := by
  have hj := jwd_m (pc := pc) (nw := nw) (wp := wp) (wq := wq) (wl := wl) (ws := ws) (k := k) wc 0 0 cl cs
  rw [← hj] at hT ⊢
  refine k_enp 3 (Nat.le_of_ble_eq_true rfl) (p_go [2] 40 ?_)
  simp only [st_0, st_1, st_2, st_3, st_4, st_5, st_6, st_7, st_8, st_9, st_10, st_11, st_12, st_13, st_14, st_15, st_16, st_17, st_18, st_19, st_20, st_21, st_22, st_23, st_24, st_25, st_26, st_27, st_28, st_29, st_30, st_31, st_32, st_33, st_34, st_34a, st_35, st_36, st_37, st_38, st_39, st_42, st_44, st_45, st_47, st_40, st_41, st_46, st_48, st_49, st_43, go_0, go_s, cut_0, cut_s, get_0, get_s, put_0, put_1, put_s, clr_0, clr_s, unl_i, unl_l, unl_r, unl_n, nth_0, nth_s, sf_0, sf_s, cnd_0, cnd_1, cnd_2, cnd_3, cnd_4, cnd_5, fit_0, fit_1, fit_2, en_0, en_i, en_l, en_r, kb_t, kb_f, kb_n, sw_0, sw_s, ↓reduceIte, Nat.reduceEqDiff, Nat.left_eq_add, Nat.add_eq_left, Nat.add_left_cancel_iff, Nat.reduceAdd, Int.reduceLT, Int.reduceLE, Int.reduceAdd, Int.reduceSub, Int.reduceNeg, Int.reduceMul, Int.reduceToNat, Int.reduceEq, reduceCtorEq, true_and, and_true, true_or, or_true, and_false, false_and, or_false, false_or, not_true_eq_false, not_false_eq_true, Nat.le_refl, and_self, Sum.inl.injEq, Sum.inr.injEq, Option.some.injEq, hS_2, k_isref, pd_0, pd_s, List.cons_append, List.nil_append, Option.toList_none, Option.toList_some, tX12_says, rX12_says]
  have hw := w_sayP (x := x) (d := d) (P := fun o h' => o = rI (jwd pc nw wp wq wl ws k wc 0 0 cl cs).1 ∧ ∃ (m : Nat) (sd' : F_), (jwd pc nw wp wq wl ws k wc 0 0 cl cs).1 = m ∧ sayI k m (jwd pc nw wp wq wl ws k wc 0 0 cl cs).2.1 (jwd pc nw wp wq wl ws k wc 0 0 cl cs).2.2 sd' sd ∧ h' = hS (hS h 84 (cI 8 (va_cpy np pi (8 * k) 0 pc))) 81 (cI 4800 sd')) (k := k) (to := ((40 * k : Nat) : Int)) (pi := pi) hM.1 h31 hpc hk h98 (p_go [38] 40 (by
    simp only [st_0, st_1, st_2, st_3, st_4, st_5, st_6, st_7, st_8, st_9, st_10, st_11, st_12, st_13, st_14, st_15, st_16, st_17, st_18, st_19, st_20, st_21, st_22, st_23, st_24, st_25, st_26, st_27, st_28, st_29, st_30, st_31, st_32, st_33, st_34, st_34a, st_35, st_36, st_37, st_38, st_39, st_42, st_44, st_45, st_47, st_40, st_41, st_46, st_48, st_49, st_43, go_0, go_s, cut_0, cut_s, get_0, get_s, put_0, put_1, put_s, clr_0, clr_s, unl_i, unl_l, unl_r, unl_n, nth_0, nth_s, sf_0, sf_s, cnd_0, cnd_1, cnd_2, cnd_3, cnd_4, cnd_5, fit_0, fit_1, fit_2, en_0, en_i, en_l, en_r, kb_t, kb_f, kb_n, sw_0, sw_s, ↓reduceIte, Nat.reduceEqDiff, Nat.left_eq_add, Nat.add_eq_left, Nat.add_left_cancel_iff, Nat.reduceAdd, Int.reduceLT, Int.reduceLE, Int.reduceAdd, Int.reduceSub, Int.reduceNeg, Int.reduceMul, Int.reduceToNat, Int.reduceEq, reduceCtorEq, true_and, and_true, true_or, or_true, and_false, false_and, or_false, false_or, not_true_eq_false, not_false_eq_true, Nat.le_refl, and_self, Sum.inl.injEq, Sum.inr.injEq, Option.some.injEq, hS_2, k_isref, pd_0, pd_s, List.cons_append, List.nil_append, Option.toList_none, Option.toList_some, tX12_says, rX12_says]
    have h96' : (hS h 84 (cI 8 (va_cpy np pi (8 * k) 0 pc))).2 81 = some (cI 4800 sd) := (hS_n (by decide)).trans h96
    have hw2 := w_sayW (x := x) (d := d) (sd0 := sd) hk (hM.fr (h' := hS h 84 (cI 8 (va_cpy np pi (8 * k) 0 pc))) (fun z hz => hS_n (by omega))) (hS_s _ _ _) hpc (cpy_row hr) hwc hwl hwp hd hT wc 0 0 cl cs sd (by omega) ⟨hcl, fun i hi => by omega, fun z hz => rfl⟩ rfl
    rw [hS_id h96'] at hw2
    exact hw2)) pc 0 (by omega)
  rw [cpy_0, hS_id h99] at hw
  exact hw
/-- words lie at points that there are -/
def wpI (S : PS) : Prop := ∀ k, k < S.2.1.1 → -1 ≤ S.2.2.1.2.2.1 k ∧ S.2.2.1.2.2.1 k < S.2.1.2
theorem wpI_open {S : PS} {mb : Int} (hw : wpI S) : wpI (tkOpen mb S).2 := by
  obtain ⟨⟨o, e⟩, ⟨wc, pc⟩, ⟨wl, ws, wp, wq⟩, ⟨op, oq, pt, ob⟩, ⟨lf, sf⟩⟩ := S
  unfold tkOpen
  simp only
  split
  · exact hw
  · intro k hk
    have := hw k hk
    simp only at this ⊢
    omega
theorem wpI_bar {S : PS} (hw : wpI S) : wpI (tkBar S).2 := by
  obtain ⟨⟨o, e⟩, ⟨wc, pc⟩, ⟨wl, ws, wp, wq⟩, ⟨op, oq, pt, ob⟩, ⟨lf, sf⟩⟩ := S
  unfold tkBar
  simp only
  split <;> exact hw
theorem wpI_close {S : PS} {mb : Int} (hw : wpI S) : wpI (tkClose mb S).2 := by
  obtain ⟨⟨o, e⟩, ⟨wc, pc⟩, ⟨wl, ws, wp, wq⟩, ⟨op, oq, pt, ob⟩, ⟨lf, sf⟩⟩ := S
  unfold tkClose
  simp only
  split <;> exact hw
theorem wpI_sign {S : PS} {v : Int} (hw : wpI S) : wpI (tkSign v S).2 := by
  unfold tkSign
  split
  · exact hw
  · split
    · exact wpI_open hw
    · split
      · exact wpI_open hw
      · split
        · exact wpI_bar hw
        · split
          · exact wpI_close hw
          · split
            · exact wpI_close hw
            · exact hw
theorem wpI_spell {S : PS} {rc bh : Nat} (ho : -1 ≤ S.1.1 ∧ S.1.1 < S.2.1.2) (hw : wpI S) : wpI (tkSpell R E f rc bh S).2 := by
  obtain ⟨⟨o, e⟩, ⟨wc, pc⟩, ⟨wl, ws, wp, wq⟩, ⟨op, oq, pt, ob⟩, ⟨lf, sf⟩⟩ := S
  unfold tkSpell
  simp only
  split
  · exact hw
  · split
    · exact hw
    · split
      · exact hw
      · intro k hk
        show -1 ≤ fS wp wc o k ∧ fS wp wc o k < (pc : Int)
        have hk2 : k < wc + 1 := hk
        by_cases ek : k = wc
        · subst ek; rw [fS_s]; exact ho
        · rw [fS_n ek]; exact hw k (by show k < wc; omega)
theorem prT_I {S : PS} {rc : Nat} (hE : EnvI R E) (hI : psI rc S) : psI (rc + 1) (prT R E f en rc S).2 := by
  unfold prT
  split
  · exact psI_mono (tkSpell_I hE hI) (by omega)
  · exact tkSign_I hI
theorem prs_I (hE : EnvI R E) : ∀ (j rc : Nat) (S : PS), rc ≤ en → psI rc S → wpI S → (prs R E f en j rc S).2.1 ≤ en ∧ psI (en + 1) (prs R E f en j rc S).2.2 ∧ wpI (prs R E f en j rc S).2.2
  | 0, rc, S, hrc, hI, hw => by
    unfold prs
    exact ⟨hrc, psI_mono hI (by omega), hw⟩
  | j + 1, rc, S, hrc, hI, hw => by
    have hb := bhd_ge (f := f) (en - rc) rc
    have hT := prT_I (f := f) (en := en) hE hI
    have hwT : wpI (prT R E f en rc S).2 := by
      unfold prT
      split
      · exact wpI_spell hI.1 hw
      · exact wpI_sign hw
    unfold prs
    split
    · exact ⟨hrc, psI_mono hI (by omega), hw⟩
    · split
      · exact ⟨hrc, psI_mono hT (by omega), hwT⟩
      · exact prs_I hE j _ _ (by omega) (psI_mono hT (by omega)) hwT
end Msays84
