/-! SpokenDesk: what throws -/
section Call44
variable {x : Bool} {d d' K N K' N' : Nat} {m m' : PM} {P : PO → PH → Prop} {k n pc nx oi idx n' : Nat} {ls : List (Option PV)} {h : PH} {z : Int} {b2 : Nat} {t : List Nat}
theorem cVT (as st : List PV) {a ci : Nat} {fs : List PV} {P' : PO → PH → Prop} (hl1 : k_LV oi idx m' n') (ha : h.2 a = some (.inr (ci, fs))) (hev : k_Ev x d' K' N' m' (vR a :: as) h P') (hd1 : d' + 1 ≤ d) (kr : ∀ r h', P' (.inl r) h' → k_Wp x d K N m P (k + K') (n + N') nx ls (r.toList ++ st) h') (kx : ∀ E h', P' (.inr E) h' → P (.inr E) h')
    (hk : k + K' ≤ K := by decide) (hn : n + N' ≤ N := by decide) (hc : k_lk (pm_c m) pc = some ((48, z, 0, b2, t), nx) := by rfl) (hcl : k_R ci = (pm_y m').cls := by rfl) (hcs : k_cs st ≤ 8 := by exact Nat.le_of_ble_eq_true rfl) (ho : pm_o m = oi := by rfl) (hz : z.toNat = idx := by rfl) (hn' : as.length = n' := by rfl) (hh : pm_h m = [] := by rfl) : k_Wp x d K N m P k n pc ls (as.reverse ++ vR a :: st) h := by
  subst ho; subst hz; subst hn'
  exact p_callV hc hl1 ha hcl hev hd1 hcs hk hn kr (fun E h' hp => ⟨hh, kx E h' hp⟩)
theorem cST (as st : List PV) {P' : PO → PH → Prop} (hl1 : k_LS oi idx m' n') (hev : k_Ev x d' K' N' m' as h P') (hd1 : d' + 1 ≤ d) (kr : ∀ r h', P' (.inl r) h' → k_Wp x d K N m P (k + K') (n + N') nx ls (r.toList ++ st) h') (kx : ∀ E h', P' (.inr E) h' → P (.inr E) h')
    (hk : k + K' ≤ K := by decide) (hn : n + N' ≤ N := by decide) (hc : k_lk (pm_c m) pc = some ((48, z, 1, b2, t), nx) := by rfl) (hcs : k_cs st ≤ 8 := by exact Nat.le_of_ble_eq_true rfl) (ho : pm_o m = oi := by rfl) (hz : z.toNat = idx := by rfl) (hn' : as.length = n' := by rfl) (hh : pm_h m = [] := by rfl) : k_Wp x d K N m P k n pc ls (as.reverse ++ st) h := by
  subst ho; subst hz; subst hn'
  exact p_callS hc hl1 hev hd1 hcs hk hn kr (fun E h' hp => ⟨hh, kx E h' hp⟩)
end Call44
section Need44
variable {x : Bool} {d : Nat} {h : PH}
/-- all is well, or exception E is thrown -/
abbrev ndQ (h : PH) (c : Prop) (E : Nat) : PO → PH → Prop := fun o h' => h' = h ∧ ((c ∧ o = rV) ∨ (¬ c ∧ o = .inr (k_E E)))
set_option maxRecDepth 100000 in
set_option maxHeartbeats 4000000 in
theorem e_needSound (hd : 6 ≤ d) (z : Int) : k_Ev x d 1 6 mX11_needSoundOrNothing [vI z] h (ndQ h (-1 ≤ z ∧ z < 16) 0) := by
  refine k_enp 0 (Nat.le_of_ble_eq_true rfl) (p_go [] 40 ?_)
  simp only [st_0, st_1, st_2, st_3, st_4, st_5, st_6, st_7, st_8, st_9, st_10, st_11, st_12, st_13, st_14, st_15, st_16, st_17, st_18, st_19, st_20, st_21, st_22, st_23, st_24, st_25, st_26, st_27, st_28, st_29, st_30, st_31, st_32, st_33, st_34, st_34a, st_35, st_36, st_37, st_38, st_39, st_42, st_44, st_45, st_47, st_40, st_41, st_46, st_48, st_49, st_43, go_0, go_s, cut_0, cut_s, get_0, get_s, put_0, put_1, put_s, clr_0, clr_s, unl_i, unl_l, unl_r, unl_n, nth_0, nth_s, sf_0, sf_s, cnd_0, cnd_1, cnd_2, cnd_3, cnd_4, cnd_5, fit_0, fit_1, fit_2, en_0, en_i, en_l, en_r, kb_t, kb_f, kb_n, sw_0, sw_s, ↓reduceIte, Nat.reduceEqDiff, Nat.left_eq_add, Nat.add_eq_left, Nat.add_left_cancel_iff, Nat.reduceAdd, Int.reduceLT, Int.reduceLE, Int.reduceAdd, Int.reduceSub, Int.reduceNeg, Int.reduceMul, Int.reduceToNat, Int.reduceEq, reduceCtorEq, true_and, and_true, true_or, or_true, and_false, false_and, or_false, false_or, not_true_eq_false, not_false_eq_true, Nat.le_refl, and_self, Sum.inl.injEq, Sum.inr.injEq, Option.some.injEq, hS_2, k_isref, pd_0, pd_s, List.cons_append, List.nil_append, Option.toList_none, Option.toList_some, tX11_needSoundOrNothing, rX11_needSoundOrNothing]
  refine k_brI (fun c1 => ?_) (fun c1 => k_brI (fun c2 => ?_) (fun c2 => ?_))
  · exact p_throw (by rfl) (by rfl) hd (by decide) (by decide) (by decide) ⟨rfl, Or.inr ⟨by omega, rfl⟩⟩
  · exact ⟨⟨by decide, by decide⟩, rfl, Or.inl ⟨⟨by omega, by omega⟩, rfl⟩⟩
  · exact p_throw (by rfl) (by rfl) hd (by decide) (by decide) (by decide) ⟨rfl, Or.inr ⟨by omega, rfl⟩⟩
/-- SpokenDesk's own cell -/
abbrev sdO (sp : Nat) (pl : Int) : PC := cO 11 [vR 2, vR 5, vR 9, vR 12, vR 14, vR 20, vR 26, vR 30, vR 31, vR 32, vR 34, vR sp, vI pl]
variable {sp : Nat} {pl : Int}
set_option maxRecDepth 100000 in
set_option maxHeartbeats 4000000 in
theorem e_needBytes {n : Nat} {f : F_} (h1 : h.2 1 = some (sdO sp pl)) (hT : Tp h 12 n f) (hd : 6 ≤ d) (z : Int) : k_Ev x d 1 6 mX11_needBytes [vR 1, vI z] h (ndQ h (0 ≤ z ∧ z ≤ n) 0) := by
  refine k_enp 0 (Nat.le_of_ble_eq_true rfl) (p_go [] 40 ?_)
  simp only [st_0, st_1, st_2, st_3, st_4, st_5, st_6, st_7, st_8, st_9, st_10, st_11, st_12, st_13, st_14, st_15, st_16, st_17, st_18, st_19, st_20, st_21, st_22, st_23, st_24, st_25, st_26, st_27, st_28, st_29, st_30, st_31, st_32, st_33, st_34, st_34a, st_35, st_36, st_37, st_38, st_39, st_42, st_44, st_45, st_47, st_40, st_41, st_46, st_48, st_49, st_43, go_0, go_s, cut_0, cut_s, get_0, get_s, put_0, put_1, put_s, clr_0, clr_s, unl_i, unl_l, unl_r, unl_n, nth_0, nth_s, sf_0, sf_s, cnd_0, cnd_1, cnd_2, cnd_3, cnd_4, cnd_5, fit_0, fit_1, fit_2, en_0, en_i, en_l, en_r, kb_t, kb_f, kb_n, sw_0, sw_s, ↓reduceIte, Nat.reduceEqDiff, Nat.left_eq_add, Nat.add_eq_left, Nat.add_left_cancel_iff, Nat.reduceAdd, Int.reduceLT, Int.reduceLE, Int.reduceAdd, Int.reduceSub, Int.reduceNeg, Int.reduceMul, Int.reduceToNat, Int.reduceEq, reduceCtorEq, true_and, and_true, true_or, or_true, and_false, false_and, or_false, false_or, not_true_eq_false, not_false_eq_true, Nat.le_refl, and_self, Sum.inl.injEq, Sum.inr.injEq, Option.some.injEq, hS_2, k_isref, pd_0, pd_s, List.cons_append, List.nil_append, Option.toList_none, Option.toList_some, tX11_needBytes, rX11_needBytes, h1]
  refine k_brI (fun c1 => ?_) (fun c1 => ?_)
  · exact p_throw (by rfl) (by rfl) hd (by decide) (by decide) (by decide) ⟨rfl, Or.inr ⟨by omega, rfl⟩⟩
  · refine cV (d' := 0) [] [vI z] l_11_147 hT.1 (e_tsize hT) (by omega) (p_go [] 40 ?_)
    simp only [st_0, st_1, st_2, st_3, st_4, st_5, st_6, st_7, st_8, st_9, st_10, st_11, st_12, st_13, st_14, st_15, st_16, st_17, st_18, st_19, st_20, st_21, st_22, st_23, st_24, st_25, st_26, st_27, st_28, st_29, st_30, st_31, st_32, st_33, st_34, st_34a, st_35, st_36, st_37, st_38, st_39, st_42, st_44, st_45, st_47, st_40, st_41, st_46, st_48, st_49, st_43, go_0, go_s, cut_0, cut_s, get_0, get_s, put_0, put_1, put_s, clr_0, clr_s, unl_i, unl_l, unl_r, unl_n, nth_0, nth_s, sf_0, sf_s, cnd_0, cnd_1, cnd_2, cnd_3, cnd_4, cnd_5, fit_0, fit_1, fit_2, en_0, en_i, en_l, en_r, kb_t, kb_f, kb_n, sw_0, sw_s, ↓reduceIte, Nat.reduceEqDiff, Nat.left_eq_add, Nat.add_eq_left, Nat.add_left_cancel_iff, Nat.reduceAdd, Int.reduceLT, Int.reduceLE, Int.reduceAdd, Int.reduceSub, Int.reduceNeg, Int.reduceMul, Int.reduceToNat, Int.reduceEq, reduceCtorEq, true_and, and_true, true_or, or_true, and_false, false_and, or_false, false_or, not_true_eq_false, not_false_eq_true, Nat.le_refl, and_self, Sum.inl.injEq, Sum.inr.injEq, Option.some.injEq, hS_2, k_isref, pd_0, pd_s, List.cons_append, List.nil_append, Option.toList_none, Option.toList_some, tX11_needBytes, rX11_needBytes]
    refine k_brI (fun c2 => ?_) (fun c2 => ?_)
    · exact ⟨⟨by decide, by decide⟩, rfl, Or.inl ⟨⟨by omega, by omega⟩, rfl⟩⟩
    · exact p_throw (by rfl) (by rfl) hd (by decide) (by decide) (by decide) ⟨rfl, Or.inr ⟨by omega, rfl⟩⟩
set_option maxRecDepth 100000 in
set_option maxHeartbeats 4000000 in
theorem e_needCommand {wc : Nat × Nat} {pc sz : Nat} (h1 : h.2 1 = some (sdO sp pl)) (hg : h.2 sp = some (gO sp wc pc sz)) (hd : 6 ≤ d) (z : Int) : k_Ev x d 1 6 mX11_needCommand [vR 1, vI z] h (ndQ h (0 ≤ z ∧ z < sz) 2) := by
  refine k_enp 0 (Nat.le_of_ble_eq_true rfl) (p_go [] 40 ?_)
  simp only [st_0, st_1, st_2, st_3, st_4, st_5, st_6, st_7, st_8, st_9, st_10, st_11, st_12, st_13, st_14, st_15, st_16, st_17, st_18, st_19, st_20, st_21, st_22, st_23, st_24, st_25, st_26, st_27, st_28, st_29, st_30, st_31, st_32, st_33, st_34, st_34a, st_35, st_36, st_37, st_38, st_39, st_42, st_44, st_45, st_47, st_40, st_41, st_46, st_48, st_49, st_43, go_0, go_s, cut_0, cut_s, get_0, get_s, put_0, put_1, put_s, clr_0, clr_s, unl_i, unl_l, unl_r, unl_n, nth_0, nth_s, sf_0, sf_s, cnd_0, cnd_1, cnd_2, cnd_3, cnd_4, cnd_5, fit_0, fit_1, fit_2, en_0, en_i, en_l, en_r, kb_t, kb_f, kb_n, sw_0, sw_s, ↓reduceIte, Nat.reduceEqDiff, Nat.left_eq_add, Nat.add_eq_left, Nat.add_left_cancel_iff, Nat.reduceAdd, Int.reduceLT, Int.reduceLE, Int.reduceAdd, Int.reduceSub, Int.reduceNeg, Int.reduceMul, Int.reduceToNat, Int.reduceEq, reduceCtorEq, true_and, and_true, true_or, or_true, and_false, false_and, or_false, false_or, not_true_eq_false, not_false_eq_true, Nat.le_refl, and_self, Sum.inl.injEq, Sum.inr.injEq, Option.some.injEq, hS_2, k_isref, pd_0, pd_s, List.cons_append, List.nil_append, Option.toList_none, Option.toList_some, tX11_needCommand, rX11_needCommand, h1]
  refine k_brI (fun c1 => ?_) (fun c1 => ?_)
  · exact p_throw (by rfl) (by rfl) hd (by decide) (by decide) (by decide) ⟨rfl, Or.inr ⟨by omega, rfl⟩⟩
  · refine cV (d' := 0) [] [vI z] l_11_189 hg (e_gsize hg) (by omega) (p_go [] 40 ?_)
    simp only [st_0, st_1, st_2, st_3, st_4, st_5, st_6, st_7, st_8, st_9, st_10, st_11, st_12, st_13, st_14, st_15, st_16, st_17, st_18, st_19, st_20, st_21, st_22, st_23, st_24, st_25, st_26, st_27, st_28, st_29, st_30, st_31, st_32, st_33, st_34, st_34a, st_35, st_36, st_37, st_38, st_39, st_42, st_44, st_45, st_47, st_40, st_41, st_46, st_48, st_49, st_43, go_0, go_s, cut_0, cut_s, get_0, get_s, put_0, put_1, put_s, clr_0, clr_s, unl_i, unl_l, unl_r, unl_n, nth_0, nth_s, sf_0, sf_s, cnd_0, cnd_1, cnd_2, cnd_3, cnd_4, cnd_5, fit_0, fit_1, fit_2, en_0, en_i, en_l, en_r, kb_t, kb_f, kb_n, sw_0, sw_s, ↓reduceIte, Nat.reduceEqDiff, Nat.left_eq_add, Nat.add_eq_left, Nat.add_left_cancel_iff, Nat.reduceAdd, Int.reduceLT, Int.reduceLE, Int.reduceAdd, Int.reduceSub, Int.reduceNeg, Int.reduceMul, Int.reduceToNat, Int.reduceEq, reduceCtorEq, true_and, and_true, true_or, or_true, and_false, false_and, or_false, false_or, not_true_eq_false, not_false_eq_true, Nat.le_refl, and_self, Sum.inl.injEq, Sum.inr.injEq, Option.some.injEq, hS_2, k_isref, pd_0, pd_s, List.cons_append, List.nil_append, Option.toList_none, Option.toList_some, tX11_needCommand, rX11_needCommand]
    refine k_brI (fun c2 => ?_) (fun c2 => ?_)
    · exact ⟨⟨by decide, by decide⟩, rfl, Or.inl ⟨⟨by omega, by omega⟩, rfl⟩⟩
    · exact p_throw (by rfl) (by rfl) hd (by decide) (by decide) (by decide) ⟨rfl, Or.inr ⟨by omega, rfl⟩⟩
set_option maxRecDepth 100000 in
set_option maxHeartbeats 4000000 in
theorem e_needSlot {sz : Nat} {wo kn ed : Int} (h1 : h.2 1 = some (sdO sp pl)) (hg : h.2 34 = some (slO 34 sz wo kn ed)) (hd : 6 ≤ d) (z : Int) : k_Ev x d 1 6 mX11_needSlot [vR 1, vI z] h (ndQ h (0 ≤ z ∧ z < sz) 2) := by
  refine k_enp 0 (Nat.le_of_ble_eq_true rfl) (p_go [] 40 ?_)
  simp only [st_0, st_1, st_2, st_3, st_4, st_5, st_6, st_7, st_8, st_9, st_10, st_11, st_12, st_13, st_14, st_15, st_16, st_17, st_18, st_19, st_20, st_21, st_22, st_23, st_24, st_25, st_26, st_27, st_28, st_29, st_30, st_31, st_32, st_33, st_34, st_34a, st_35, st_36, st_37, st_38, st_39, st_42, st_44, st_45, st_47, st_40, st_41, st_46, st_48, st_49, st_43, go_0, go_s, cut_0, cut_s, get_0, get_s, put_0, put_1, put_s, clr_0, clr_s, unl_i, unl_l, unl_r, unl_n, nth_0, nth_s, sf_0, sf_s, cnd_0, cnd_1, cnd_2, cnd_3, cnd_4, cnd_5, fit_0, fit_1, fit_2, en_0, en_i, en_l, en_r, kb_t, kb_f, kb_n, sw_0, sw_s, ↓reduceIte, Nat.reduceEqDiff, Nat.left_eq_add, Nat.add_eq_left, Nat.add_left_cancel_iff, Nat.reduceAdd, Int.reduceLT, Int.reduceLE, Int.reduceAdd, Int.reduceSub, Int.reduceNeg, Int.reduceMul, Int.reduceToNat, Int.reduceEq, reduceCtorEq, true_and, and_true, true_or, or_true, and_false, false_and, or_false, false_or, not_true_eq_false, not_false_eq_true, Nat.le_refl, and_self, Sum.inl.injEq, Sum.inr.injEq, Option.some.injEq, hS_2, k_isref, pd_0, pd_s, List.cons_append, List.nil_append, Option.toList_none, Option.toList_some, tX11_needSlot, rX11_needSlot, h1]
  refine k_brI (fun c1 => ?_) (fun c1 => ?_)
  · exact p_throw (by rfl) (by rfl) hd (by decide) (by decide) (by decide) ⟨rfl, Or.inr ⟨by omega, rfl⟩⟩
  · refine cV (d' := 0) [] [vI z] l_11_239 hg (e_ssize hg) (by omega) (p_go [] 40 ?_)
    simp only [st_0, st_1, st_2, st_3, st_4, st_5, st_6, st_7, st_8, st_9, st_10, st_11, st_12, st_13, st_14, st_15, st_16, st_17, st_18, st_19, st_20, st_21, st_22, st_23, st_24, st_25, st_26, st_27, st_28, st_29, st_30, st_31, st_32, st_33, st_34, st_34a, st_35, st_36, st_37, st_38, st_39, st_42, st_44, st_45, st_47, st_40, st_41, st_46, st_48, st_49, st_43, go_0, go_s, cut_0, cut_s, get_0, get_s, put_0, put_1, put_s, clr_0, clr_s, unl_i, unl_l, unl_r, unl_n, nth_0, nth_s, sf_0, sf_s, cnd_0, cnd_1, cnd_2, cnd_3, cnd_4, cnd_5, fit_0, fit_1, fit_2, en_0, en_i, en_l, en_r, kb_t, kb_f, kb_n, sw_0, sw_s, ↓reduceIte, Nat.reduceEqDiff, Nat.left_eq_add, Nat.add_eq_left, Nat.add_left_cancel_iff, Nat.reduceAdd, Int.reduceLT, Int.reduceLE, Int.reduceAdd, Int.reduceSub, Int.reduceNeg, Int.reduceMul, Int.reduceToNat, Int.reduceEq, reduceCtorEq, true_and, and_true, true_or, or_true, and_false, false_and, or_false, false_or, not_true_eq_false, not_false_eq_true, Nat.le_refl, and_self, Sum.inl.injEq, Sum.inr.injEq, Option.some.injEq, hS_2, k_isref, pd_0, pd_s, List.cons_append, List.nil_append, Option.toList_none, Option.toList_some, tX11_needSlot, rX11_needSlot]
    refine k_brI (fun c2 => ?_) (fun c2 => ?_)
    · exact ⟨⟨by decide, by decide⟩, rfl, Or.inl ⟨⟨by omega, by omega⟩, rfl⟩⟩
    · exact p_throw (by rfl) (by rfl) hd (by decide) (by decide) (by decide) ⟨rfl, Or.inr ⟨by omega, rfl⟩⟩
set_option maxRecDepth 100000 in
set_option maxHeartbeats 4000000 in
theorem e_cost {C Nr : F_} {e s a b c : Int} {P : PO → PH → Prop} (h1 : h.2 1 = some (sdO sp pl)) (hC : Cs h 2 C Nr e s) (he : 0 ≤ e ∧ e < 100000) (hd : 7 ≤ d)
    (c1 : ¬ ((-1 ≤ a ∧ a < 16) ∧ (-1 ≤ b ∧ b < 16) ∧ a ≠ b ∧ 1 ≤ c ∧ c ≤ 100) → P (.inr (k_E 0)) h)
    (c2 : ((-1 ≤ a ∧ a < 16) ∧ (-1 ≤ b ∧ b < 16) ∧ a ≠ b ∧ 1 ≤ c ∧ c ≤ 100) → P (rI (C (17 * (a + 1).toNat + (b + 1).toNat))) (hS (hS h 3 (cI 289 (fS (fS C (17 * (a + 1).toNat + (b + 1).toNat) c) (17 * (b + 1).toNat + (a + 1).toNat) c))) 2 (cO 0 [vR 3, vR 4, vI (e + 1), vI 1]))) :
    k_Ev x d 3 18 mX11_cost [vR 1, vI a, vI b, vI c] h P := by
  refine k_enp 0 (Nat.le_of_ble_eq_true rfl) (p_go [] 40 ?_)
  simp only [st_0, st_1, st_2, st_3, st_4, st_5, st_6, st_7, st_8, st_9, st_10, st_11, st_12, st_13, st_14, st_15, st_16, st_17, st_18, st_19, st_20, st_21, st_22, st_23, st_24, st_25, st_26, st_27, st_28, st_29, st_30, st_31, st_32, st_33, st_34, st_34a, st_35, st_36, st_37, st_38, st_39, st_42, st_44, st_45, st_47, st_40, st_41, st_46, st_48, st_49, st_43, go_0, go_s, cut_0, cut_s, get_0, get_s, put_0, put_1, put_s, clr_0, clr_s, unl_i, unl_l, unl_r, unl_n, nth_0, nth_s, sf_0, sf_s, cnd_0, cnd_1, cnd_2, cnd_3, cnd_4, cnd_5, fit_0, fit_1, fit_2, en_0, en_i, en_l, en_r, kb_t, kb_f, kb_n, sw_0, sw_s, ↓reduceIte, Nat.reduceEqDiff, Nat.left_eq_add, Nat.add_eq_left, Nat.add_left_cancel_iff, Nat.reduceAdd, Int.reduceLT, Int.reduceLE, Int.reduceAdd, Int.reduceSub, Int.reduceNeg, Int.reduceMul, Int.reduceToNat, Int.reduceEq, reduceCtorEq, true_and, and_true, true_or, or_true, and_false, false_and, or_false, false_or, not_true_eq_false, not_false_eq_true, Nat.le_refl, and_self, Sum.inl.injEq, Sum.inr.injEq, Option.some.injEq, hS_2, k_isref, pd_0, pd_s, List.cons_append, List.nil_append, Option.toList_none, Option.toList_some, tX11_cost, rX11_cost]
  refine cST (d' := 6) [vI a] [] l_11_103 (e_needSound (Nat.le_refl 6) a) (by omega) ?_ (fun E h' q => ?_)
  · intro r1 h2 ⟨q1, q2⟩
    subst q1
    rcases q2 with ⟨q2, q3⟩ | ⟨q2, q3⟩
    · cases q3
      refine p_go [] 40 ?_
      simp only [st_0, st_1, st_2, st_3, st_4, st_5, st_6, st_7, st_8, st_9, st_10, st_11, st_12, st_13, st_14, st_15, st_16, st_17, st_18, st_19, st_20, st_21, st_22, st_23, st_24, st_25, st_26, st_27, st_28, st_29, st_30, st_31, st_32, st_33, st_34, st_34a, st_35, st_36, st_37, st_38, st_39, st_42, st_44, st_45, st_47, st_40, st_41, st_46, st_48, st_49, st_43, go_0, go_s, cut_0, cut_s, get_0, get_s, put_0, put_1, put_s, clr_0, clr_s, unl_i, unl_l, unl_r, unl_n, nth_0, nth_s, sf_0, sf_s, cnd_0, cnd_1, cnd_2, cnd_3, cnd_4, cnd_5, fit_0, fit_1, fit_2, en_0, en_i, en_l, en_r, kb_t, kb_f, kb_n, sw_0, sw_s, ↓reduceIte, Nat.reduceEqDiff, Nat.left_eq_add, Nat.add_eq_left, Nat.add_left_cancel_iff, Nat.reduceAdd, Int.reduceLT, Int.reduceLE, Int.reduceAdd, Int.reduceSub, Int.reduceNeg, Int.reduceMul, Int.reduceToNat, Int.reduceEq, reduceCtorEq, true_and, and_true, true_or, or_true, and_false, false_and, or_false, false_or, not_true_eq_false, not_false_eq_true, Nat.le_refl, and_self, Sum.inl.injEq, Sum.inr.injEq, Option.some.injEq, hS_2, k_isref, pd_0, pd_s, List.cons_append, List.nil_append, Option.toList_none, Option.toList_some, tX11_cost, rX11_cost]
      refine cST (d' := 6) [vI b] [] l_11_103 (e_needSound (Nat.le_refl 6) b) (by omega) ?_ (fun E h' q => ?_)
      · intro r2 h3 ⟨u1, u2⟩
        subst u1
        rcases u2 with ⟨u2, u3⟩ | ⟨u2, u3⟩
        · cases u3
          refine p_go [] 40 ?_
          simp only [st_0, st_1, st_2, st_3, st_4, st_5, st_6, st_7, st_8, st_9, st_10, st_11, st_12, st_13, st_14, st_15, st_16, st_17, st_18, st_19, st_20, st_21, st_22, st_23, st_24, st_25, st_26, st_27, st_28, st_29, st_30, st_31, st_32, st_33, st_34, st_34a, st_35, st_36, st_37, st_38, st_39, st_42, st_44, st_45, st_47, st_40, st_41, st_46, st_48, st_49, st_43, go_0, go_s, cut_0, cut_s, get_0, get_s, put_0, put_1, put_s, clr_0, clr_s, unl_i, unl_l, unl_r, unl_n, nth_0, nth_s, sf_0, sf_s, cnd_0, cnd_1, cnd_2, cnd_3, cnd_4, cnd_5, fit_0, fit_1, fit_2, en_0, en_i, en_l, en_r, kb_t, kb_f, kb_n, sw_0, sw_s, ↓reduceIte, Nat.reduceEqDiff, Nat.left_eq_add, Nat.add_eq_left, Nat.add_left_cancel_iff, Nat.reduceAdd, Int.reduceLT, Int.reduceLE, Int.reduceAdd, Int.reduceSub, Int.reduceNeg, Int.reduceMul, Int.reduceToNat, Int.reduceEq, reduceCtorEq, true_and, and_true, true_or, or_true, and_false, false_and, or_false, false_or, not_true_eq_false, not_false_eq_true, Nat.le_refl, and_self, Sum.inl.injEq, Sum.inr.injEq, Option.some.injEq, hS_2, k_isref, pd_0, pd_s, List.cons_append, List.nil_append, Option.toList_none, Option.toList_some, tX11_cost, rX11_cost, h1]
          refine k_brI (fun v1 => ?_) (fun v1 => k_brI (fun v2 => ?_) (fun v2 => k_brI (fun v3 => ?_) (fun v3 => ?_)))
          · exact p_throw (by rfl) (by rfl) (by omega) (by decide) (by decide) (by decide) (c1 (fun w => w.2.2.1 v1))
          · exact p_throw (by rfl) (by rfl) (by omega) (by decide) (by decide) (by decide) (c1 (fun w => by omega))
          · refine cV (d' := 0) [vI a, vI b, vI c] [] l_11_116 hC.1 (e_change hC q2 u2 he) (by omega) (p_go [] 40 ?_)
            simp only [st_0, st_1, st_2, st_3, st_4, st_5, st_6, st_7, st_8, st_9, st_10, st_11, st_12, st_13, st_14, st_15, st_16, st_17, st_18, st_19, st_20, st_21, st_22, st_23, st_24, st_25, st_26, st_27, st_28, st_29, st_30, st_31, st_32, st_33, st_34, st_34a, st_35, st_36, st_37, st_38, st_39, st_42, st_44, st_45, st_47, st_40, st_41, st_46, st_48, st_49, st_43, go_0, go_s, cut_0, cut_s, get_0, get_s, put_0, put_1, put_s, clr_0, clr_s, unl_i, unl_l, unl_r, unl_n, nth_0, nth_s, sf_0, sf_s, cnd_0, cnd_1, cnd_2, cnd_3, cnd_4, cnd_5, fit_0, fit_1, fit_2, en_0, en_i, en_l, en_r, kb_t, kb_f, kb_n, sw_0, sw_s, ↓reduceIte, Nat.reduceEqDiff, Nat.left_eq_add, Nat.add_eq_left, Nat.add_left_cancel_iff, Nat.reduceAdd, Int.reduceLT, Int.reduceLE, Int.reduceAdd, Int.reduceSub, Int.reduceNeg, Int.reduceMul, Int.reduceToNat, Int.reduceEq, reduceCtorEq, true_and, and_true, true_or, or_true, and_false, false_and, or_false, false_or, not_true_eq_false, not_false_eq_true, Nat.le_refl, and_self, Sum.inl.injEq, Sum.inr.injEq, Option.some.injEq, hS_2, k_isref, pd_0, pd_s, List.cons_append, List.nil_append, Option.toList_none, Option.toList_some, tX11_cost, rX11_cost]
            exact ⟨⟨by decide, by decide⟩, c2 ⟨q2, u2, v1, by omega, v3⟩⟩
          · exact p_throw (by rfl) (by rfl) (by omega) (by decide) (by decide) (by decide) (c1 (fun w => by omega))
        · cases u3
      · obtain ⟨rfl, ⟨_, q⟩ | ⟨q1, q⟩⟩ := q
        · cases q
        · cases q
          exact c1 (fun w => q1 w.2.1)
    · cases q3
  · obtain ⟨rfl, ⟨_, q⟩ | ⟨q1, q⟩⟩ := q
    · cases q
    · cases q
      exact c1 (fun w => q1 w.1)
end Need44
