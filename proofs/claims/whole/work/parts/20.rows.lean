/-! rows of sounds: SpokenDesk$Rows -/
abbrev rI (z : Int) : PO := Sum.inl (some (vI z))
abbrev rR (a : Nat) : PO := Sum.inl (some (vR a))
abbrev rL (z : Int) : PO := Sum.inl (some (vL z))
abbrev rV : PO := Sum.inl none
abbrev cI (n : Nat) (f : Nat → Int) : PC := Sum.inl (0, n, f)
abbrev cO (ci : Nat) (fs : List PV) : PC := Sum.inr (ci, fs)
/-- at q lies a Rows of n rows, w wide: its lengths, its sounds -/
def Rw (h : PH) (q w n : Nat) (lf sf : Nat → Int) : Prop := h.2 q = some (cO 8 [vI w, vR (q + 1), vR (q + 2)]) ∧ h.2 (q + 1) = some (cI n lf) ∧ h.2 (q + 2) = some (cI (n * w) sf)
section Rows20
variable {x : Bool} {d : Nat} {h : PH} {q w n : Nat} {lf sf : Nat → Int}
set_option maxRecDepth 100000 in
set_option maxHeartbeats 4000000 in
theorem e_width (hR : Rw h q w n lf sf) : k_Ev x d 0 0 mX8_width [vR q] h (fun o h' => o = rI w ∧ h' = h) := by
  obtain ⟨h1, h2, h3⟩ := hR
  refine k_ent (Nat.le_of_ble_eq_true rfl) (p_go [] 30 ?_)
  simp only [st_0, st_1, st_2, st_3, st_4, st_5, st_6, st_7, st_8, st_9, st_10, st_11, st_12, st_13, st_14, st_15, st_16, st_17, st_18, st_19, st_20, st_21, st_22, st_23, st_24, st_25, st_26, st_27, st_28, st_29, st_30, st_31, st_32, st_33, st_34, st_34a, st_35, st_36, st_37, st_38, st_39, st_42, st_44, st_45, st_47, st_40, st_41, st_46, st_48, st_49, st_43, go_0, go_s, cut_0, cut_s, get_0, get_s, put_0, put_1, put_s, clr_0, clr_s, unl_i, unl_l, unl_r, unl_n, nth_0, nth_s, sf_0, sf_s, cnd_0, cnd_1, cnd_2, cnd_3, cnd_4, cnd_5, fit_0, fit_1, fit_2, en_0, en_i, en_l, en_r, kb_t, kb_f, kb_n, sw_0, sw_s, ↓reduceIte, Nat.reduceEqDiff, Nat.left_eq_add, Nat.add_eq_left, Nat.add_left_cancel_iff, Nat.reduceAdd, reduceCtorEq, true_and, and_true, true_or, or_true, Nat.le_refl, and_self, Sum.inl.injEq, Option.some.injEq, hS_2, k_isref, tX8_width, rX8_width, h1, h2, h3]
set_option maxRecDepth 100000 in
set_option maxHeartbeats 4000000 in
theorem e_length (hR : Rw h q w n lf sf) (row : Int) : k_Ev x d 0 0 mX8_length [vR q, vI row] h (fun o h' => o = rI (if 0 ≤ row ∧ row < n then lf row.toNat else 0) ∧ h' = h) := by
  obtain ⟨h1, h2, h3⟩ := hR
  refine k_ent (Nat.le_of_ble_eq_true rfl) (p_go [] 30 ?_)
  simp only [st_0, st_1, st_2, st_3, st_4, st_5, st_6, st_7, st_8, st_9, st_10, st_11, st_12, st_13, st_14, st_15, st_16, st_17, st_18, st_19, st_20, st_21, st_22, st_23, st_24, st_25, st_26, st_27, st_28, st_29, st_30, st_31, st_32, st_33, st_34, st_34a, st_35, st_36, st_37, st_38, st_39, st_42, st_44, st_45, st_47, st_40, st_41, st_46, st_48, st_49, st_43, go_0, go_s, cut_0, cut_s, get_0, get_s, put_0, put_1, put_s, clr_0, clr_s, unl_i, unl_l, unl_r, unl_n, nth_0, nth_s, sf_0, sf_s, cnd_0, cnd_1, cnd_2, cnd_3, cnd_4, cnd_5, fit_0, fit_1, fit_2, en_0, en_i, en_l, en_r, kb_t, kb_f, kb_n, sw_0, sw_s, ↓reduceIte, Nat.reduceEqDiff, Nat.left_eq_add, Nat.add_eq_left, Nat.add_left_cancel_iff, Nat.reduceAdd, reduceCtorEq, true_and, and_true, true_or, or_true, Nat.le_refl, and_self, Sum.inl.injEq, Option.some.injEq, hS_2, k_isref, tX8_length, rX8_length, h1, h2, h3]
  (repeat' (first | refine k_brI (fun _ => ?_) (fun _ => ?_) | refine And.intro ?_ ?_))
  all_goals first | omega | grind
theorem mulb {row : Int} {n w : Nat} (h0 : 0 ≤ row) (h1 : row < n) : 0 ≤ row * (w : Int) ∧ row * (w : Int) + w ≤ ((n * w : Nat) : Int) ∧ (row * (w : Int)).toNat = row.toNat * w := by
  obtain ⟨r, rfl⟩ := Int.eq_ofNat_of_zero_le h0
  have h2 : r + 1 ≤ n := by omega
  have h3 := Nat.mul_le_mul_right w h2
  have h4 : (r + 1) * w = r * w + w := Nat.succ_mul r w
  have e : ((r : Int) * (w : Int)) = ((r * w : Nat) : Int) := by simp
  rw [e]
  refine ⟨by omega, by omega, by simp⟩
set_option maxRecDepth 100000 in
set_option maxHeartbeats 4000000 in
theorem e_at (hR : Rw h q w n lf sf) (row i : Int) (hl : ∀ j : Nat, j < n → lf j ≤ w) (hw : (n * w : Nat) < 2147483648) : k_Ev x d 0 0 mX8_at [vR q, vI row, vI i] h (fun o h' => o = rI (if 0 ≤ row ∧ row < n ∧ 0 ≤ i ∧ i < lf row.toNat then sf (row.toNat * w + i.toNat) else -1) ∧ h' = h) := by
  obtain ⟨h1, h2, h3⟩ := hR
  refine k_ent (Nat.le_of_ble_eq_true rfl) (p_go [] 40 ?_)
  simp only [st_0, st_1, st_2, st_3, st_4, st_5, st_6, st_7, st_8, st_9, st_10, st_11, st_12, st_13, st_14, st_15, st_16, st_17, st_18, st_19, st_20, st_21, st_22, st_23, st_24, st_25, st_26, st_27, st_28, st_29, st_30, st_31, st_32, st_33, st_34, st_34a, st_35, st_36, st_37, st_38, st_39, st_42, st_44, st_45, st_47, st_40, st_41, st_46, st_48, st_49, st_43, go_0, go_s, cut_0, cut_s, get_0, get_s, put_0, put_1, put_s, clr_0, clr_s, unl_i, unl_l, unl_r, unl_n, nth_0, nth_s, sf_0, sf_s, cnd_0, cnd_1, cnd_2, cnd_3, cnd_4, cnd_5, fit_0, fit_1, fit_2, en_0, en_i, en_l, en_r, kb_t, kb_f, kb_n, sw_0, sw_s, ↓reduceIte, Nat.reduceEqDiff, Nat.left_eq_add, Nat.add_eq_left, Nat.add_left_cancel_iff, Nat.reduceAdd, reduceCtorEq, true_and, and_true, true_or, or_true, Nat.le_refl, and_self, Sum.inl.injEq, Option.some.injEq, hS_2, k_isref, tX8_at, rX8_at, h1, h2, h3]
  by_cases hr : 0 ≤ row ∧ row < n
  · obtain ⟨m1, m2, m3⟩ := mulb (w := w) hr.1 hr.2
    have hl1 := hl row.toNat (by omega)
    (repeat' (first | refine k_brI (fun _ => ?_) (fun _ => ?_) | refine And.intro ?_ ?_))
    all_goals try omega
    all_goals first | (rw [if_pos (by omega)]; congr 1; omega) | (rw [if_neg (by omega)])
  · rw [if_neg (by omega)]
    (repeat' (first | refine k_brI (fun _ => ?_) (fun _ => ?_) | refine And.intro ?_ ?_))
    all_goals first | omega | rfl
set_option maxRecDepth 100000 in
set_option maxHeartbeats 4000000 in
theorem e_clear (hR : Rw h q w n lf sf) (row : Int) : k_Ev x d 0 0 mX8_clear [vR q, vI row] h (fun o h' => o = rV ∧ h' = if 0 ≤ row ∧ row < n then hS h (q + 1) (cI n (fS lf row.toNat 0)) else h) := by
  obtain ⟨h1, h2, h3⟩ := hR
  refine k_ent (Nat.le_of_ble_eq_true rfl) (p_go [] 40 ?_)
  simp only [st_0, st_1, st_2, st_3, st_4, st_5, st_6, st_7, st_8, st_9, st_10, st_11, st_12, st_13, st_14, st_15, st_16, st_17, st_18, st_19, st_20, st_21, st_22, st_23, st_24, st_25, st_26, st_27, st_28, st_29, st_30, st_31, st_32, st_33, st_34, st_34a, st_35, st_36, st_37, st_38, st_39, st_42, st_44, st_45, st_47, st_40, st_41, st_46, st_48, st_49, st_43, go_0, go_s, cut_0, cut_s, get_0, get_s, put_0, put_1, put_s, clr_0, clr_s, unl_i, unl_l, unl_r, unl_n, nth_0, nth_s, sf_0, sf_s, cnd_0, cnd_1, cnd_2, cnd_3, cnd_4, cnd_5, fit_0, fit_1, fit_2, en_0, en_i, en_l, en_r, kb_t, kb_f, kb_n, sw_0, sw_s, ↓reduceIte, Nat.reduceEqDiff, Nat.left_eq_add, Nat.add_eq_left, Nat.add_left_cancel_iff, Nat.reduceAdd, reduceCtorEq, true_and, and_true, true_or, or_true, Nat.le_refl, and_self, Sum.inl.injEq, Option.some.injEq, hS_2, k_isref, tX8_clear, rX8_clear, h1, h2, h3]
  (repeat' (first | refine k_brI (fun _ => ?_) (fun _ => ?_) | refine And.intro ?_ ?_))
  all_goals first | omega | grind
set_option maxRecDepth 100000 in
set_option maxHeartbeats 4000000 in
theorem e_add (hR : Rw h q w n lf sf) (row v : Int) (hl : ∀ j : Nat, j < n → 0 ≤ lf j ∧ lf j ≤ w) (hw : (n * w : Nat) < 2147483648) : k_Ev x d 0 0 mX8_add [vR q, vI row, vI v] h (fun o h' => if 0 ≤ row ∧ row < n ∧ lf row.toNat < w then o = rI 1 ∧ h' = hS (hS h (q + 2) (cI (n * w) (fS sf (row.toNat * w + (lf row.toNat).toNat) v))) (q + 1) (cI n (fS lf row.toNat (lf row.toNat + 1))) else o = rI 0 ∧ h' = h) := by
  obtain ⟨h1, h2, h3⟩ := hR
  refine k_ent (Nat.le_of_ble_eq_true rfl) (p_go [] 60 ?_)
  simp only [st_0, st_1, st_2, st_3, st_4, st_5, st_6, st_7, st_8, st_9, st_10, st_11, st_12, st_13, st_14, st_15, st_16, st_17, st_18, st_19, st_20, st_21, st_22, st_23, st_24, st_25, st_26, st_27, st_28, st_29, st_30, st_31, st_32, st_33, st_34, st_34a, st_35, st_36, st_37, st_38, st_39, st_42, st_44, st_45, st_47, st_40, st_41, st_46, st_48, st_49, st_43, go_0, go_s, cut_0, cut_s, get_0, get_s, put_0, put_1, put_s, clr_0, clr_s, unl_i, unl_l, unl_r, unl_n, nth_0, nth_s, sf_0, sf_s, cnd_0, cnd_1, cnd_2, cnd_3, cnd_4, cnd_5, fit_0, fit_1, fit_2, en_0, en_i, en_l, en_r, kb_t, kb_f, kb_n, sw_0, sw_s, ↓reduceIte, Nat.reduceEqDiff, Nat.left_eq_add, Nat.add_eq_left, Nat.add_left_cancel_iff, Nat.reduceAdd, reduceCtorEq, true_and, and_true, true_or, or_true, Nat.le_refl, and_self, Sum.inl.injEq, Option.some.injEq, hS_2, k_isref, tX8_add, rX8_add, h1, h2, h3]
  by_cases hr : 0 ≤ row ∧ row < n
  · obtain ⟨m1, m2, m3⟩ := mulb (w := w) hr.1 hr.2
    have hl1 := hl row.toNat (by omega)
    (repeat' (first | refine k_brI (fun _ => ?_) (fun _ => ?_) | refine And.intro ?_ ?_))
    all_goals try omega
    all_goals first | (rw [if_neg (by omega)]; trivial) | rw [if_pos (by omega)]
    trivial
  · (repeat' (first | refine k_brI (fun _ => ?_) (fun _ => ?_) | refine And.intro ?_ ?_))
    all_goals first | omega | (rw [if_neg (by omega)]; trivial)
end Rows20
