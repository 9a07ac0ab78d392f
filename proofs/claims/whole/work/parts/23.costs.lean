/-! costs and nears: SpokenDesk$Costs -/
abbrev F_ : Type := Nat → Int
/-- one step of the nears: by a sound, from x to y -/
def fw1 (by_ x y : Nat) (f : F_) : F_ := if f (17 * x + by_) + f (17 * by_ + y) < f (17 * x + y) then fS f (17 * x + y) (f (17 * x + by_) + f (17 * by_ + y)) else f
def fwy (by_ x : Nat) : Nat → Nat → F_ → F_
  | 0, _, f => f
  | j + 1, y, f => fwy by_ x j (y + 1) (fw1 by_ x y f)
def fwx (by_ : Nat) : Nat → Nat → F_ → F_
  | 0, _, f => f
  | j + 1, x, f => fwx by_ j (x + 1) (fwy by_ x 17 0 f)
def fwb : Nat → Nat → F_ → F_
  | 0, _, f => f
  | j + 1, b, f => fwb j (b + 1) (fwx b 17 0 f)
def fw (f : F_) : F_ := fwb 17 0 f
/-- costs as they may be: none from a sound to itself, 0 to 100 else -/
def cOk (f : F_) : Prop := (∀ k, k < 17 → f (17 * k + k) = 0) ∧ ∀ i, i < 289 → 0 ≤ f i ∧ f i ≤ 100
theorem fw1_ok {b x y : Nat} {f : F_} (hf : cOk f) (hb : b < 17) (hx : x < 17) (hy : y < 17) : cOk (fw1 b x y f) := by
  unfold fw1
  have h1 := hf.2 (17 * x + b) (by omega)
  have h2 := hf.2 (17 * b + y) (by omega)
  have h3 := hf.2 (17 * x + y) (by omega)
  split
  · refine ⟨fun k hk => ?_, fun i hi => ?_⟩
    · by_cases e : 17 * k + k = 17 * x + y
      · have h4 := hf.1 k hk
        rw [e] at h4
        omega
      · rw [fS_n e]; exact hf.1 k hk
    · by_cases e : i = 17 * x + y
      · rw [e, fS_s]; omega
      · rw [fS_n e]; exact hf.2 i hi
  · exact hf
theorem fwy_ok {b x : Nat} (hb : b < 17) (hx : x < 17) : ∀ (j y : Nat) (f : F_), y + j ≤ 17 → cOk f → cOk (fwy b x j y f)
  | 0, _, f, _, h => h
  | j + 1, y, f, hj, h => fwy_ok hb hx j (y + 1) _ (by omega) (fw1_ok h hb hx (by omega))
theorem fwx_ok {b : Nat} (hb : b < 17) : ∀ (j x : Nat) (f : F_), x + j ≤ 17 → cOk f → cOk (fwx b j x f)
  | 0, _, f, _, h => h
  | j + 1, x, f, hj, h => fwx_ok hb j (x + 1) _ (by omega) (fwy_ok hb (by omega) 17 0 f (by omega) h)
theorem fwb_ok : ∀ (j b : Nat) (f : F_), b + j ≤ 17 → cOk f → cOk (fwb j b f)
  | 0, _, f, _, h => h
  | j + 1, b, f, hj, h => fwb_ok j (b + 1) _ (by omega) (fwx_ok (by omega) 17 0 f (by omega) h)
theorem fw_ok {f : F_} (h : cOk f) : cOk (fw f) := fwb_ok 17 0 f (by omega) h
/-- on its own way a step leaves the way to the sound that it goes by -/
theorem fw1_by {b x y : Nat} {f : F_} (hf : cOk f) (hb : b < 17) : fw1 b x y f (17 * x + b) = f (17 * x + b) := by
  unfold fw1
  split
  · by_cases e : 17 * x + b = 17 * x + y
    · have hy : y = b := by omega
      subst hy
      have := hf.1 y hb
      omega
    · rw [fS_n e]
  · rfl
def Cs (h : PH) (q : Nat) (C N : F_) (e s : Int) : Prop := h.2 q = some (cO 0 [vR (q + 1), vR (q + 2), vI e, vI s]) ∧ h.2 (q + 1) = some (cI 289 C) ∧ h.2 (q + 2) = some (cI 289 N)
section Costs23
variable {x : Bool} {d : Nat} {h : PH} {q : Nat} {C : F_} {e s : Int}
set_option maxRecDepth 100000 in
set_option maxHeartbeats 4000000 in
theorem w_goBy {b u : Nat} (h1 : h.2 q = some (cO 0 [vR (q + 1), vR (q + 2), vI e, vI s])) (hb : b < 17) (hu : u < 17) (f0 : F_) (P : PO → PH → Prop) : ∀ (j y : Nat) (f : F_), y + j = 17 → cOk f → f (17 * u + b) = f0 (17 * u + b) → P rV (hS h (q + 2) (cI 289 (fwy b u j y f))) →
    k_Wp x d 0 0 mX0_goBy P 0 0 15 [some (vR q), some (vI u), some (vI b), some (vI (f0 (17 * u + b))), some (vI y), none] [] (hS h (q + 2) (cI 289 f)) := by
  intro j
  induction j with
  | zero =>
    intro y f hy hf ht hP
    have e1 : (17 : Int) ≤ y := by omega
    refine p_go [] 30 ?_
    simp only [st_0, st_1, st_2, st_3, st_4, st_5, st_6, st_7, st_8, st_9, st_10, st_11, st_12, st_13, st_14, st_15, st_16, st_17, st_18, st_19, st_20, st_21, st_22, st_23, st_24, st_25, st_26, st_27, st_28, st_29, st_30, st_31, st_32, st_33, st_34, st_34a, st_35, st_36, st_37, st_38, st_39, st_42, st_44, st_45, st_47, st_40, st_41, st_46, st_48, st_49, st_43, go_0, go_s, cut_0, cut_s, get_0, get_s, put_0, put_1, put_s, clr_0, clr_s, unl_i, unl_l, unl_r, unl_n, nth_0, nth_s, sf_0, sf_s, cnd_0, cnd_1, cnd_2, cnd_3, cnd_4, cnd_5, fit_0, fit_1, fit_2, en_0, en_i, en_l, en_r, kb_t, kb_f, kb_n, sw_0, sw_s, ↓reduceIte, Nat.reduceEqDiff, Nat.left_eq_add, Nat.add_eq_left, Nat.add_left_cancel_iff, Nat.reduceAdd, Int.reduceLT, Int.reduceLE, Int.reduceAdd, Int.reduceSub, Int.reduceNeg, Int.reduceMul, Int.reduceToNat, Int.reduceEq, reduceCtorEq, true_and, and_true, true_or, or_true, and_false, false_and, or_false, false_or, not_true_eq_false, not_false_eq_true, Nat.le_refl, and_self, Sum.inl.injEq, Sum.inr.injEq, Option.some.injEq, hS_2, k_isref, pd_0, pd_s, List.cons_append, List.nil_append, Option.toList_none, Option.toList_some, tX0_goBy, rX0_goBy, h1, e1]
    exact hP
  | succ j ih =>
    intro y f hy hf ht hP
    have e1 : ¬ (17 : Int) ≤ y := by omega
    have e2 : ((b : Int) * 17 + y).toNat = 17 * b + y := by omega
    have e3 : ((u : Int) * 17 + y).toNat = 17 * u + y := by omega
    have b1 := hf.2 (17 * u + b) (by omega)
    have b2 := hf.2 (17 * b + y) (by omega)
    have b3 := hf.2 (17 * u + y) (by omega)
    have ihy := ih (y + 1) (fw1 b u y f) (by omega) (fw1_ok hf hb hu (by omega)) (by rw [fw1_by hf hb]; exact ht) hP
    refine p_go [15] 60 ?_
    simp only [st_0, st_1, st_2, st_3, st_4, st_5, st_6, st_7, st_8, st_9, st_10, st_11, st_12, st_13, st_14, st_15, st_16, st_17, st_18, st_19, st_20, st_21, st_22, st_23, st_24, st_25, st_26, st_27, st_28, st_29, st_30, st_31, st_32, st_33, st_34, st_34a, st_35, st_36, st_37, st_38, st_39, st_42, st_44, st_45, st_47, st_40, st_41, st_46, st_48, st_49, st_43, go_0, go_s, cut_0, cut_s, get_0, get_s, put_0, put_1, put_s, clr_0, clr_s, unl_i, unl_l, unl_r, unl_n, nth_0, nth_s, sf_0, sf_s, cnd_0, cnd_1, cnd_2, cnd_3, cnd_4, cnd_5, fit_0, fit_1, fit_2, en_0, en_i, en_l, en_r, kb_t, kb_f, kb_n, sw_0, sw_s, ↓reduceIte, Nat.reduceEqDiff, Nat.left_eq_add, Nat.add_eq_left, Nat.add_left_cancel_iff, Nat.reduceAdd, Int.reduceLT, Int.reduceLE, Int.reduceAdd, Int.reduceSub, Int.reduceNeg, Int.reduceMul, Int.reduceToNat, Int.reduceEq, reduceCtorEq, true_and, and_true, true_or, or_true, and_false, false_and, or_false, false_or, not_true_eq_false, not_false_eq_true, Nat.le_refl, and_self, Sum.inl.injEq, Sum.inr.injEq, Option.some.injEq, hS_2, k_isref, pd_0, pd_s, List.cons_append, List.nil_append, Option.toList_none, Option.toList_some, tX0_goBy, rX0_goBy, h1, e1, e2, e3, nat1, hS_hS]
    rw [← ht]
    rw [← ht] at ihy
    (repeat' (first | refine k_brI (fun _ => ?_) (fun _ => ?_) | refine And.intro ?_ ?_))
    all_goals try omega
    · refine p_sub (ls' := [some (vR q), some (vI u), some (vI b), some (vI (f (17 * u + b))), some (vI ((y + 1 : Nat) : Int)), none]) (by (repeat (first | exact le_nil | refine le_s ?_ | refine le_n ?_))) ?_
      · rename_i hlt
        have e4 : fw1 b u y f = f := by unfold fw1; rw [if_neg (by omega)]
        rw [e4] at ihy
        exact ihy
    · refine p_sub (ls' := [some (vR q), some (vI u), some (vI b), some (vI (f (17 * u + b))), some (vI ((y + 1 : Nat) : Int)), none]) (by (repeat (first | exact le_nil | refine le_s ?_ | refine le_n ?_))) ?_
      · have e4 : fw1 b u y f = fS f (17 * u + y) (f (17 * u + b) + f (17 * b + y)) := by unfold fw1; rw [if_pos (by omega)]
        rw [e4] at ihy
        exact ihy
set_option maxRecDepth 100000 in
set_option maxHeartbeats 4000000 in
theorem e_goBy {b u : Nat} {f : F_} (hC : Cs h q C f e s) (hb : b < 17) (hu : u < 17) (hf : cOk f) : k_Ev x d 0 0 mX0_goBy [vR q, vI u, vI b] h (fun o h' => o = rV ∧ h' = hS h (q + 2) (cI 289 (fwy b u 17 0 f))) := by
  obtain ⟨h1, h2, h3⟩ := hC
  have e3 : ((u : Int) * 17 + b).toNat = 17 * u + b := by omega
  have e5 := hS_id h3
  refine k_enp 3 (Nat.le_of_ble_eq_true rfl) (p_go [15] 30 ?_)
  simp only [st_0, st_1, st_2, st_3, st_4, st_5, st_6, st_7, st_8, st_9, st_10, st_11, st_12, st_13, st_14, st_15, st_16, st_17, st_18, st_19, st_20, st_21, st_22, st_23, st_24, st_25, st_26, st_27, st_28, st_29, st_30, st_31, st_32, st_33, st_34, st_34a, st_35, st_36, st_37, st_38, st_39, st_42, st_44, st_45, st_47, st_40, st_41, st_46, st_48, st_49, st_43, go_0, go_s, cut_0, cut_s, get_0, get_s, put_0, put_1, put_s, clr_0, clr_s, unl_i, unl_l, unl_r, unl_n, nth_0, nth_s, sf_0, sf_s, cnd_0, cnd_1, cnd_2, cnd_3, cnd_4, cnd_5, fit_0, fit_1, fit_2, en_0, en_i, en_l, en_r, kb_t, kb_f, kb_n, sw_0, sw_s, ↓reduceIte, Nat.reduceEqDiff, Nat.left_eq_add, Nat.add_eq_left, Nat.add_left_cancel_iff, Nat.reduceAdd, Int.reduceLT, Int.reduceLE, Int.reduceAdd, Int.reduceSub, Int.reduceNeg, Int.reduceMul, Int.reduceToNat, Int.reduceEq, reduceCtorEq, true_and, and_true, true_or, or_true, and_false, false_and, or_false, false_or, not_true_eq_false, not_false_eq_true, Nat.le_refl, and_self, Sum.inl.injEq, Sum.inr.injEq, Option.some.injEq, hS_2, k_isref, pd_0, pd_s, List.cons_append, List.nil_append, Option.toList_none, Option.toList_some, tX0_goBy, rX0_goBy, h1, h2, h3, e3]
  have hw := w_goBy (x := x) (d := d) h1 hb hu f (fun o h' => o = rV ∧ h' = hS h (q + 2) (cI 289 (fwy b u 17 0 f))) 17 0 f (by omega) hf rfl ⟨rfl, rfl⟩
  rw [e5] at hw
  (repeat' (first | refine k_brI (fun _ => ?_) (fun _ => ?_) | refine And.intro ?_ ?_))
  all_goals first | omega | exact hw
set_option maxRecDepth 100000 in
set_option maxHeartbeats 4000000 in
theorem w_rfx {b : Nat} (h1 : h.2 q = some (cO 0 [vR (q + 1), vR (q + 2), vI e, vI s])) (h2 : h.2 (q + 1) = some (cI 289 C)) (hb : b < 17) (hd : 1 ≤ d) (P : PO → PH → Prop) : ∀ (j u : Nat) (f : F_), u + j = 17 → cOk f →
    k_Wp x d 0 0 mX0_refresh P 0 0 54 [some (vR q), some (vI b), none] [] (hS h (q + 2) (cI 289 (fwx b j u f))) →
    k_Wp x d 0 0 mX0_refresh P 0 0 36 [some (vR q), some (vI b), some (vI u)] [] (hS h (q + 2) (cI 289 f)) := by
  intro j
  induction j with
  | zero =>
    intro u f hu hf hP
    have e1 : (17 : Int) ≤ u := by omega
    refine p_go [54] 30 ?_
    simp only [st_0, st_1, st_2, st_3, st_4, st_5, st_6, st_7, st_8, st_9, st_10, st_11, st_12, st_13, st_14, st_15, st_16, st_17, st_18, st_19, st_20, st_21, st_22, st_23, st_24, st_25, st_26, st_27, st_28, st_29, st_30, st_31, st_32, st_33, st_34, st_34a, st_35, st_36, st_37, st_38, st_39, st_42, st_44, st_45, st_47, st_40, st_41, st_46, st_48, st_49, st_43, go_0, go_s, cut_0, cut_s, get_0, get_s, put_0, put_1, put_s, clr_0, clr_s, unl_i, unl_l, unl_r, unl_n, nth_0, nth_s, sf_0, sf_s, cnd_0, cnd_1, cnd_2, cnd_3, cnd_4, cnd_5, fit_0, fit_1, fit_2, en_0, en_i, en_l, en_r, kb_t, kb_f, kb_n, sw_0, sw_s, ↓reduceIte, Nat.reduceEqDiff, Nat.left_eq_add, Nat.add_eq_left, Nat.add_left_cancel_iff, Nat.reduceAdd, Int.reduceLT, Int.reduceLE, Int.reduceAdd, Int.reduceSub, Int.reduceNeg, Int.reduceMul, Int.reduceToNat, Int.reduceEq, reduceCtorEq, true_and, and_true, true_or, or_true, and_false, false_and, or_false, false_or, not_true_eq_false, not_false_eq_true, Nat.le_refl, and_self, Sum.inl.injEq, Sum.inr.injEq, Option.some.injEq, hS_2, k_isref, pd_0, pd_s, List.cons_append, List.nil_append, Option.toList_none, Option.toList_some, tX0_refresh, rX0_refresh, e1]
    exact p_sub (by (repeat (first | exact le_nil | refine le_s ?_ | refine le_n ?_))) hP
  | succ j ih =>
    intro u f hu hf hP
    have e1 : ¬ (17 : Int) ≤ u := by omega
    have hC : Cs (hS h (q + 2) (cI 289 f)) q C f e s := ⟨(hS_n (by omega)).trans h1, (hS_n (by omega)).trans h2, hS_s _ _ _⟩
    refine p_go [] 30 ?_
    simp only [st_0, st_1, st_2, st_3, st_4, st_5, st_6, st_7, st_8, st_9, st_10, st_11, st_12, st_13, st_14, st_15, st_16, st_17, st_18, st_19, st_20, st_21, st_22, st_23, st_24, st_25, st_26, st_27, st_28, st_29, st_30, st_31, st_32, st_33, st_34, st_34a, st_35, st_36, st_37, st_38, st_39, st_42, st_44, st_45, st_47, st_40, st_41, st_46, st_48, st_49, st_43, go_0, go_s, cut_0, cut_s, get_0, get_s, put_0, put_1, put_s, clr_0, clr_s, unl_i, unl_l, unl_r, unl_n, nth_0, nth_s, sf_0, sf_s, cnd_0, cnd_1, cnd_2, cnd_3, cnd_4, cnd_5, fit_0, fit_1, fit_2, en_0, en_i, en_l, en_r, kb_t, kb_f, kb_n, sw_0, sw_s, ↓reduceIte, Nat.reduceEqDiff, Nat.left_eq_add, Nat.add_eq_left, Nat.add_left_cancel_iff, Nat.reduceAdd, Int.reduceLT, Int.reduceLE, Int.reduceAdd, Int.reduceSub, Int.reduceNeg, Int.reduceMul, Int.reduceToNat, Int.reduceEq, reduceCtorEq, true_and, and_true, true_or, or_true, and_false, false_and, or_false, false_or, not_true_eq_false, not_false_eq_true, Nat.le_refl, and_self, Sum.inl.injEq, Sum.inr.injEq, Option.some.injEq, hS_2, k_isref, pd_0, pd_s, List.cons_append, List.nil_append, Option.toList_none, Option.toList_some, tX0_refresh, rX0_refresh, e1]
    refine cV (d' := 0) [vI u, vI b] [] l_0_41 hC.1 (e_goBy hC hb (by omega) hf) hd (p_go [36] 30 ?_)
    simp only [st_0, st_1, st_2, st_3, st_4, st_5, st_6, st_7, st_8, st_9, st_10, st_11, st_12, st_13, st_14, st_15, st_16, st_17, st_18, st_19, st_20, st_21, st_22, st_23, st_24, st_25, st_26, st_27, st_28, st_29, st_30, st_31, st_32, st_33, st_34, st_34a, st_35, st_36, st_37, st_38, st_39, st_42, st_44, st_45, st_47, st_40, st_41, st_46, st_48, st_49, st_43, go_0, go_s, cut_0, cut_s, get_0, get_s, put_0, put_1, put_s, clr_0, clr_s, unl_i, unl_l, unl_r, unl_n, nth_0, nth_s, sf_0, sf_s, cnd_0, cnd_1, cnd_2, cnd_3, cnd_4, cnd_5, fit_0, fit_1, fit_2, en_0, en_i, en_l, en_r, kb_t, kb_f, kb_n, sw_0, sw_s, ↓reduceIte, Nat.reduceEqDiff, Nat.left_eq_add, Nat.add_eq_left, Nat.add_left_cancel_iff, Nat.reduceAdd, Int.reduceLT, Int.reduceLE, Int.reduceAdd, Int.reduceSub, Int.reduceNeg, Int.reduceMul, Int.reduceToNat, Int.reduceEq, reduceCtorEq, true_and, and_true, true_or, or_true, and_false, false_and, or_false, false_or, not_true_eq_false, not_false_eq_true, Nat.le_refl, and_self, Sum.inl.injEq, Sum.inr.injEq, Option.some.injEq, hS_2, k_isref, pd_0, pd_s, List.cons_append, List.nil_append, Option.toList_none, Option.toList_some, tX0_refresh, rX0_refresh, nat1, hS_hS]
    exact ⟨⟨by omega, by omega⟩, ih (u + 1) _ (by omega) (fwy_ok hb (by omega) 17 0 f (by omega) hf) hP⟩
set_option maxRecDepth 100000 in
set_option maxHeartbeats 4000000 in
theorem w_rfb (h1 : h.2 q = some (cO 0 [vR (q + 1), vR (q + 2), vI e, vI s])) (h2 : h.2 (q + 1) = some (cI 289 C)) (hd : 1 ≤ d) (P : PO → PH → Prop) : ∀ (j b : Nat) (f : F_), b + j = 17 → cOk f →
    P rV (hS (hS h (q + 2) (cI 289 (fwb j b f))) q (cO 0 [vR (q + 1), vR (q + 2), vI e, vI 0])) →
    k_Wp x d 0 0 mX0_refresh P 0 0 28 [some (vR q), some (vI b), none] [] (hS h (q + 2) (cI 289 f)) := by
  intro j
  induction j with
  | zero =>
    intro b f hb hf hP
    have e1 : (17 : Int) ≤ b := by omega
    refine p_go [] 30 ?_
    simp only [st_0, st_1, st_2, st_3, st_4, st_5, st_6, st_7, st_8, st_9, st_10, st_11, st_12, st_13, st_14, st_15, st_16, st_17, st_18, st_19, st_20, st_21, st_22, st_23, st_24, st_25, st_26, st_27, st_28, st_29, st_30, st_31, st_32, st_33, st_34, st_34a, st_35, st_36, st_37, st_38, st_39, st_42, st_44, st_45, st_47, st_40, st_41, st_46, st_48, st_49, st_43, go_0, go_s, cut_0, cut_s, get_0, get_s, put_0, put_1, put_s, clr_0, clr_s, unl_i, unl_l, unl_r, unl_n, nth_0, nth_s, sf_0, sf_s, cnd_0, cnd_1, cnd_2, cnd_3, cnd_4, cnd_5, fit_0, fit_1, fit_2, en_0, en_i, en_l, en_r, kb_t, kb_f, kb_n, sw_0, sw_s, ↓reduceIte, Nat.reduceEqDiff, Nat.left_eq_add, Nat.add_eq_left, Nat.add_left_cancel_iff, Nat.reduceAdd, Int.reduceLT, Int.reduceLE, Int.reduceAdd, Int.reduceSub, Int.reduceNeg, Int.reduceMul, Int.reduceToNat, Int.reduceEq, reduceCtorEq, true_and, and_true, true_or, or_true, and_false, false_and, or_false, false_or, not_true_eq_false, not_false_eq_true, Nat.le_refl, and_self, Sum.inl.injEq, Sum.inr.injEq, Option.some.injEq, hS_2, k_isref, pd_0, pd_s, List.cons_append, List.nil_append, Option.toList_none, Option.toList_some, tX0_refresh, rX0_refresh, e1, h1]
    exact hP
  | succ j ih =>
    intro b f hb hf hP
    have e1 : ¬ (17 : Int) ≤ b := by omega
    refine p_go [36] 30 ?_
    simp only [st_0, st_1, st_2, st_3, st_4, st_5, st_6, st_7, st_8, st_9, st_10, st_11, st_12, st_13, st_14, st_15, st_16, st_17, st_18, st_19, st_20, st_21, st_22, st_23, st_24, st_25, st_26, st_27, st_28, st_29, st_30, st_31, st_32, st_33, st_34, st_34a, st_35, st_36, st_37, st_38, st_39, st_42, st_44, st_45, st_47, st_40, st_41, st_46, st_48, st_49, st_43, go_0, go_s, cut_0, cut_s, get_0, get_s, put_0, put_1, put_s, clr_0, clr_s, unl_i, unl_l, unl_r, unl_n, nth_0, nth_s, sf_0, sf_s, cnd_0, cnd_1, cnd_2, cnd_3, cnd_4, cnd_5, fit_0, fit_1, fit_2, en_0, en_i, en_l, en_r, kb_t, kb_f, kb_n, sw_0, sw_s, ↓reduceIte, Nat.reduceEqDiff, Nat.left_eq_add, Nat.add_eq_left, Nat.add_left_cancel_iff, Nat.reduceAdd, Int.reduceLT, Int.reduceLE, Int.reduceAdd, Int.reduceSub, Int.reduceNeg, Int.reduceMul, Int.reduceToNat, Int.reduceEq, reduceCtorEq, true_and, and_true, true_or, or_true, and_false, false_and, or_false, false_or, not_true_eq_false, not_false_eq_true, Nat.le_refl, and_self, Sum.inl.injEq, Sum.inr.injEq, Option.some.injEq, hS_2, k_isref, pd_0, pd_s, List.cons_append, List.nil_append, Option.toList_none, Option.toList_some, tX0_refresh, rX0_refresh, e1]
    refine w_rfx h1 h2 (by omega) hd P 17 0 f (by omega) hf (p_go [28] 30 ?_)
    simp only [st_0, st_1, st_2, st_3, st_4, st_5, st_6, st_7, st_8, st_9, st_10, st_11, st_12, st_13, st_14, st_15, st_16, st_17, st_18, st_19, st_20, st_21, st_22, st_23, st_24, st_25, st_26, st_27, st_28, st_29, st_30, st_31, st_32, st_33, st_34, st_34a, st_35, st_36, st_37, st_38, st_39, st_42, st_44, st_45, st_47, st_40, st_41, st_46, st_48, st_49, st_43, go_0, go_s, cut_0, cut_s, get_0, get_s, put_0, put_1, put_s, clr_0, clr_s, unl_i, unl_l, unl_r, unl_n, nth_0, nth_s, sf_0, sf_s, cnd_0, cnd_1, cnd_2, cnd_3, cnd_4, cnd_5, fit_0, fit_1, fit_2, en_0, en_i, en_l, en_r, kb_t, kb_f, kb_n, sw_0, sw_s, ↓reduceIte, Nat.reduceEqDiff, Nat.left_eq_add, Nat.add_eq_left, Nat.add_left_cancel_iff, Nat.reduceAdd, Int.reduceLT, Int.reduceLE, Int.reduceAdd, Int.reduceSub, Int.reduceNeg, Int.reduceMul, Int.reduceToNat, Int.reduceEq, reduceCtorEq, true_and, and_true, true_or, or_true, and_false, false_and, or_false, false_or, not_true_eq_false, not_false_eq_true, Nat.le_refl, and_self, Sum.inl.injEq, Sum.inr.injEq, Option.some.injEq, hS_2, k_isref, pd_0, pd_s, List.cons_append, List.nil_append, Option.toList_none, Option.toList_some, tX0_refresh, rX0_refresh, nat1]
    exact ⟨⟨by omega, by omega⟩, ih (b + 1) _ (by omega) (fwx_ok (by omega) 17 0 f (by omega) hf) hP⟩
/-- refresh: behind it the nears are those of the costs -/
def rfN (C N : F_) (s : Int) : F_ := if s = 0 then N else fw C
set_option maxRecDepth 100000 in
set_option maxHeartbeats 4000000 in
theorem e_refresh {N : F_} (hC : Cs h q C N e s) (hc : cOk C) (hd : 1 ≤ d) (hs : s = 0 ∨ s = 1) (hN : s = 0 → N = fw C) : k_Ev x d 0 0 mX0_refresh [vR q] h (fun o h' => o = rV ∧ h' = hS (hS h (q + 2) (cI 289 (fw C))) q (cO 0 [vR (q + 1), vR (q + 2), vI e, vI 0])) := by
  obtain ⟨h1, h2, h3⟩ := hC
  refine k_enp 2 (Nat.le_of_ble_eq_true rfl) (p_go [28] 30 ?_)
  simp only [st_0, st_1, st_2, st_3, st_4, st_5, st_6, st_7, st_8, st_9, st_10, st_11, st_12, st_13, st_14, st_15, st_16, st_17, st_18, st_19, st_20, st_21, st_22, st_23, st_24, st_25, st_26, st_27, st_28, st_29, st_30, st_31, st_32, st_33, st_34, st_34a, st_35, st_36, st_37, st_38, st_39, st_42, st_44, st_45, st_47, st_40, st_41, st_46, st_48, st_49, st_43, go_0, go_s, cut_0, cut_s, get_0, get_s, put_0, put_1, put_s, clr_0, clr_s, unl_i, unl_l, unl_r, unl_n, nth_0, nth_s, sf_0, sf_s, cnd_0, cnd_1, cnd_2, cnd_3, cnd_4, cnd_5, fit_0, fit_1, fit_2, en_0, en_i, en_l, en_r, kb_t, kb_f, kb_n, sw_0, sw_s, ↓reduceIte, Nat.reduceEqDiff, Nat.left_eq_add, Nat.add_eq_left, Nat.add_left_cancel_iff, Nat.reduceAdd, Int.reduceLT, Int.reduceLE, Int.reduceAdd, Int.reduceSub, Int.reduceNeg, Int.reduceMul, Int.reduceToNat, Int.reduceEq, reduceCtorEq, true_and, and_true, true_or, or_true, and_false, false_and, or_false, false_or, not_true_eq_false, not_false_eq_true, Nat.le_refl, and_self, Sum.inl.injEq, Sum.inr.injEq, Option.some.injEq, hS_2, k_isref, pd_0, pd_s, List.cons_append, List.nil_append, Option.toList_none, Option.toList_some, tX0_refresh, rX0_refresh, h1, h2, h3]
  rcases hs with rfl | rfl
  · refine k_brT rfl ?_
    rw [← hN rfl, hS_id h3, hS_id h1]
  · refine k_brF (by decide) ?_
    refine p_copy (by rfl) h2 h3 (by decide) (by decide) (by decide) (by decide) (by decide) hd (by decide) (p_go [28] 30 ?_)
    simp only [st_0, st_1, st_2, st_3, st_4, st_5, st_6, st_7, st_8, st_9, st_10, st_11, st_12, st_13, st_14, st_15, st_16, st_17, st_18, st_19, st_20, st_21, st_22, st_23, st_24, st_25, st_26, st_27, st_28, st_29, st_30, st_31, st_32, st_33, st_34, st_34a, st_35, st_36, st_37, st_38, st_39, st_42, st_44, st_45, st_47, st_40, st_41, st_46, st_48, st_49, st_43, go_0, go_s, cut_0, cut_s, get_0, get_s, put_0, put_1, put_s, clr_0, clr_s, unl_i, unl_l, unl_r, unl_n, nth_0, nth_s, sf_0, sf_s, cnd_0, cnd_1, cnd_2, cnd_3, cnd_4, cnd_5, fit_0, fit_1, fit_2, en_0, en_i, en_l, en_r, kb_t, kb_f, kb_n, sw_0, sw_s, ↓reduceIte, Nat.reduceEqDiff, Nat.left_eq_add, Nat.add_eq_left, Nat.add_left_cancel_iff, Nat.reduceAdd, Int.reduceLT, Int.reduceLE, Int.reduceAdd, Int.reduceSub, Int.reduceNeg, Int.reduceMul, Int.reduceToNat, Int.reduceEq, reduceCtorEq, true_and, and_true, true_or, or_true, and_false, false_and, or_false, false_or, not_true_eq_false, not_false_eq_true, Nat.le_refl, and_self, Sum.inl.injEq, Sum.inr.injEq, Option.some.injEq, hS_2, k_isref, pd_0, pd_s, List.cons_append, List.nil_append, Option.toList_none, Option.toList_some, tX0_refresh, rX0_refresh]
    refine p_eqA C (hS_s _ _ _) (by decide) (fun j hj => ?_) ?_
    · show va_cpy C N 0 0 289 j = C j
      unfold va_cpy
      rw [if_pos (by omega)]
      congr 1; omega
    · rw [hS_hS]
      exact w_rfb h1 h2 hd _ 17 0 C (by omega) hc ⟨rfl, rfl⟩
theorem Cs.rf {N N2 : F_} (hC : Cs h q C N e s) : Cs (hS (hS h (q + 2) (cI 289 N2)) q (cO 0 [vR (q + 1), vR (q + 2), vI e, vI 0])) q C N2 e 0 := ⟨hS_s _ _ _, (hS_n (by omega)).trans ((hS_n (by omega)).trans hC.2.1), (hS_n (by omega)).trans (hS_s _ _ _)⟩
set_option maxRecDepth 100000 in
set_option maxHeartbeats 4000000 in
theorem e_least {N : F_} {a b : Int} (hC : Cs h q C N e s) (hc : cOk C) (hd : 2 ≤ d) (hs : s = 0 ∨ s = 1) (hN : s = 0 → N = fw C) (ha : -1 ≤ a ∧ a < 16) (hb : -1 ≤ b ∧ b < 16) : k_Ev x d 0 0 mX0_least [vR q, vI a, vI b] h (fun o h' => o = rI (fw C (17 * (a + 1).toNat + (b + 1).toNat)) ∧ h' = hS (hS h (q + 2) (cI 289 (fw C))) q (cO 0 [vR (q + 1), vR (q + 2), vI e, vI 0])) := by
  have hC2 := Cs.rf (N2 := fw C) hC
  have e1 : ((a + 1) * 17 + b + 1).toNat = 17 * (a + 1).toNat + (b + 1).toNat := by omega
  refine k_enp 0 (Nat.le_of_ble_eq_true rfl) (p_go [] 30 ?_)
  simp only [st_0, st_1, st_2, st_3, st_4, st_5, st_6, st_7, st_8, st_9, st_10, st_11, st_12, st_13, st_14, st_15, st_16, st_17, st_18, st_19, st_20, st_21, st_22, st_23, st_24, st_25, st_26, st_27, st_28, st_29, st_30, st_31, st_32, st_33, st_34, st_34a, st_35, st_36, st_37, st_38, st_39, st_42, st_44, st_45, st_47, st_40, st_41, st_46, st_48, st_49, st_43, go_0, go_s, cut_0, cut_s, get_0, get_s, put_0, put_1, put_s, clr_0, clr_s, unl_i, unl_l, unl_r, unl_n, nth_0, nth_s, sf_0, sf_s, cnd_0, cnd_1, cnd_2, cnd_3, cnd_4, cnd_5, fit_0, fit_1, fit_2, en_0, en_i, en_l, en_r, kb_t, kb_f, kb_n, sw_0, sw_s, ↓reduceIte, Nat.reduceEqDiff, Nat.left_eq_add, Nat.add_eq_left, Nat.add_left_cancel_iff, Nat.reduceAdd, Int.reduceLT, Int.reduceLE, Int.reduceAdd, Int.reduceSub, Int.reduceNeg, Int.reduceMul, Int.reduceToNat, Int.reduceEq, reduceCtorEq, true_and, and_true, true_or, or_true, and_false, false_and, or_false, false_or, not_true_eq_false, not_false_eq_true, Nat.le_refl, and_self, Sum.inl.injEq, Sum.inr.injEq, Option.some.injEq, hS_2, k_isref, pd_0, pd_s, List.cons_append, List.nil_append, Option.toList_none, Option.toList_some, tX0_least, rX0_least]
  refine cV (d' := 1) [] [] l_0_32 hC.1 (e_refresh hC hc (by omega) hs hN) hd (p_go [] 30 ?_)
  simp only [st_0, st_1, st_2, st_3, st_4, st_5, st_6, st_7, st_8, st_9, st_10, st_11, st_12, st_13, st_14, st_15, st_16, st_17, st_18, st_19, st_20, st_21, st_22, st_23, st_24, st_25, st_26, st_27, st_28, st_29, st_30, st_31, st_32, st_33, st_34, st_34a, st_35, st_36, st_37, st_38, st_39, st_42, st_44, st_45, st_47, st_40, st_41, st_46, st_48, st_49, st_43, go_0, go_s, cut_0, cut_s, get_0, get_s, put_0, put_1, put_s, clr_0, clr_s, unl_i, unl_l, unl_r, unl_n, nth_0, nth_s, sf_0, sf_s, cnd_0, cnd_1, cnd_2, cnd_3, cnd_4, cnd_5, fit_0, fit_1, fit_2, en_0, en_i, en_l, en_r, kb_t, kb_f, kb_n, sw_0, sw_s, ↓reduceIte, Nat.reduceEqDiff, Nat.left_eq_add, Nat.add_eq_left, Nat.add_left_cancel_iff, Nat.reduceAdd, Int.reduceLT, Int.reduceLE, Int.reduceAdd, Int.reduceSub, Int.reduceNeg, Int.reduceMul, Int.reduceToNat, Int.reduceEq, reduceCtorEq, true_and, and_true, true_or, or_true, and_false, false_and, or_false, false_or, not_true_eq_false, not_false_eq_true, Nat.le_refl, and_self, Sum.inl.injEq, Sum.inr.injEq, Option.some.injEq, hS_2, k_isref, pd_0, pd_s, List.cons_append, List.nil_append, Option.toList_none, Option.toList_some, tX0_least, rX0_least, e1]
  (repeat' (first | refine k_brI (fun _ => ?_) (fun _ => ?_) | refine And.intro ?_ ?_))
  all_goals omega
set_option maxRecDepth 100000 in
set_option maxHeartbeats 4000000 in
theorem e_change {N : F_} {a b c : Int} (hC : Cs h q C N e s) (ha : -1 ≤ a ∧ a < 16) (hb : -1 ≤ b ∧ b < 16) (he : 0 ≤ e ∧ e < 100000) : k_Ev x d 0 0 mX0_change [vR q, vI a, vI b, vI c] h (fun o h' => o = rI (C (17 * (a + 1).toNat + (b + 1).toNat)) ∧ h' = hS (hS h (q + 1) (cI 289 (fS (fS C (17 * (a + 1).toNat + (b + 1).toNat) c) (17 * (b + 1).toNat + (a + 1).toNat) c))) q (cO 0 [vR (q + 1), vR (q + 2), vI (e + 1), vI 1])) := by
  obtain ⟨h1, h2, h3⟩ := hC
  have e1 : ((a + 1) * 17 + b + 1).toNat = 17 * (a + 1).toNat + (b + 1).toNat := by omega
  have e2 : ((b + 1) * 17 + a + 1).toNat = 17 * (b + 1).toNat + (a + 1).toNat := by omega
  refine k_enp 1 (Nat.le_of_ble_eq_true rfl) (p_go [] 60 ?_)
  simp only [st_0, st_1, st_2, st_3, st_4, st_5, st_6, st_7, st_8, st_9, st_10, st_11, st_12, st_13, st_14, st_15, st_16, st_17, st_18, st_19, st_20, st_21, st_22, st_23, st_24, st_25, st_26, st_27, st_28, st_29, st_30, st_31, st_32, st_33, st_34, st_34a, st_35, st_36, st_37, st_38, st_39, st_42, st_44, st_45, st_47, st_40, st_41, st_46, st_48, st_49, st_43, go_0, go_s, cut_0, cut_s, get_0, get_s, put_0, put_1, put_s, clr_0, clr_s, unl_i, unl_l, unl_r, unl_n, nth_0, nth_s, sf_0, sf_s, cnd_0, cnd_1, cnd_2, cnd_3, cnd_4, cnd_5, fit_0, fit_1, fit_2, en_0, en_i, en_l, en_r, kb_t, kb_f, kb_n, sw_0, sw_s, ↓reduceIte, Nat.reduceEqDiff, Nat.left_eq_add, Nat.add_eq_left, Nat.add_left_cancel_iff, Nat.reduceAdd, Int.reduceLT, Int.reduceLE, Int.reduceAdd, Int.reduceSub, Int.reduceNeg, Int.reduceMul, Int.reduceToNat, Int.reduceEq, reduceCtorEq, true_and, and_true, true_or, or_true, and_false, false_and, or_false, false_or, not_true_eq_false, not_false_eq_true, Nat.le_refl, and_self, Sum.inl.injEq, Sum.inr.injEq, Option.some.injEq, hS_2, k_isref, pd_0, pd_s, List.cons_append, List.nil_append, Option.toList_none, Option.toList_some, tX0_change, rX0_change, h1, h2, h3, e1, e2]
  (repeat' (first | refine k_brI (fun _ => ?_) (fun _ => ?_) | refine And.intro ?_ ?_))
  all_goals try omega
  refine PHx rfl (fun z => ?_)
  simp only [hS_2]
  by_cases b1 : z = q + 1
  · subst b1; simp
  · by_cases b2 : z = q
    · subst b2; simp
    · simp [b1, b2]
end Costs23
