/-! the reference: chooses, best, chosen -/
section Mcho74
variable {x : Bool} {d : Nat} {h h0 : PH} {s C : F_} {P : PO → PH → Prop} {SW WS WM : F_} {sz : Nat}
/-- all slots have words, and there are two at least -/
def rdyM (SW : F_) (sz : Nat) : Prop := 2 ≤ sz ∧ ∀ i, i < sz → 0 < SW i
set_option maxRecDepth 100000 in
set_option maxHeartbeats 4000000 in
theorem w_mrdy (h1 : h.2 57 = some (mO s)) (h102 : h.2 87 = some (cI 8 SW)) (h52 : s 52 = sz) (hsz : sz ≤ 8)
    (kT : rdyM SW sz → k_Wp x d 0 0 mX12_chooses P 0 0 49 [some (vR 57), some (vI 1), none, none, none, none, none, none] [] h)
    (kF : ¬ rdyM SW sz → k_Wp x d 0 0 mX12_chooses P 0 0 49 [some (vR 57), some (vI 0), none, none, none, none, none, none] [] h) : ∀ (j i : Nat) (can : Int), i + j = sz → ((can = 1 ∧ 2 ≤ sz ∧ ∀ u, u < i → 0 < SW u) ∨ (can = 0 ∧ ¬ rdyM SW sz)) →
    k_Wp x d 0 0 mX12_chooses P 0 0 16 [some (vR 57), some (vI can), some (vI i), none, none, none, none, none] [] h := by
  intro j
  induction j with
  | zero =>
    intro i can hi hc
    have e1 : s 52 ≤ (i : Int) := by omega
    refine p_go [49] 40 ?_
    simp only [st_0, st_1, st_2, st_3, st_4, st_5, st_6, st_7, st_8, st_9, st_10, st_11, st_12, st_13, st_14, st_15, st_16, st_17, st_18, st_19, st_20, st_21, st_22, st_23, st_24, st_25, st_26, st_27, st_28, st_29, st_30, st_31, st_32, st_33, st_34, st_34a, st_35, st_36, st_37, st_38, st_39, st_42, st_44, st_45, st_47, st_40, st_41, st_46, st_48, st_49, st_43, go_0, go_s, cut_0, cut_s, get_0, get_s, put_0, put_1, put_s, clr_0, clr_s, unl_i, unl_l, unl_r, unl_n, nth_0, nth_s, sf_0, sf_s, cnd_0, cnd_1, cnd_2, cnd_3, cnd_4, cnd_5, fit_0, fit_1, fit_2, en_0, en_i, en_l, en_r, kb_t, kb_f, kb_n, sw_0, sw_s, ↓reduceIte, Nat.reduceEqDiff, Nat.left_eq_add, Nat.add_eq_left, Nat.add_left_cancel_iff, Nat.reduceAdd, Int.reduceLT, Int.reduceLE, Int.reduceAdd, Int.reduceSub, Int.reduceNeg, Int.reduceMul, Int.reduceToNat, Int.reduceEq, reduceCtorEq, true_and, and_true, true_or, or_true, and_false, false_and, or_false, false_or, not_true_eq_false, not_false_eq_true, Nat.le_refl, and_self, Sum.inl.injEq, Sum.inr.injEq, Option.some.injEq, hS_2, k_isref, pd_0, pd_s, List.cons_append, List.nil_append, Option.toList_none, Option.toList_some, tX12_chooses, rX12_chooses, h1, e1]
    rcases hc with ⟨rfl, c1, c2⟩ | ⟨rfl, c1⟩
    · exact p_sub (by (repeat (first | exact le_nil | refine le_s ?_ | refine le_n ?_))) (kT ⟨c1, fun u hu => c2 u (by omega)⟩)
    · exact p_sub (by (repeat (first | exact le_nil | refine le_s ?_ | refine le_n ?_))) (kF c1)
  | succ j ih =>
    intro i can hi hc
    have e1 : ¬ s 52 ≤ (i : Int) := by omega
    refine p_go [16] 40 ?_
    rcases hc with ⟨rfl, c1, c2⟩ | ⟨rfl, c1⟩
    · simp only [st_0, st_1, st_2, st_3, st_4, st_5, st_6, st_7, st_8, st_9, st_10, st_11, st_12, st_13, st_14, st_15, st_16, st_17, st_18, st_19, st_20, st_21, st_22, st_23, st_24, st_25, st_26, st_27, st_28, st_29, st_30, st_31, st_32, st_33, st_34, st_34a, st_35, st_36, st_37, st_38, st_39, st_42, st_44, st_45, st_47, st_40, st_41, st_46, st_48, st_49, st_43, go_0, go_s, cut_0, cut_s, get_0, get_s, put_0, put_1, put_s, clr_0, clr_s, unl_i, unl_l, unl_r, unl_n, nth_0, nth_s, sf_0, sf_s, cnd_0, cnd_1, cnd_2, cnd_3, cnd_4, cnd_5, fit_0, fit_1, fit_2, en_0, en_i, en_l, en_r, kb_t, kb_f, kb_n, sw_0, sw_s, ↓reduceIte, Nat.reduceEqDiff, Nat.left_eq_add, Nat.add_eq_left, Nat.add_left_cancel_iff, Nat.reduceAdd, Int.reduceLT, Int.reduceLE, Int.reduceAdd, Int.reduceSub, Int.reduceNeg, Int.reduceMul, Int.reduceToNat, Int.reduceEq, reduceCtorEq, true_and, and_true, true_or, or_true, and_false, false_and, or_false, false_or, not_true_eq_false, not_false_eq_true, Nat.le_refl, and_self, Sum.inl.injEq, Sum.inr.injEq, Option.some.injEq, hS_2, k_isref, pd_0, pd_s, List.cons_append, List.nil_append, Option.toList_none, Option.toList_some, tX12_chooses, rX12_chooses, h1, h102, e1, nat1, Int.toNat_natCast]
      refine ⟨⟨by omega, by omega⟩, k_brI (fun c => ⟨⟨by omega, by omega⟩, ?_⟩) (fun c => ⟨⟨by omega, by omega⟩, ?_⟩)⟩
      · exact ih (i + 1) 0 (by omega) (Or.inr ⟨rfl, fun q => by have := q.2 i (by omega); omega⟩)
      · refine ih (i + 1) 1 (by omega) (Or.inl ⟨rfl, c1, fun u hu => ?_⟩)
        by_cases e : u = i
        · subst e; omega
        · exact c2 u (by omega)
    · simp only [st_0, st_1, st_2, st_3, st_4, st_5, st_6, st_7, st_8, st_9, st_10, st_11, st_12, st_13, st_14, st_15, st_16, st_17, st_18, st_19, st_20, st_21, st_22, st_23, st_24, st_25, st_26, st_27, st_28, st_29, st_30, st_31, st_32, st_33, st_34, st_34a, st_35, st_36, st_37, st_38, st_39, st_42, st_44, st_45, st_47, st_40, st_41, st_46, st_48, st_49, st_43, go_0, go_s, cut_0, cut_s, get_0, get_s, put_0, put_1, put_s, clr_0, clr_s, unl_i, unl_l, unl_r, unl_n, nth_0, nth_s, sf_0, sf_s, cnd_0, cnd_1, cnd_2, cnd_3, cnd_4, cnd_5, fit_0, fit_1, fit_2, en_0, en_i, en_l, en_r, kb_t, kb_f, kb_n, sw_0, sw_s, ↓reduceIte, Nat.reduceEqDiff, Nat.left_eq_add, Nat.add_eq_left, Nat.add_left_cancel_iff, Nat.reduceAdd, Int.reduceLT, Int.reduceLE, Int.reduceAdd, Int.reduceSub, Int.reduceNeg, Int.reduceMul, Int.reduceToNat, Int.reduceEq, reduceCtorEq, true_and, and_true, true_or, or_true, and_false, false_and, or_false, false_or, not_true_eq_false, not_false_eq_true, Nat.le_refl, and_self, Sum.inl.injEq, Sum.inr.injEq, Option.some.injEq, hS_2, k_isref, pd_0, pd_s, List.cons_append, List.nil_append, Option.toList_none, Option.toList_some, tX12_chooses, rX12_chooses, h1, e1, nat1]
      exact ⟨⟨by omega, by omega⟩, ih (i + 1) 0 (by omega) (Or.inr ⟨rfl, c1⟩)⟩
abbrev vld (SW : F_) (a : Nat) : Prop := ((a % 4 : Nat) : Int) < SW (a / 4)
abbrev gpW (C WS WM : F_) (a b : Nat) : Int := ds (fw C) (sdf WS (20 * a)) (WM a).toNat (sdf WS (20 * b)) (WM b).toNat
/-- how far the words lie apart, before word w and word v -/
def farI (C WS WM SW F : F_) (w v : Nat) : Prop := ∀ a b, a < 32 → b < 32 → vld SW a → vld SW b → (a < w ∨ (a = w ∧ b < v)) → F (32 * a + b) = gpW C WS WM a b
theorem Md.b103 {c c' : PC} (hM : Md (hS h0 88 c) h s C) : Md (hS h0 88 c') (hS h 88 c') s C := by
  obtain ⟨m1, m2, ⟨m3, N, m4, m5⟩, ⟨tb, m6⟩, m7⟩ := hM
  refine ⟨m1, (hS_n (by decide)).trans m2, ⟨(hS_n (by decide)).trans m3, N, (hS_n (by decide)).trans m4, m5⟩, ⟨tb, (hS_n (by decide)).trans m6⟩, fun z z1 z2 z3 => ?_⟩
  by_cases e : z = 88
  · subst e
    exact (hS_s _ _ _).trans (hS_s _ _ _).symm
  · exact (hS_n e).trans ((m7 z z1 z2 z3).trans ((hS_n e).trans (hS_n e).symm))
theorem farI_s {F : F_} {w v : Nat} {u : Int} (hI : farI C WS WM SW F w v) (hv : v < 32) (hu : vld SW w → vld SW v → u = gpW C WS WM w v) : farI C WS WM SW (fS F (32 * w + v) u) w (v + 1) := by
  intro a b ha hb va vb hab
  by_cases e : 32 * a + b = 32 * w + v
  · have e1 : a = w ∧ b = v := by omega
    rw [e, fS_s, e1.1, e1.2]
    exact hu (by rw [← e1.1]; exact va) (by rw [← e1.2]; exact vb)
  · rw [fS_n e]
    exact hI a b ha hb va vb (by omega)
set_option maxRecDepth 100000 in
set_option maxHeartbeats 4000000 in
theorem w_farV {can : Int} {w : Nat} (hc : cOk C) (h100 : h0.2 85 = some (cI 640 WS)) (h101 : h0.2 86 = some (cI 32 WM)) (h102 : h0.2 87 = some (cI 8 SW)) (hW : ∀ a, a < 32 → vld SW a → (0 ≤ WM a ∧ WM a ≤ 20) ∧ rvd WS (20 * a) (WM a)) (hsy : symN (fw C)) (hd : 2 ≤ d) (hw : w < 32)
    (kk : ∀ F h t, Md (hS h0 88 (cI 1024 F)) h t C → (∀ i, i ≠ 3 → t i = s i) → farI C WS WM SW F (w + 1) 0 → k_Wp x d 0 0 mX12_chooses P 0 0 152 [some (vR 57), some (vI can), some (vI w), none, none, none, none, none] [] h) : ∀ (j v : Nat) (F : F_) (h : PH) (t : F_), v + j = 32 → Md (hS h0 88 (cI 1024 F)) h t C → (∀ i, i ≠ 3 → t i = s i) → farI C WS WM SW F w v →
    k_Wp x d 0 0 mX12_chooses P 0 0 65 [some (vR 57), some (vI can), some (vI w), some (vI v), none, none, none, none] [] h := by
  intro j
  induction j with
  | zero =>
    intro v F h t hv hM hE hI
    have e1 : (32 : Int) ≤ v := by omega
    refine p_go [152] 40 ?_
    simp only [st_0, st_1, st_2, st_3, st_4, st_5, st_6, st_7, st_8, st_9, st_10, st_11, st_12, st_13, st_14, st_15, st_16, st_17, st_18, st_19, st_20, st_21, st_22, st_23, st_24, st_25, st_26, st_27, st_28, st_29, st_30, st_31, st_32, st_33, st_34, st_34a, st_35, st_36, st_37, st_38, st_39, st_42, st_44, st_45, st_47, st_40, st_41, st_46, st_48, st_49, st_43, go_0, go_s, cut_0, cut_s, get_0, get_s, put_0, put_1, put_s, clr_0, clr_s, unl_i, unl_l, unl_r, unl_n, nth_0, nth_s, sf_0, sf_s, cnd_0, cnd_1, cnd_2, cnd_3, cnd_4, cnd_5, fit_0, fit_1, fit_2, en_0, en_i, en_l, en_r, kb_t, kb_f, kb_n, sw_0, sw_s, ↓reduceIte, Nat.reduceEqDiff, Nat.left_eq_add, Nat.add_eq_left, Nat.add_left_cancel_iff, Nat.reduceAdd, Int.reduceLT, Int.reduceLE, Int.reduceAdd, Int.reduceSub, Int.reduceNeg, Int.reduceMul, Int.reduceToNat, Int.reduceEq, reduceCtorEq, true_and, and_true, true_or, or_true, and_false, false_and, or_false, false_or, not_true_eq_false, not_false_eq_true, Nat.le_refl, and_self, Sum.inl.injEq, Sum.inr.injEq, Option.some.injEq, hS_2, k_isref, pd_0, pd_s, List.cons_append, List.nil_append, Option.toList_none, Option.toList_some, tX12_chooses, rX12_chooses, e1]
    exact p_sub (by (repeat (first | exact le_nil | refine le_s ?_ | refine le_n ?_))) (kk F h t hM hE (fun a b ha hb va vb hab => hI a b ha hb va vb (by omega)))
  | succ j ih =>
    intro v F h t hv hM hE hI
    have e1 : ¬ (32 : Int) ≤ v := by omega
    have h1 := hM.2.1
    have hz := fun z z1 z2 z3 (z4 : z ≠ 88) => (hM.2.2.2.2 z z1 z2 z3).trans (hS_n z4)
    have k101 := (hz 86 (by decide) (by decide) (by decide) (by decide)).trans h101
    have k102 := (hz 87 (by decide) (by decide) (by decide) (by decide)).trans h102
    have e2 : ((w : Int) / 4).toNat = w / 4 := by omega
    have e3 : (w : Int) % 4 = ((w % 4 : Nat) : Int) := by omega
    have e4 : ((v : Int) / 4).toNat = v / 4 := by omega
    have e5 : (v : Int) % 4 = ((v % 4 : Nat) : Int) := by omega
    have e6 : ((32 : Int) * w + v).toNat = 32 * w + v := by omega
    have e7 : (20 : Int) * w = ((20 * w : Nat) : Int) := by omega
    have e8 : (20 : Int) * v = ((20 * v : Nat) : Int) := by omega
    have fin : ∀ (u : Int) (h' : PH) (t' : F_), Md (hS h0 88 (cI 1024 F)) h' t' C → (∀ i, i ≠ 3 → t' i = s i) → (vld SW w → vld SW v → u = gpW C WS WM w v) → k_Wp x d 0 0 mX12_chooses P 0 0 145 [some (vR 57), some (vI can), some (vI w), some (vI v), none, none, none, none] [vI u, vI ((32 : Int) * w + v), vR 88] h' := by
      intro u h' t' hM' hE' hu
      have k103 : h'.2 88 = some (cI 1024 F) := (hM'.2.2.2.2 88 (by decide) (by decide) (by decide)).trans (hS_s _ _ _)
      have hnx := ih (v + 1) (fS F (32 * w + v) u) _ t' (by omega) (hM'.b103) hE' (farI_s hI (by omega) hu)
      refine p_go [65] 40 ?_
      simp only [st_0, st_1, st_2, st_3, st_4, st_5, st_6, st_7, st_8, st_9, st_10, st_11, st_12, st_13, st_14, st_15, st_16, st_17, st_18, st_19, st_20, st_21, st_22, st_23, st_24, st_25, st_26, st_27, st_28, st_29, st_30, st_31, st_32, st_33, st_34, st_34a, st_35, st_36, st_37, st_38, st_39, st_42, st_44, st_45, st_47, st_40, st_41, st_46, st_48, st_49, st_43, go_0, go_s, cut_0, cut_s, get_0, get_s, put_0, put_1, put_s, clr_0, clr_s, unl_i, unl_l, unl_r, unl_n, nth_0, nth_s, sf_0, sf_s, cnd_0, cnd_1, cnd_2, cnd_3, cnd_4, cnd_5, fit_0, fit_1, fit_2, en_0, en_i, en_l, en_r, kb_t, kb_f, kb_n, sw_0, sw_s, ↓reduceIte, Nat.reduceEqDiff, Nat.left_eq_add, Nat.add_eq_left, Nat.add_left_cancel_iff, Nat.reduceAdd, Int.reduceLT, Int.reduceLE, Int.reduceAdd, Int.reduceSub, Int.reduceNeg, Int.reduceMul, Int.reduceToNat, Int.reduceEq, reduceCtorEq, true_and, and_true, true_or, or_true, and_false, false_and, or_false, false_or, not_true_eq_false, not_false_eq_true, Nat.le_refl, and_self, Sum.inl.injEq, Sum.inr.injEq, Option.some.injEq, hS_2, k_isref, pd_0, pd_s, List.cons_append, List.nil_append, Option.toList_none, Option.toList_some, tX12_chooses, rX12_chooses, k103, e6, nat1]
      repeat (first | exact p_sub (by (repeat (first | exact le_nil | refine le_s ?_ | refine le_n ?_))) hnx | refine ⟨⟨by omega, by omega⟩, ?_⟩)
    refine p_go [145] 60 ?_
    by_cases va : vld SW w
    · have g1 : ¬ SW (w / 4) ≤ ((w % 4 : Nat) : Int) := by have := va; omega
      by_cases vb : vld SW v
      · have g2 : ¬ SW (v / 4) ≤ ((v % 4 : Nat) : Int) := by have := vb; omega
        obtain ⟨b1, v1⟩ := hW w hw va
        obtain ⟨b2, v2⟩ := hW v (by omega) vb
        obtain ⟨n, en⟩ : ∃ n : Nat, WM w = (n : Int) := ⟨(WM w).toNat, by omega⟩
        obtain ⟨m, em⟩ : ∃ n : Nat, WM v = (n : Int) := ⟨(WM v).toNat, by omega⟩
        have k100' : (hS h0 88 (cI 1024 F)).2 85 = some (cI 640 WS) := (hS_n (by decide)).trans h100
        have hev := e_mdist' (x := x) (d := 1) (A := 85) (B := 85) (fr := 20 * w) (st := 20 * v) (n := n) (m := m) hM hc k100' k100' (by decide) (by decide) (by omega) (by omega) (by omega) (by omega) (by omega) (by omega) (by rw [← en]; exact v1) (by rw [← em]; exact v2) hsy (Nat.le_refl 1)
        simp only [st_0, st_1, st_2, st_3, st_4, st_5, st_6, st_7, st_8, st_9, st_10, st_11, st_12, st_13, st_14, st_15, st_16, st_17, st_18, st_19, st_20, st_21, st_22, st_23, st_24, st_25, st_26, st_27, st_28, st_29, st_30, st_31, st_32, st_33, st_34, st_34a, st_35, st_36, st_37, st_38, st_39, st_42, st_44, st_45, st_47, st_40, st_41, st_46, st_48, st_49, st_43, go_0, go_s, cut_0, cut_s, get_0, get_s, put_0, put_1, put_s, clr_0, clr_s, unl_i, unl_l, unl_r, unl_n, nth_0, nth_s, sf_0, sf_s, cnd_0, cnd_1, cnd_2, cnd_3, cnd_4, cnd_5, fit_0, fit_1, fit_2, en_0, en_i, en_l, en_r, kb_t, kb_f, kb_n, sw_0, sw_s, ↓reduceIte, Nat.reduceEqDiff, Nat.left_eq_add, Nat.add_eq_left, Nat.add_left_cancel_iff, Nat.reduceAdd, Int.reduceLT, Int.reduceLE, Int.reduceAdd, Int.reduceSub, Int.reduceNeg, Int.reduceMul, Int.reduceToNat, Int.reduceEq, reduceCtorEq, true_and, and_true, true_or, or_true, and_false, false_and, or_false, false_or, not_true_eq_false, not_false_eq_true, Nat.le_refl, and_self, Sum.inl.injEq, Sum.inr.injEq, Option.some.injEq, hS_2, k_isref, pd_0, pd_s, List.cons_append, List.nil_append, Option.toList_none, Option.toList_some, tX12_chooses, rX12_chooses, h1, k101, k102, e1, e2, e3, e4, e5, e7, e8, g1, g2, en, em, Int.toNat_natCast]
        repeat (first | refine ⟨⟨by omega, by omega⟩, ?_⟩ | refine And.intro (by omega) ?_)
        refine cVQ (d' := 1) [vR 85, vI ((20 * w : Nat) : Int), vI n, vR 85, vI ((20 * v : Nat) : Int), vI m] [vI ((32 : Int) * w + v), vR 88] l_12_227 h1 hev (by omega) ?_ (fun E h' q => by cases q.1)
        intro r1 h2 ⟨q1, q2⟩
        cases q1
        refine p_go [145] 40 ?_
        simp only [st_0, st_1, st_2, st_3, st_4, st_5, st_6, st_7, st_8, st_9, st_10, st_11, st_12, st_13, st_14, st_15, st_16, st_17, st_18, st_19, st_20, st_21, st_22, st_23, st_24, st_25, st_26, st_27, st_28, st_29, st_30, st_31, st_32, st_33, st_34, st_34a, st_35, st_36, st_37, st_38, st_39, st_42, st_44, st_45, st_47, st_40, st_41, st_46, st_48, st_49, st_43, go_0, go_s, cut_0, cut_s, get_0, get_s, put_0, put_1, put_s, clr_0, clr_s, unl_i, unl_l, unl_r, unl_n, nth_0, nth_s, sf_0, sf_s, cnd_0, cnd_1, cnd_2, cnd_3, cnd_4, cnd_5, fit_0, fit_1, fit_2, en_0, en_i, en_l, en_r, kb_t, kb_f, kb_n, sw_0, sw_s, ↓reduceIte, Nat.reduceEqDiff, Nat.left_eq_add, Nat.add_eq_left, Nat.add_left_cancel_iff, Nat.reduceAdd, Int.reduceLT, Int.reduceLE, Int.reduceAdd, Int.reduceSub, Int.reduceNeg, Int.reduceMul, Int.reduceToNat, Int.reduceEq, reduceCtorEq, true_and, and_true, true_or, or_true, and_false, false_and, or_false, false_or, not_true_eq_false, not_false_eq_true, Nat.le_refl, and_self, Sum.inl.injEq, Sum.inr.injEq, Option.some.injEq, hS_2, k_isref, pd_0, pd_s, List.cons_append, List.nil_append, Option.toList_none, Option.toList_some, tX12_chooses, rX12_chooses]
        exact fin _ h2 _ q2 (fun i i1 => (mS_n i1).trans (hE i i1)) (fun _ _ => by unfold gpW; rw [en, em, Int.toNat_natCast, Int.toNat_natCast])
      · have g2 : SW (v / 4) ≤ ((v % 4 : Nat) : Int) := by have := vb; omega
        have hl := fin 0 h t hM hE (fun _ q => absurd q vb)
        simp only [st_0, st_1, st_2, st_3, st_4, st_5, st_6, st_7, st_8, st_9, st_10, st_11, st_12, st_13, st_14, st_15, st_16, st_17, st_18, st_19, st_20, st_21, st_22, st_23, st_24, st_25, st_26, st_27, st_28, st_29, st_30, st_31, st_32, st_33, st_34, st_34a, st_35, st_36, st_37, st_38, st_39, st_42, st_44, st_45, st_47, st_40, st_41, st_46, st_48, st_49, st_43, go_0, go_s, cut_0, cut_s, get_0, get_s, put_0, put_1, put_s, clr_0, clr_s, unl_i, unl_l, unl_r, unl_n, nth_0, nth_s, sf_0, sf_s, cnd_0, cnd_1, cnd_2, cnd_3, cnd_4, cnd_5, fit_0, fit_1, fit_2, en_0, en_i, en_l, en_r, kb_t, kb_f, kb_n, sw_0, sw_s, ↓reduceIte, Nat.reduceEqDiff, Nat.left_eq_add, Nat.add_eq_left, Nat.add_left_cancel_iff, Nat.reduceAdd, Int.reduceLT, Int.reduceLE, Int.reduceAdd, Int.reduceSub, Int.reduceNeg, Int.reduceMul, Int.reduceToNat, Int.reduceEq, reduceCtorEq, true_and, and_true, true_or, or_true, and_false, false_and, or_false, false_or, not_true_eq_false, not_false_eq_true, Nat.le_refl, and_self, Sum.inl.injEq, Sum.inr.injEq, Option.some.injEq, hS_2, k_isref, pd_0, pd_s, List.cons_append, List.nil_append, Option.toList_none, Option.toList_some, tX12_chooses, rX12_chooses, h1, k102, e1, e2, e3, e4, e5, g1, g2]
        repeat (first | exact hl | refine ⟨⟨by omega, by omega⟩, ?_⟩ | refine And.intro (by omega) ?_)
    · have g1 : SW (w / 4) ≤ ((w % 4 : Nat) : Int) := by have := va; omega
      have hl := fin 0 h t hM hE (fun q _ => absurd q va)
      simp only [st_0, st_1, st_2, st_3, st_4, st_5, st_6, st_7, st_8, st_9, st_10, st_11, st_12, st_13, st_14, st_15, st_16, st_17, st_18, st_19, st_20, st_21, st_22, st_23, st_24, st_25, st_26, st_27, st_28, st_29, st_30, st_31, st_32, st_33, st_34, st_34a, st_35, st_36, st_37, st_38, st_39, st_42, st_44, st_45, st_47, st_40, st_41, st_46, st_48, st_49, st_43, go_0, go_s, cut_0, cut_s, get_0, get_s, put_0, put_1, put_s, clr_0, clr_s, unl_i, unl_l, unl_r, unl_n, nth_0, nth_s, sf_0, sf_s, cnd_0, cnd_1, cnd_2, cnd_3, cnd_4, cnd_5, fit_0, fit_1, fit_2, en_0, en_i, en_l, en_r, kb_t, kb_f, kb_n, sw_0, sw_s, ↓reduceIte, Nat.reduceEqDiff, Nat.left_eq_add, Nat.add_eq_left, Nat.add_left_cancel_iff, Nat.reduceAdd, Int.reduceLT, Int.reduceLE, Int.reduceAdd, Int.reduceSub, Int.reduceNeg, Int.reduceMul, Int.reduceToNat, Int.reduceEq, reduceCtorEq, true_and, and_true, true_or, or_true, and_false, false_and, or_false, false_or, not_true_eq_false, not_false_eq_true, Nat.le_refl, and_self, Sum.inl.injEq, Sum.inr.injEq, Option.some.injEq, hS_2, k_isref, pd_0, pd_s, List.cons_append, List.nil_append, Option.toList_none, Option.toList_some, tX12_chooses, rX12_chooses, h1, k102, e1, e2, e3, g1]
      repeat (first | exact hl | refine ⟨⟨by omega, by omega⟩, ?_⟩ | refine And.intro (by omega) ?_)
set_option maxRecDepth 100000 in
set_option maxHeartbeats 4000000 in
theorem w_farW {can : Int} (hc : cOk C) (h100 : h0.2 85 = some (cI 640 WS)) (h101 : h0.2 86 = some (cI 32 WM)) (h102 : h0.2 87 = some (cI 8 SW)) (hW : ∀ a, a < 32 → vld SW a → (0 ≤ WM a ∧ WM a ≤ 20) ∧ rvd WS (20 * a) (WM a)) (hsy : symN (fw C)) (hd : 2 ≤ d)
    (kk : ∀ F h t, Md (hS h0 88 (cI 1024 F)) h t C → (∀ i, i ≠ 3 → t i = s i) → farI C WS WM SW F 32 0 → k_Wp x d 0 0 mX12_chooses P 0 0 158 [some (vR 57), some (vI can), none, none, none, none, none, none] [] h) : ∀ (j w : Nat) (F : F_) (h : PH) (t : F_), w + j = 32 → Md (hS h0 88 (cI 1024 F)) h t C → (∀ i, i ≠ 3 → t i = s i) → farI C WS WM SW F w 0 →
    k_Wp x d 0 0 mX12_chooses P 0 0 57 [some (vR 57), some (vI can), some (vI w), none, none, none, none, none] [] h := by
  intro j
  induction j with
  | zero =>
    intro w F h t hw hM hE hI
    have e1 : (32 : Int) ≤ w := by omega
    refine p_go [158] 40 ?_
    simp only [st_0, st_1, st_2, st_3, st_4, st_5, st_6, st_7, st_8, st_9, st_10, st_11, st_12, st_13, st_14, st_15, st_16, st_17, st_18, st_19, st_20, st_21, st_22, st_23, st_24, st_25, st_26, st_27, st_28, st_29, st_30, st_31, st_32, st_33, st_34, st_34a, st_35, st_36, st_37, st_38, st_39, st_42, st_44, st_45, st_47, st_40, st_41, st_46, st_48, st_49, st_43, go_0, go_s, cut_0, cut_s, get_0, get_s, put_0, put_1, put_s, clr_0, clr_s, unl_i, unl_l, unl_r, unl_n, nth_0, nth_s, sf_0, sf_s, cnd_0, cnd_1, cnd_2, cnd_3, cnd_4, cnd_5, fit_0, fit_1, fit_2, en_0, en_i, en_l, en_r, kb_t, kb_f, kb_n, sw_0, sw_s, ↓reduceIte, Nat.reduceEqDiff, Nat.left_eq_add, Nat.add_eq_left, Nat.add_left_cancel_iff, Nat.reduceAdd, Int.reduceLT, Int.reduceLE, Int.reduceAdd, Int.reduceSub, Int.reduceNeg, Int.reduceMul, Int.reduceToNat, Int.reduceEq, reduceCtorEq, true_and, and_true, true_or, or_true, and_false, false_and, or_false, false_or, not_true_eq_false, not_false_eq_true, Nat.le_refl, and_self, Sum.inl.injEq, Sum.inr.injEq, Option.some.injEq, hS_2, k_isref, pd_0, pd_s, List.cons_append, List.nil_append, Option.toList_none, Option.toList_some, tX12_chooses, rX12_chooses, e1]
    exact p_sub (by (repeat (first | exact le_nil | refine le_s ?_ | refine le_n ?_))) (kk F h t hM hE (fun a b ha hb va vb hab => hI a b ha hb va vb (by omega)))
  | succ j ih =>
    intro w F h t hw hM hE hI
    have e1 : ¬ (32 : Int) ≤ w := by omega
    refine p_go [65] 40 ?_
    simp only [st_0, st_1, st_2, st_3, st_4, st_5, st_6, st_7, st_8, st_9, st_10, st_11, st_12, st_13, st_14, st_15, st_16, st_17, st_18, st_19, st_20, st_21, st_22, st_23, st_24, st_25, st_26, st_27, st_28, st_29, st_30, st_31, st_32, st_33, st_34, st_34a, st_35, st_36, st_37, st_38, st_39, st_42, st_44, st_45, st_47, st_40, st_41, st_46, st_48, st_49, st_43, go_0, go_s, cut_0, cut_s, get_0, get_s, put_0, put_1, put_s, clr_0, clr_s, unl_i, unl_l, unl_r, unl_n, nth_0, nth_s, sf_0, sf_s, cnd_0, cnd_1, cnd_2, cnd_3, cnd_4, cnd_5, fit_0, fit_1, fit_2, en_0, en_i, en_l, en_r, kb_t, kb_f, kb_n, sw_0, sw_s, ↓reduceIte, Nat.reduceEqDiff, Nat.left_eq_add, Nat.add_eq_left, Nat.add_left_cancel_iff, Nat.reduceAdd, Int.reduceLT, Int.reduceLE, Int.reduceAdd, Int.reduceSub, Int.reduceNeg, Int.reduceMul, Int.reduceToNat, Int.reduceEq, reduceCtorEq, true_and, and_true, true_or, or_true, and_false, false_and, or_false, false_or, not_true_eq_false, not_false_eq_true, Nat.le_refl, and_self, Sum.inl.injEq, Sum.inr.injEq, Option.some.injEq, hS_2, k_isref, pd_0, pd_s, List.cons_append, List.nil_append, Option.toList_none, Option.toList_some, tX12_chooses, rX12_chooses, e1]
    refine w_farV hc h100 h101 h102 hW hsy hd (by omega) (fun F' h' t' hM' hE' hI' => p_go [57] 40 ?_) 32 0 F h t (by omega) hM hE hI
    simp only [st_0, st_1, st_2, st_3, st_4, st_5, st_6, st_7, st_8, st_9, st_10, st_11, st_12, st_13, st_14, st_15, st_16, st_17, st_18, st_19, st_20, st_21, st_22, st_23, st_24, st_25, st_26, st_27, st_28, st_29, st_30, st_31, st_32, st_33, st_34, st_34a, st_35, st_36, st_37, st_38, st_39, st_42, st_44, st_45, st_47, st_40, st_41, st_46, st_48, st_49, st_43, go_0, go_s, cut_0, cut_s, get_0, get_s, put_0, put_1, put_s, clr_0, clr_s, unl_i, unl_l, unl_r, unl_n, nth_0, nth_s, sf_0, sf_s, cnd_0, cnd_1, cnd_2, cnd_3, cnd_4, cnd_5, fit_0, fit_1, fit_2, en_0, en_i, en_l, en_r, kb_t, kb_f, kb_n, sw_0, sw_s, ↓reduceIte, Nat.reduceEqDiff, Nat.left_eq_add, Nat.add_eq_left, Nat.add_left_cancel_iff, Nat.reduceAdd, Int.reduceLT, Int.reduceLE, Int.reduceAdd, Int.reduceSub, Int.reduceNeg, Int.reduceMul, Int.reduceToNat, Int.reduceEq, reduceCtorEq, true_and, and_true, true_or, or_true, and_false, false_and, or_false, false_or, not_true_eq_false, not_false_eq_true, Nat.le_refl, and_self, Sum.inl.injEq, Sum.inr.injEq, Option.some.injEq, hS_2, k_isref, pd_0, pd_s, List.cons_append, List.nil_append, Option.toList_none, Option.toList_some, tX12_chooses, rX12_chooses, nat1]
    exact ⟨⟨by omega, by omega⟩, p_sub (by (repeat (first | exact le_nil | refine le_s ?_ | refine le_n ?_))) (ih (w + 1) F' h' t' (by omega) hM' hE' hI')⟩
set_option maxRecDepth 100000 in
set_option maxHeartbeats 4000000 in
theorem w_chZ {can : Int} (h1 : h.2 57 = some (mO s)) (h52 : s 52 = sz) (hsz : sz ≤ 8) {G : F_}
    (kk : k_Wp x d 0 0 mX12_chooses P 0 0 181 [some (vR 57), some (vI can), none, none, none, none, none, none] [] (hS h 89 (cI 8 G))) : ∀ (j i : Nat) (ch : F_), i + j = sz → flF 0 j i ch = G →
    k_Wp x d 0 0 mX12_chooses P 0 0 160 [some (vR 57), some (vI can), some (vI i), none, none, none, none, none] [] (hS h 89 (cI 8 ch)) := by
  intro j
  induction j with
  | zero =>
    intro i ch hi he
    have he : ch = G := he
    subst he
    have e1 : s 52 ≤ (i : Int) := by omega
    refine p_go [181] 40 ?_
    simp only [st_0, st_1, st_2, st_3, st_4, st_5, st_6, st_7, st_8, st_9, st_10, st_11, st_12, st_13, st_14, st_15, st_16, st_17, st_18, st_19, st_20, st_21, st_22, st_23, st_24, st_25, st_26, st_27, st_28, st_29, st_30, st_31, st_32, st_33, st_34, st_34a, st_35, st_36, st_37, st_38, st_39, st_42, st_44, st_45, st_47, st_40, st_41, st_46, st_48, st_49, st_43, go_0, go_s, cut_0, cut_s, get_0, get_s, put_0, put_1, put_s, clr_0, clr_s, unl_i, unl_l, unl_r, unl_n, nth_0, nth_s, sf_0, sf_s, cnd_0, cnd_1, cnd_2, cnd_3, cnd_4, cnd_5, fit_0, fit_1, fit_2, en_0, en_i, en_l, en_r, kb_t, kb_f, kb_n, sw_0, sw_s, ↓reduceIte, Nat.reduceEqDiff, Nat.left_eq_add, Nat.add_eq_left, Nat.add_left_cancel_iff, Nat.reduceAdd, Int.reduceLT, Int.reduceLE, Int.reduceAdd, Int.reduceSub, Int.reduceNeg, Int.reduceMul, Int.reduceToNat, Int.reduceEq, reduceCtorEq, true_and, and_true, true_or, or_true, and_false, false_and, or_false, false_or, not_true_eq_false, not_false_eq_true, Nat.le_refl, and_self, Sum.inl.injEq, Sum.inr.injEq, Option.some.injEq, hS_2, k_isref, pd_0, pd_s, List.cons_append, List.nil_append, Option.toList_none, Option.toList_some, tX12_chooses, rX12_chooses, h1, e1]
    exact p_sub (by (repeat (first | exact le_nil | refine le_s ?_ | refine le_n ?_))) kk
  | succ j ih =>
    intro i ch hi he
    have e1 : ¬ s 52 ≤ (i : Int) := by omega
    have hl := ih (i + 1) (fS ch i 0) (by omega) he
    refine p_go [160] 40 ?_
    simp only [st_0, st_1, st_2, st_3, st_4, st_5, st_6, st_7, st_8, st_9, st_10, st_11, st_12, st_13, st_14, st_15, st_16, st_17, st_18, st_19, st_20, st_21, st_22, st_23, st_24, st_25, st_26, st_27, st_28, st_29, st_30, st_31, st_32, st_33, st_34, st_34a, st_35, st_36, st_37, st_38, st_39, st_42, st_44, st_45, st_47, st_40, st_41, st_46, st_48, st_49, st_43, go_0, go_s, cut_0, cut_s, get_0, get_s, put_0, put_1, put_s, clr_0, clr_s, unl_i, unl_l, unl_r, unl_n, nth_0, nth_s, sf_0, sf_s, cnd_0, cnd_1, cnd_2, cnd_3, cnd_4, cnd_5, fit_0, fit_1, fit_2, en_0, en_i, en_l, en_r, kb_t, kb_f, kb_n, sw_0, sw_s, ↓reduceIte, Nat.reduceEqDiff, Nat.left_eq_add, Nat.add_eq_left, Nat.add_left_cancel_iff, Nat.reduceAdd, Int.reduceLT, Int.reduceLE, Int.reduceAdd, Int.reduceSub, Int.reduceNeg, Int.reduceMul, Int.reduceToNat, Int.reduceEq, reduceCtorEq, true_and, and_true, true_or, or_true, and_false, false_and, or_false, false_or, not_true_eq_false, not_false_eq_true, Nat.le_refl, and_self, Sum.inl.injEq, Sum.inr.injEq, Option.some.injEq, hS_2, k_isref, pd_0, pd_s, List.cons_append, List.nil_append, Option.toList_none, Option.toList_some, tX12_chooses, rX12_chooses, h1, e1, nat1, hS_hS, Int.toNat_natCast]
    (repeat (first | exact hl | refine ⟨⟨by omega, by omega⟩, ?_⟩ | refine And.intro (by omega) ?_))
/-- what chooses ends with -/
def choQ (h0 h : PH) (s C WS WM SW ch bs : F_) (sz : Nat) : PO → PH → Prop := fun o h' => (¬ rdyM SW sz ∧ o = rI (-1) ∧ h' = h) ∨ (rdyM SW sz ∧ ∃ F h3 t, Md (hS h0 88 (cI 1024 F)) h3 t C ∧ (∀ i, i ≠ 3 → t i = s i) ∧ farI C WS WM SW F 32 0 ∧ o = rI (fldM F sz SW sz 0 (flF 0 sz 0 ch) (-1, bs)).1 ∧ h' = chH h3 (flF 0 sz 0 ch) (fldM F sz SW sz 0 (flF 0 sz 0 ch) (-1, bs)).2)
set_option maxRecDepth 100000 in
set_option maxHeartbeats 4000000 in
theorem e_chooses {F0 ch bs : F_} (hM : Md h0 h s C) (hc : cOk C) (h100 : h0.2 85 = some (cI 640 WS)) (h101 : h0.2 86 = some (cI 32 WM)) (h102 : h0.2 87 = some (cI 8 SW)) (h103 : h0.2 88 = some (cI 1024 F0)) (h104 : h0.2 89 = some (cI 8 ch)) (h105 : h0.2 90 = some (cI 8 bs)) (hSW : ∀ i, i < 8 → 0 ≤ SW i ∧ SW i ≤ 4) (hW : ∀ a, a < 32 → vld SW a → (0 ≤ WM a ∧ WM a ≤ 20) ∧ rvd WS (20 * a) (WM a)) (h52 : s 52 = sz) (hsz : sz ≤ 8) (hsy : symN (fw C)) (hd : 2 ≤ d) :
    k_Ev x d 0 0 mX12_chooses [vR 57] h (choQ h0 h s C WS WM SW ch bs sz) := by
  have h1 := hM.2.1
  have hz := hM.2.2.2.2
  have k102 := (hz 87 (by decide) (by decide) (by decide)).trans h102
  have kF : ¬ rdyM SW sz → k_Wp x d 0 0 mX12_chooses (choQ h0 h s C WS WM SW ch bs sz) 0 0 49 [some (vR 57), some (vI 0), none, none, none, none, none, none] [] h := by
    intro hr
    refine p_go [] 40 ?_
    simp only [st_0, st_1, st_2, st_3, st_4, st_5, st_6, st_7, st_8, st_9, st_10, st_11, st_12, st_13, st_14, st_15, st_16, st_17, st_18, st_19, st_20, st_21, st_22, st_23, st_24, st_25, st_26, st_27, st_28, st_29, st_30, st_31, st_32, st_33, st_34, st_34a, st_35, st_36, st_37, st_38, st_39, st_42, st_44, st_45, st_47, st_40, st_41, st_46, st_48, st_49, st_43, go_0, go_s, cut_0, cut_s, get_0, get_s, put_0, put_1, put_s, clr_0, clr_s, unl_i, unl_l, unl_r, unl_n, nth_0, nth_s, sf_0, sf_s, cnd_0, cnd_1, cnd_2, cnd_3, cnd_4, cnd_5, fit_0, fit_1, fit_2, en_0, en_i, en_l, en_r, kb_t, kb_f, kb_n, sw_0, sw_s, ↓reduceIte, Nat.reduceEqDiff, Nat.left_eq_add, Nat.add_eq_left, Nat.add_left_cancel_iff, Nat.reduceAdd, Int.reduceLT, Int.reduceLE, Int.reduceAdd, Int.reduceSub, Int.reduceNeg, Int.reduceMul, Int.reduceToNat, Int.reduceEq, reduceCtorEq, true_and, and_true, true_or, or_true, and_false, false_and, or_false, false_or, not_true_eq_false, not_false_eq_true, Nat.le_refl, and_self, Sum.inl.injEq, Sum.inr.injEq, Option.some.injEq, hS_2, k_isref, pd_0, pd_s, List.cons_append, List.nil_append, Option.toList_none, Option.toList_some, tX12_chooses, rX12_chooses]
    exact Or.inl ⟨hr, rfl, rfl⟩
  have kT : rdyM SW sz → k_Wp x d 0 0 mX12_chooses (choQ h0 h s C WS WM SW ch bs sz) 0 0 49 [some (vR 57), some (vI 1), none, none, none, none, none, none] [] h := by
    intro hr
    have hM0 : Md (hS h0 88 (cI 1024 F0)) h s C := by rw [hS_id h103]; exact hM
    refine p_go [57] 40 ?_
    simp only [st_0, st_1, st_2, st_3, st_4, st_5, st_6, st_7, st_8, st_9, st_10, st_11, st_12, st_13, st_14, st_15, st_16, st_17, st_18, st_19, st_20, st_21, st_22, st_23, st_24, st_25, st_26, st_27, st_28, st_29, st_30, st_31, st_32, st_33, st_34, st_34a, st_35, st_36, st_37, st_38, st_39, st_42, st_44, st_45, st_47, st_40, st_41, st_46, st_48, st_49, st_43, go_0, go_s, cut_0, cut_s, get_0, get_s, put_0, put_1, put_s, clr_0, clr_s, unl_i, unl_l, unl_r, unl_n, nth_0, nth_s, sf_0, sf_s, cnd_0, cnd_1, cnd_2, cnd_3, cnd_4, cnd_5, fit_0, fit_1, fit_2, en_0, en_i, en_l, en_r, kb_t, kb_f, kb_n, sw_0, sw_s, ↓reduceIte, Nat.reduceEqDiff, Nat.left_eq_add, Nat.add_eq_left, Nat.add_left_cancel_iff, Nat.reduceAdd, Int.reduceLT, Int.reduceLE, Int.reduceAdd, Int.reduceSub, Int.reduceNeg, Int.reduceMul, Int.reduceToNat, Int.reduceEq, reduceCtorEq, true_and, and_true, true_or, or_true, and_false, false_and, or_false, false_or, not_true_eq_false, not_false_eq_true, Nat.le_refl, and_self, Sum.inl.injEq, Sum.inr.injEq, Option.some.injEq, hS_2, k_isref, pd_0, pd_s, List.cons_append, List.nil_append, Option.toList_none, Option.toList_some, tX12_chooses, rX12_chooses]
    refine w_farW hc h100 h101 h102 hW hsy hd (fun F h3 t hM3 hE3 hI3 => ?_) 32 0 F0 h s (by omega) hM0 (fun i hi => rfl) (fun a b ha hb va vb hab => by omega)
    have j1 := hM3.2.1
    have jz := fun z z1 z2 z3 (z4 : z ≠ 88) => (hM3.2.2.2.2 z z1 z2 z3).trans (hS_n z4)
    have j52 : t 52 = sz := (hE3 52 (by decide)).trans h52
    have j104 := (jz 89 (by decide) (by decide) (by decide) (by decide)).trans h104
    have j105 := (jz 90 (by decide) (by decide) (by decide) (by decide)).trans h105
    have j102 := (jz 87 (by decide) (by decide) (by decide) (by decide)).trans h102
    have j103 : h3.2 88 = some (cI 1024 F) := (hM3.2.2.2.2 88 (by decide) (by decide) (by decide)).trans (hS_s _ _ _)
    refine p_go [160] 40 ?_
    simp only [st_0, st_1, st_2, st_3, st_4, st_5, st_6, st_7, st_8, st_9, st_10, st_11, st_12, st_13, st_14, st_15, st_16, st_17, st_18, st_19, st_20, st_21, st_22, st_23, st_24, st_25, st_26, st_27, st_28, st_29, st_30, st_31, st_32, st_33, st_34, st_34a, st_35, st_36, st_37, st_38, st_39, st_42, st_44, st_45, st_47, st_40, st_41, st_46, st_48, st_49, st_43, go_0, go_s, cut_0, cut_s, get_0, get_s, put_0, put_1, put_s, clr_0, clr_s, unl_i, unl_l, unl_r, unl_n, nth_0, nth_s, sf_0, sf_s, cnd_0, cnd_1, cnd_2, cnd_3, cnd_4, cnd_5, fit_0, fit_1, fit_2, en_0, en_i, en_l, en_r, kb_t, kb_f, kb_n, sw_0, sw_s, ↓reduceIte, Nat.reduceEqDiff, Nat.left_eq_add, Nat.add_eq_left, Nat.add_left_cancel_iff, Nat.reduceAdd, Int.reduceLT, Int.reduceLE, Int.reduceAdd, Int.reduceSub, Int.reduceNeg, Int.reduceMul, Int.reduceToNat, Int.reduceEq, reduceCtorEq, true_and, and_true, true_or, or_true, and_false, false_and, or_false, false_or, not_true_eq_false, not_false_eq_true, Nat.le_refl, and_self, Sum.inl.injEq, Sum.inr.injEq, Option.some.injEq, hS_2, k_isref, pd_0, pd_s, List.cons_append, List.nil_append, Option.toList_none, Option.toList_some, tX12_chooses, rX12_chooses]
    have hw := w_chZ (x := x) (d := d) (P := choQ h0 h s C WS WM SW ch bs sz) (can := 1) (h := h3) j1 j52 hsz (G := flF 0 sz 0 ch) ?_ sz 0 ch (by omega) rfl
    · rw [hS_id j104] at hw
      exact hw
    · have eH : hS h3 89 (cI 8 (flF 0 sz 0 ch)) = chH h3 (flF 0 sz 0 ch) bs := by
        unfold chH
        rw [hS_id ((hS_n (by decide)).trans j105)]
      rw [eH]
      refine p_go [185] 40 ?_
      simp only [st_0, st_1, st_2, st_3, st_4, st_5, st_6, st_7, st_8, st_9, st_10, st_11, st_12, st_13, st_14, st_15, st_16, st_17, st_18, st_19, st_20, st_21, st_22, st_23, st_24, st_25, st_26, st_27, st_28, st_29, st_30, st_31, st_32, st_33, st_34, st_34a, st_35, st_36, st_37, st_38, st_39, st_42, st_44, st_45, st_47, st_40, st_41, st_46, st_48, st_49, st_43, go_0, go_s, cut_0, cut_s, get_0, get_s, put_0, put_1, put_s, clr_0, clr_s, unl_i, unl_l, unl_r, unl_n, nth_0, nth_s, sf_0, sf_s, cnd_0, cnd_1, cnd_2, cnd_3, cnd_4, cnd_5, fit_0, fit_1, fit_2, en_0, en_i, en_l, en_r, kb_t, kb_f, kb_n, sw_0, sw_s, ↓reduceIte, Nat.reduceEqDiff, Nat.left_eq_add, Nat.add_eq_left, Nat.add_left_cancel_iff, Nat.reduceAdd, Int.reduceLT, Int.reduceLE, Int.reduceAdd, Int.reduceSub, Int.reduceNeg, Int.reduceMul, Int.reduceToNat, Int.reduceEq, reduceCtorEq, true_and, and_true, true_or, or_true, and_false, false_and, or_false, false_or, not_true_eq_false, not_false_eq_true, Nat.le_refl, and_self, Sum.inl.injEq, Sum.inr.injEq, Option.some.injEq, hS_2, k_isref, pd_0, pd_s, List.cons_append, List.nil_append, Option.toList_none, Option.toList_some, tX12_chooses, rX12_chooses]
      refine w_chF j1 j103 j102 j52 hsz (by have := hr.1; omega) (fun i hi => by have := hr.2 i hi; have := hSW i (by omega); omega) sz 0 (flF 0 sz 0 ch) (-1, bs) (by omega) (fun i i1 i2 => by rw [flF_e, if_pos (by omega)]) (fun i hi => by omega) ?_
      have hP : choQ h0 h s C WS WM SW ch bs sz (rI (fldM F sz SW sz 0 (flF 0 sz 0 ch) (-1, bs)).1) (chH h3 (flF 0 sz 0 ch) (fldM F sz SW sz 0 (flF 0 sz 0 ch) (-1, bs)).2) := Or.inr ⟨hr, F, h3, t, hM3, hE3, hI3, rfl, rfl⟩
      generalize fldM F sz SW sz 0 (flF 0 sz 0 ch) (-1, bs) = R at hP ⊢
      have e0 : ((0 : Nat) : Int) - 1 < 0 := by omega
      refine p_go [] 40 ?_
      simp only [st_0, st_1, st_2, st_3, st_4, st_5, st_6, st_7, st_8, st_9, st_10, st_11, st_12, st_13, st_14, st_15, st_16, st_17, st_18, st_19, st_20, st_21, st_22, st_23, st_24, st_25, st_26, st_27, st_28, st_29, st_30, st_31, st_32, st_33, st_34, st_34a, st_35, st_36, st_37, st_38, st_39, st_42, st_44, st_45, st_47, st_40, st_41, st_46, st_48, st_49, st_43, go_0, go_s, cut_0, cut_s, get_0, get_s, put_0, put_1, put_s, clr_0, clr_s, unl_i, unl_l, unl_r, unl_n, nth_0, nth_s, sf_0, sf_s, cnd_0, cnd_1, cnd_2, cnd_3, cnd_4, cnd_5, fit_0, fit_1, fit_2, en_0, en_i, en_l, en_r, kb_t, kb_f, kb_n, sw_0, sw_s, ↓reduceIte, Nat.reduceEqDiff, Nat.left_eq_add, Nat.add_eq_left, Nat.add_left_cancel_iff, Nat.reduceAdd, Int.reduceLT, Int.reduceLE, Int.reduceAdd, Int.reduceSub, Int.reduceNeg, Int.reduceMul, Int.reduceToNat, Int.reduceEq, reduceCtorEq, true_and, and_true, true_or, or_true, and_false, false_and, or_false, false_or, not_true_eq_false, not_false_eq_true, Nat.le_refl, and_self, Sum.inl.injEq, Sum.inr.injEq, Option.some.injEq, hS_2, k_isref, pd_0, pd_s, List.cons_append, List.nil_append, Option.toList_none, Option.toList_some, tX12_chooses, rX12_chooses, e0]
      exact hP
  have hgo : ∀ can : Int, ((can = 1 ∧ 2 ≤ sz) ∨ (can = 0 ∧ ¬ rdyM SW sz)) → k_Wp x d 0 0 mX12_chooses (choQ h0 h s C WS WM SW ch bs sz) 0 0 16 [some (vR 57), some (vI can), some (vI ((0 : Nat) : Int)), none, none, none, none, none] [] h := by
    intro can hcan
    refine w_mrdy h1 k102 h52 hsz kT kF sz 0 can (by omega) ?_
    rcases hcan with ⟨a, b⟩ | ⟨a, b⟩
    · exact Or.inl ⟨a, b, fun u hu => by omega⟩
    · exact Or.inr ⟨a, b⟩
  refine k_enp 7 (Nat.le_of_ble_eq_true rfl) (p_go [16] 40 ?_)
  simp only [st_0, st_1, st_2, st_3, st_4, st_5, st_6, st_7, st_8, st_9, st_10, st_11, st_12, st_13, st_14, st_15, st_16, st_17, st_18, st_19, st_20, st_21, st_22, st_23, st_24, st_25, st_26, st_27, st_28, st_29, st_30, st_31, st_32, st_33, st_34, st_34a, st_35, st_36, st_37, st_38, st_39, st_42, st_44, st_45, st_47, st_40, st_41, st_46, st_48, st_49, st_43, go_0, go_s, cut_0, cut_s, get_0, get_s, put_0, put_1, put_s, clr_0, clr_s, unl_i, unl_l, unl_r, unl_n, nth_0, nth_s, sf_0, sf_s, cnd_0, cnd_1, cnd_2, cnd_3, cnd_4, cnd_5, fit_0, fit_1, fit_2, en_0, en_i, en_l, en_r, kb_t, kb_f, kb_n, sw_0, sw_s, ↓reduceIte, Nat.reduceEqDiff, Nat.left_eq_add, Nat.add_eq_left, Nat.add_left_cancel_iff, Nat.reduceAdd, Int.reduceLT, Int.reduceLE, Int.reduceAdd, Int.reduceSub, Int.reduceNeg, Int.reduceMul, Int.reduceToNat, Int.reduceEq, reduceCtorEq, true_and, and_true, true_or, or_true, and_false, false_and, or_false, false_or, not_true_eq_false, not_false_eq_true, Nat.le_refl, and_self, Sum.inl.injEq, Sum.inr.injEq, Option.some.injEq, hS_2, k_isref, pd_0, pd_s, List.cons_append, List.nil_append, Option.toList_none, Option.toList_some, tX12_chooses, rX12_chooses, h1]
  refine k_brI (fun c => hgo 0 (Or.inr ⟨rfl, fun q => by have := q.1; omega⟩)) (fun c => hgo 1 (Or.inl ⟨rfl, by omega⟩))
set_option maxRecDepth 100000 in
set_option maxHeartbeats 4000000 in
theorem e_mbest {F0 ch bs : F_} (hM : Md h0 h s C) (hc : cOk C) (h100 : h0.2 85 = some (cI 640 WS)) (h101 : h0.2 86 = some (cI 32 WM)) (h102 : h0.2 87 = some (cI 8 SW)) (h103 : h0.2 88 = some (cI 1024 F0)) (h104 : h0.2 89 = some (cI 8 ch)) (h105 : h0.2 90 = some (cI 8 bs)) (hSW : ∀ i, i < 8 → 0 ≤ SW i ∧ SW i ≤ 4) (hW : ∀ a, a < 32 → vld SW a → (0 ≤ WM a ∧ WM a ≤ 20) ∧ rvd WS (20 * a) (WM a)) (h52 : s 52 = sz) (hsz : sz ≤ 8) (hsy : symN (fw C)) (hd : 3 ≤ d) :
    k_Ev x d 0 0 mX12_best [vR 57] h (choQ h0 (hS h 57 (mO (mS s 0 0))) (mS s 0 0) C WS WM SW ch bs sz) := by
  have h1 := hM.2.1
  have k1 : (hS h 57 (mO (mS s 0 0))).2 57 = some (mO (mS s 0 0)) := hS_s _ _ _
  refine k_enp 0 (Nat.le_of_ble_eq_true rfl) (p_go [] 40 ?_)
  simp only [st_0, st_1, st_2, st_3, st_4, st_5, st_6, st_7, st_8, st_9, st_10, st_11, st_12, st_13, st_14, st_15, st_16, st_17, st_18, st_19, st_20, st_21, st_22, st_23, st_24, st_25, st_26, st_27, st_28, st_29, st_30, st_31, st_32, st_33, st_34, st_34a, st_35, st_36, st_37, st_38, st_39, st_42, st_44, st_45, st_47, st_40, st_41, st_46, st_48, st_49, st_43, go_0, go_s, cut_0, cut_s, get_0, get_s, put_0, put_1, put_s, clr_0, clr_s, unl_i, unl_l, unl_r, unl_n, nth_0, nth_s, sf_0, sf_s, cnd_0, cnd_1, cnd_2, cnd_3, cnd_4, cnd_5, fit_0, fit_1, fit_2, en_0, en_i, en_l, en_r, kb_t, kb_f, kb_n, sw_0, sw_s, ↓reduceIte, Nat.reduceEqDiff, Nat.left_eq_add, Nat.add_eq_left, Nat.add_left_cancel_iff, Nat.reduceAdd, Int.reduceLT, Int.reduceLE, Int.reduceAdd, Int.reduceSub, Int.reduceNeg, Int.reduceMul, Int.reduceToNat, Int.reduceEq, reduceCtorEq, true_and, and_true, true_or, or_true, and_false, false_and, or_false, false_or, not_true_eq_false, not_false_eq_true, Nat.le_refl, and_self, Sum.inl.injEq, Sum.inr.injEq, Option.some.injEq, hS_2, k_isref, pd_0, pd_s, List.cons_append, List.nil_append, Option.toList_none, Option.toList_some, tX12_best, rX12_best, h1]
  refine cVQ (d' := 2) [] [] l_12_264 k1 (e_chooses (hM.put (t := mS s 0 0) rfl) hc h100 h101 h102 h103 h104 h105 hSW hW h52 hsz hsy (Nat.le_refl 2)) (by omega) ?_ (fun E h' q => by rcases q with ⟨_, q, _⟩ | ⟨_, F, h3, t, _, _, _, q, _⟩ <;> cases q)
  intro r1 h2 q
  have hr : ∃ v, r1 = some (vI v) := by
    rcases q with ⟨_, q, _⟩ | ⟨_, F, h3, t, _, _, _, q, _⟩ <;> cases q <;> exact ⟨_, rfl⟩
  obtain ⟨v, rfl⟩ := hr
  refine p_go [] 40 ?_
  simp only [st_0, st_1, st_2, st_3, st_4, st_5, st_6, st_7, st_8, st_9, st_10, st_11, st_12, st_13, st_14, st_15, st_16, st_17, st_18, st_19, st_20, st_21, st_22, st_23, st_24, st_25, st_26, st_27, st_28, st_29, st_30, st_31, st_32, st_33, st_34, st_34a, st_35, st_36, st_37, st_38, st_39, st_42, st_44, st_45, st_47, st_40, st_41, st_46, st_48, st_49, st_43, go_0, go_s, cut_0, cut_s, get_0, get_s, put_0, put_1, put_s, clr_0, clr_s, unl_i, unl_l, unl_r, unl_n, nth_0, nth_s, sf_0, sf_s, cnd_0, cnd_1, cnd_2, cnd_3, cnd_4, cnd_5, fit_0, fit_1, fit_2, en_0, en_i, en_l, en_r, kb_t, kb_f, kb_n, sw_0, sw_s, ↓reduceIte, Nat.reduceEqDiff, Nat.left_eq_add, Nat.add_eq_left, Nat.add_left_cancel_iff, Nat.reduceAdd, Int.reduceLT, Int.reduceLE, Int.reduceAdd, Int.reduceSub, Int.reduceNeg, Int.reduceMul, Int.reduceToNat, Int.reduceEq, reduceCtorEq, true_and, and_true, true_or, or_true, and_false, false_and, or_false, false_or, not_true_eq_false, not_false_eq_true, Nat.le_refl, and_self, Sum.inl.injEq, Sum.inr.injEq, Option.some.injEq, hS_2, k_isref, pd_0, pd_s, List.cons_append, List.nil_append, Option.toList_none, Option.toList_some, tX12_best, rX12_best]
  exact q
set_option maxRecDepth 100000 in
set_option maxHeartbeats 4000000 in
theorem e_mchosen {F0 ch bs : F_} {k : Int} (hM : Md h0 h s C) (hc : cOk C) (h100 : h0.2 85 = some (cI 640 WS)) (h101 : h0.2 86 = some (cI 32 WM)) (h102 : h0.2 87 = some (cI 8 SW)) (h103 : h0.2 88 = some (cI 1024 F0)) (h104 : h0.2 89 = some (cI 8 ch)) (h105 : h0.2 90 = some (cI 8 bs)) (hSW : ∀ i, i < 8 → 0 ≤ SW i ∧ SW i ≤ 4) (hW : ∀ a, a < 32 → vld SW a → (0 ≤ WM a ∧ WM a ≤ 20) ∧ rvd WS (20 * a) (WM a)) (h52 : s 52 = sz) (hsz : sz ≤ 8) (hsy : symN (fw C)) (hd : 3 ≤ d)
    (c1 : ¬ (0 ≤ k ∧ k < sz) → P (rI 0) (hS h 57 (mO (mS s 0 1))))
    (c2 : 0 ≤ k ∧ k < sz → ¬ rdyM SW sz → P (rI (-1)) (hS h 57 (mO (mS s 0 0))))
    (c3 : 0 ≤ k ∧ k < sz → rdyM SW sz → ∀ F h3 t, Md (hS h0 88 (cI 1024 F)) h3 t C → (∀ i, i ≠ 3 → t i = mS s 0 0 i) → farI C WS WM SW F 32 0 → P (rI (if (fldM F sz SW sz 0 (flF 0 sz 0 ch) (-1, bs)).1 < 0 then -1 else (fldM F sz SW sz 0 (flF 0 sz 0 ch) (-1, bs)).2 k.toNat)) (chH h3 (flF 0 sz 0 ch) (fldM F sz SW sz 0 (flF 0 sz 0 ch) (-1, bs)).2)) :
    k_Ev x d 0 0 mX12_chosen [vR 57, vI k] h P := by
  have h1 := hM.2.1
  have k1 : (hS h 57 (mO (mS s 0 0))).2 57 = some (mO (mS s 0 0)) := hS_s _ _ _
  rw [← h52] at c1 c2 c3
  refine k_enp 0 (Nat.le_of_ble_eq_true rfl) (p_go [] 40 ?_)
  simp only [st_0, st_1, st_2, st_3, st_4, st_5, st_6, st_7, st_8, st_9, st_10, st_11, st_12, st_13, st_14, st_15, st_16, st_17, st_18, st_19, st_20, st_21, st_22, st_23, st_24, st_25, st_26, st_27, st_28, st_29, st_30, st_31, st_32, st_33, st_34, st_34a, st_35, st_36, st_37, st_38, st_39, st_42, st_44, st_45, st_47, st_40, st_41, st_46, st_48, st_49, st_43, go_0, go_s, cut_0, cut_s, get_0, get_s, put_0, put_1, put_s, clr_0, clr_s, unl_i, unl_l, unl_r, unl_n, nth_0, nth_s, sf_0, sf_s, cnd_0, cnd_1, cnd_2, cnd_3, cnd_4, cnd_5, fit_0, fit_1, fit_2, en_0, en_i, en_l, en_r, kb_t, kb_f, kb_n, sw_0, sw_s, ↓reduceIte, Nat.reduceEqDiff, Nat.left_eq_add, Nat.add_eq_left, Nat.add_left_cancel_iff, Nat.reduceAdd, Int.reduceLT, Int.reduceLE, Int.reduceAdd, Int.reduceSub, Int.reduceNeg, Int.reduceMul, Int.reduceToNat, Int.reduceEq, reduceCtorEq, true_and, and_true, true_or, or_true, and_false, false_and, or_false, false_or, not_true_eq_false, not_false_eq_true, Nat.le_refl, and_self, Sum.inl.injEq, Sum.inr.injEq, Option.some.injEq, hS_2, k_isref, pd_0, pd_s, List.cons_append, List.nil_append, Option.toList_none, Option.toList_some, tX12_chosen, rX12_chosen]
  refine cV (d' := 0) [vI k] [] l_12_261 h1 (e_isSlot h1) (by omega) (p_go [] 40 ?_)
  by_cases hk : 0 ≤ k ∧ k < s 52
  · rw [if_pos hk, if_pos hk]
    simp only [st_0, st_1, st_2, st_3, st_4, st_5, st_6, st_7, st_8, st_9, st_10, st_11, st_12, st_13, st_14, st_15, st_16, st_17, st_18, st_19, st_20, st_21, st_22, st_23, st_24, st_25, st_26, st_27, st_28, st_29, st_30, st_31, st_32, st_33, st_34, st_34a, st_35, st_36, st_37, st_38, st_39, st_42, st_44, st_45, st_47, st_40, st_41, st_46, st_48, st_49, st_43, go_0, go_s, cut_0, cut_s, get_0, get_s, put_0, put_1, put_s, clr_0, clr_s, unl_i, unl_l, unl_r, unl_n, nth_0, nth_s, sf_0, sf_s, cnd_0, cnd_1, cnd_2, cnd_3, cnd_4, cnd_5, fit_0, fit_1, fit_2, en_0, en_i, en_l, en_r, kb_t, kb_f, kb_n, sw_0, sw_s, ↓reduceIte, Nat.reduceEqDiff, Nat.left_eq_add, Nat.add_eq_left, Nat.add_left_cancel_iff, Nat.reduceAdd, Int.reduceLT, Int.reduceLE, Int.reduceAdd, Int.reduceSub, Int.reduceNeg, Int.reduceMul, Int.reduceToNat, Int.reduceEq, reduceCtorEq, true_and, and_true, true_or, or_true, and_false, false_and, or_false, false_or, not_true_eq_false, not_false_eq_true, Nat.le_refl, and_self, Sum.inl.injEq, Sum.inr.injEq, Option.some.injEq, hS_2, k_isref, pd_0, pd_s, List.cons_append, List.nil_append, Option.toList_none, Option.toList_some, tX12_chosen, rX12_chosen]
    refine cVQ (d' := 2) [] [] l_12_264 k1 (e_chooses (hM.put (t := mS s 0 0) rfl) hc h100 h101 h102 h103 h104 h105 hSW hW h52 hsz hsy (Nat.le_refl 2)) (by omega) ?_ (fun E h' q => by rcases q with ⟨_, q, _⟩ | ⟨_, F, h3, t, _, _, _, q, _⟩ <;> cases q)
    intro r1 h2 q
    rcases q with ⟨q1, q2, q3⟩ | ⟨q1, F, h3, t, q2, q3, q4, q5, q6⟩
    · cases q2
      subst q3
      refine p_go [] 40 ?_
      simp only [st_0, st_1, st_2, st_3, st_4, st_5, st_6, st_7, st_8, st_9, st_10, st_11, st_12, st_13, st_14, st_15, st_16, st_17, st_18, st_19, st_20, st_21, st_22, st_23, st_24, st_25, st_26, st_27, st_28, st_29, st_30, st_31, st_32, st_33, st_34, st_34a, st_35, st_36, st_37, st_38, st_39, st_42, st_44, st_45, st_47, st_40, st_41, st_46, st_48, st_49, st_43, go_0, go_s, cut_0, cut_s, get_0, get_s, put_0, put_1, put_s, clr_0, clr_s, unl_i, unl_l, unl_r, unl_n, nth_0, nth_s, sf_0, sf_s, cnd_0, cnd_1, cnd_2, cnd_3, cnd_4, cnd_5, fit_0, fit_1, fit_2, en_0, en_i, en_l, en_r, kb_t, kb_f, kb_n, sw_0, sw_s, ↓reduceIte, Nat.reduceEqDiff, Nat.left_eq_add, Nat.add_eq_left, Nat.add_left_cancel_iff, Nat.reduceAdd, Int.reduceLT, Int.reduceLE, Int.reduceAdd, Int.reduceSub, Int.reduceNeg, Int.reduceMul, Int.reduceToNat, Int.reduceEq, reduceCtorEq, true_and, and_true, true_or, or_true, and_false, false_and, or_false, false_or, not_true_eq_false, not_false_eq_true, Nat.le_refl, and_self, Sum.inl.injEq, Sum.inr.injEq, Option.some.injEq, hS_2, k_isref, pd_0, pd_s, List.cons_append, List.nil_append, Option.toList_none, Option.toList_some, tX12_chosen, rX12_chosen]
      exact c2 hk q1
    · cases q5
      have hl := c3 hk q1 F h3 t q2 q3 q4
      generalize fldM F sz SW sz 0 (flF 0 sz 0 ch) (-1, bs) = R at hl q6 ⊢
      have j1 : h2.2 57 = some (mO t) := by rw [q6]; exact (chH_n (by decide) (by decide)).trans q2.2.1
      have j2 : h2.2 90 = some (cI 8 R.2) := by rw [q6]; exact chH_105
      rw [← q6] at hl
      refine p_go [] 40 ?_
      simp only [st_0, st_1, st_2, st_3, st_4, st_5, st_6, st_7, st_8, st_9, st_10, st_11, st_12, st_13, st_14, st_15, st_16, st_17, st_18, st_19, st_20, st_21, st_22, st_23, st_24, st_25, st_26, st_27, st_28, st_29, st_30, st_31, st_32, st_33, st_34, st_34a, st_35, st_36, st_37, st_38, st_39, st_42, st_44, st_45, st_47, st_40, st_41, st_46, st_48, st_49, st_43, go_0, go_s, cut_0, cut_s, get_0, get_s, put_0, put_1, put_s, clr_0, clr_s, unl_i, unl_l, unl_r, unl_n, nth_0, nth_s, sf_0, sf_s, cnd_0, cnd_1, cnd_2, cnd_3, cnd_4, cnd_5, fit_0, fit_1, fit_2, en_0, en_i, en_l, en_r, kb_t, kb_f, kb_n, sw_0, sw_s, ↓reduceIte, Nat.reduceEqDiff, Nat.left_eq_add, Nat.add_eq_left, Nat.add_left_cancel_iff, Nat.reduceAdd, Int.reduceLT, Int.reduceLE, Int.reduceAdd, Int.reduceSub, Int.reduceNeg, Int.reduceMul, Int.reduceToNat, Int.reduceEq, reduceCtorEq, true_and, and_true, true_or, or_true, and_false, false_and, or_false, false_or, not_true_eq_false, not_false_eq_true, Nat.le_refl, and_self, Sum.inl.injEq, Sum.inr.injEq, Option.some.injEq, hS_2, k_isref, pd_0, pd_s, List.cons_append, List.nil_append, Option.toList_none, Option.toList_some, tX12_chosen, rX12_chosen, j1, j2]
      refine k_brI (fun c => ?_) (fun c => ?_)
      · rw [if_neg (by omega)] at hl
        exact ⟨⟨by omega, by omega⟩, hl⟩
      · rw [if_pos (by omega)] at hl
        exact hl
  · rw [if_neg hk, if_neg hk]
    simp only [st_0, st_1, st_2, st_3, st_4, st_5, st_6, st_7, st_8, st_9, st_10, st_11, st_12, st_13, st_14, st_15, st_16, st_17, st_18, st_19, st_20, st_21, st_22, st_23, st_24, st_25, st_26, st_27, st_28, st_29, st_30, st_31, st_32, st_33, st_34, st_34a, st_35, st_36, st_37, st_38, st_39, st_42, st_44, st_45, st_47, st_40, st_41, st_46, st_48, st_49, st_43, go_0, go_s, cut_0, cut_s, get_0, get_s, put_0, put_1, put_s, clr_0, clr_s, unl_i, unl_l, unl_r, unl_n, nth_0, nth_s, sf_0, sf_s, cnd_0, cnd_1, cnd_2, cnd_3, cnd_4, cnd_5, fit_0, fit_1, fit_2, en_0, en_i, en_l, en_r, kb_t, kb_f, kb_n, sw_0, sw_s, ↓reduceIte, Nat.reduceEqDiff, Nat.left_eq_add, Nat.add_eq_left, Nat.add_left_cancel_iff, Nat.reduceAdd, Int.reduceLT, Int.reduceLE, Int.reduceAdd, Int.reduceSub, Int.reduceNeg, Int.reduceMul, Int.reduceToNat, Int.reduceEq, reduceCtorEq, true_and, and_true, true_or, or_true, and_false, false_and, or_false, false_or, not_true_eq_false, not_false_eq_true, Nat.le_refl, and_self, Sum.inl.injEq, Sum.inr.injEq, Option.some.injEq, hS_2, k_isref, pd_0, pd_s, List.cons_append, List.nil_append, Option.toList_none, Option.toList_some, tX12_chosen, rX12_chosen]
    exact c1 hk
end Mcho74
