/-! the reference: read -/
section Mread67
variable {x : Bool} {d : Nat} {h h0 : PH} {s : F_} {P : PO → PH → Prop} {g f : F_} {R E : LxT}
/-- the reference's tape, rules, book and what was said -/
def MLx (h : PH) (s g : F_) (R E : LxT) : Prop := h.2 62 = some (.inl (1, 400, g)) ∧ (∃ sd, h.2 71 = some (cI 40 sd)) ∧ s 14 = R.1 ∧ s 19 = E.1 ∧
  (∃ L ln S mn, h.2 63 = some (cI 240 L) ∧ h.2 64 = some (cI 60 ln) ∧ h.2 65 = some (cI 180 S) ∧ h.2 66 = some (cI 60 mn) ∧ lxR R.2.1 R.2.2.1 R.1 L ln 4 ∧ lxS R.2.2.2.1 R.2.2.2.2 R.1 3 mn S) ∧
  (∃ L ln S mn, h.2 67 = some (cI 400 L) ∧ h.2 68 = some (cI 40 ln) ∧ h.2 69 = some (cI 800 S) ∧ h.2 70 = some (cI 40 mn) ∧ lxR E.2.1 E.2.2.1 E.1 L ln 10 ∧ lxS E.2.2.2.1 E.2.2.2.2 E.1 20 mn S)
theorem MLx.fr {s' : F_} (hf : ∀ z, 62 ≤ z → z ≤ 71 → h.2 z = h0.2 z) (h14 : s' 14 = s 14) (h19 : s' 19 = s 19) (hM : MLx h0 s g R E) : MLx h s' g R E := by
  obtain ⟨m1, ⟨sd, m2⟩, m3, m4, ⟨L, ln, S, mn, a1, a2, a3, a4, a5⟩, ⟨L', ln', S', mn', b1, b2, b3, b4, b5⟩⟩ := hM
  exact ⟨(hf _ (by omega) (by omega)).trans m1, ⟨sd, (hf _ (by omega) (by omega)).trans m2⟩, h14.trans m3, h19.trans m4, ⟨L, ln, S, mn, (hf _ (by omega) (by omega)).trans a1, (hf _ (by omega) (by omega)).trans a2, (hf _ (by omega) (by omega)).trans a3, (hf _ (by omega) (by omega)).trans a4, a5⟩, ⟨L', ln', S', mn', (hf _ (by omega) (by omega)).trans b1, (hf _ (by omega) (by omega)).trans b2, (hf _ (by omega) (by omega)).trans b3, (hf _ (by omega) (by omega)).trans b4, b5⟩⟩
set_option maxRecDepth 100000 in
set_option maxHeartbeats 4000000 in
theorem e_reads' {fr n : Nat} {lf sf : F_} (h1 : h.2 57 = some (mO s)) (hM : MLx h s g R E) (hE : EnvI R E) (hg : alls g fr n) (hf : fr + n ≤ 400) (hn : n ≤ 10) (hd : 1 ≤ d) : k_Ev x d 0 0 mX12_reads [vR 57, vI fr, vI n] h (rdQ h s n (rdE R E g fr n lf sf)) := by
  obtain ⟨m1, ⟨sd, m2⟩, m3, m4, ⟨L, ln, S, mn, a1, a2, a3, a4, a5, a6⟩, ⟨L', ln', S', mn', b1, b2, b3, b4, b5, b6⟩⟩ := hM
  obtain ⟨e1, e2, e3, e4, e5, e6⟩ := hE
  exact e_reads h1 m2 a1 a2 a3 a4 m1 b1 b2 b3 b4 e1 m3 a5 a6 e3 e2 m4 b5 b6 e4 e6 hg hf hn hd
theorem fnd_ext {cs : F_} {c c' : Int} {i j : Nat} (h : c = c') : fnd cs c i j = fnd cs c' i j := by rw [h]
theorem lgst_ext {cs : F_} {sz a : Nat} : ∀ n, (∀ i, i < n → f (a + i) = g (a + i)) → lgst cs sz f a n = lgst cs sz g a n
  | 0, _ => rfl
  | n + 1, h => by
    unfold lgst
    rw [cd_ext (f := f) (g := g) (a := a) (b := a) (n + 1) h, lgst_ext n (fun i hi => h i (by omega))]
theorem rdGo_ext {cs ls rl rs : F_} {sz w a c : Nat} (h : ∀ i, i < c → f (a + i) = g (a + i)) : ∀ (j at_ : Nat) (many : Int) (lf sf : F_), rdGo cs ls rl rs sz w f a c j at_ many lf sf = rdGo cs ls rl rs sz w g a c j at_ many lf sf
  | 0, _, _, _, _ => rfl
  | j + 1, at_, many, lf, sf => by
    unfold rdGo
    by_cases hc : c ≤ at_
    · rw [if_pos hc, if_pos hc]
    · have e := lgst_ext (cs := cs) (sz := sz) (a := a + at_) (f := f) (g := g) (min (c - at_) 4) (fun i hi => by rw [Nat.add_assoc]; exact h (at_ + i) (by omega))
      rw [if_neg hc, if_neg hc, e]
      by_cases hl : lgst cs sz g (a + at_) (min (c - at_) 4) = -1
      · rw [if_pos hl, if_pos hl]
      · rw [if_neg hl, if_neg hl]
        exact rdGo_ext h j _ _ _ _
theorem rdE_ext {a c : Nat} {lf sf : F_} (h : ∀ i, i < c → f (a + i) = g (a + i)) : rdE R E f a c lf sf = rdE R E g a c lf sf := by
  unfold rdE rdT
  rw [cd_ext (f := f) (g := g) (a := a) (b := a) c h, rdGo_ext h]
set_option maxRecDepth 100000 in
set_option maxHeartbeats 4000000 in
theorem w_mrd {z : Int} {m : Nat} {p : Int} {sd hf : F_} (h1 : h.2 57 = some (mO s)) (h2 : h.2 71 = some (cI 40 sd)) (hs : s 21 = m) (hm : m ≤ 40)
    (kk : P (rI m) (hS (hS h 61 (cI 40 (va_cpy sd hf 0 0 m))) 57 (mO (mS s 6 m)))) : ∀ (j i : Nat), i + j = m →
    k_Wp x d 0 0 mX12_read P 0 0 47 [some (vR 57), some (vI z), some (vI p), some (vI i)] [] (hS h 61 (cI 40 (va_cpy sd hf 0 0 i))) := by
  intro j
  induction j with
  | zero =>
    intro i hi
    have e1 : s 21 ≤ (i : Int) := by omega
    rw [show i = m by omega] at *
    have k1 := (hS_n (h := h) (a := 61) (c := cI 40 (va_cpy sd hf 0 0 m)) (show 57 ≠ 61 by decide)).trans h1
    have e2 : mO (mS s 6 m) = mO (mS s 6 (s 21)) := by rw [hs]
    rw [e2] at kk
    have kk2 : P (rI (s 21)) (hS (hS h 61 (cI 40 (va_cpy sd hf 0 0 m))) 57 (mO (mS s 6 (s 21)))) := by rw [hs]; rw [hs] at kk; exact kk
    generalize hS h 61 (cI 40 (va_cpy sd hf 0 0 m)) = h3 at k1 kk2 ⊢
    refine p_go [] 40 ?_
    simp only [st_0, st_1, st_2, st_3, st_4, st_5, st_6, st_7, st_8, st_9, st_10, st_11, st_12, st_13, st_14, st_15, st_16, st_17, st_18, st_19, st_20, st_21, st_22, st_23, st_24, st_25, st_26, st_27, st_28, st_29, st_30, st_31, st_32, st_33, st_34, st_34a, st_35, st_36, st_37, st_38, st_39, st_42, st_44, st_45, st_47, st_40, st_41, st_46, st_48, st_49, st_43, go_0, go_s, cut_0, cut_s, get_0, get_s, put_0, put_1, put_s, clr_0, clr_s, unl_i, unl_l, unl_r, unl_n, nth_0, nth_s, sf_0, sf_s, cnd_0, cnd_1, cnd_2, cnd_3, cnd_4, cnd_5, fit_0, fit_1, fit_2, en_0, en_i, en_l, en_r, kb_t, kb_f, kb_n, sw_0, sw_s, ↓reduceIte, Nat.reduceEqDiff, Nat.left_eq_add, Nat.add_eq_left, Nat.add_left_cancel_iff, Nat.reduceAdd, Int.reduceLT, Int.reduceLE, Int.reduceAdd, Int.reduceSub, Int.reduceNeg, Int.reduceMul, Int.reduceToNat, Int.reduceEq, reduceCtorEq, true_and, and_true, true_or, or_true, and_false, false_and, or_false, false_or, not_true_eq_false, not_false_eq_true, Nat.le_refl, and_self, Sum.inl.injEq, Sum.inr.injEq, Option.some.injEq, hS_2, k_isref, pd_0, pd_s, List.cons_append, List.nil_append, Option.toList_none, Option.toList_some, tX12_read, rX12_read, k1, e1]
    exact kk2
  | succ j ih =>
    intro i hi
    have e1 : ¬ s 21 ≤ (i : Int) := by omega
    have hih := ih (i + 1) (by omega)
    rw [← cpy_s, Nat.zero_add] at hih
    refine p_go [47] 40 ?_
    simp only [st_0, st_1, st_2, st_3, st_4, st_5, st_6, st_7, st_8, st_9, st_10, st_11, st_12, st_13, st_14, st_15, st_16, st_17, st_18, st_19, st_20, st_21, st_22, st_23, st_24, st_25, st_26, st_27, st_28, st_29, st_30, st_31, st_32, st_33, st_34, st_34a, st_35, st_36, st_37, st_38, st_39, st_42, st_44, st_45, st_47, st_40, st_41, st_46, st_48, st_49, st_43, go_0, go_s, cut_0, cut_s, get_0, get_s, put_0, put_1, put_s, clr_0, clr_s, unl_i, unl_l, unl_r, unl_n, nth_0, nth_s, sf_0, sf_s, cnd_0, cnd_1, cnd_2, cnd_3, cnd_4, cnd_5, fit_0, fit_1, fit_2, en_0, en_i, en_l, en_r, kb_t, kb_f, kb_n, sw_0, sw_s, ↓reduceIte, Nat.reduceEqDiff, Nat.left_eq_add, Nat.add_eq_left, Nat.add_left_cancel_iff, Nat.reduceAdd, Int.reduceLT, Int.reduceLE, Int.reduceAdd, Int.reduceSub, Int.reduceNeg, Int.reduceMul, Int.reduceToNat, Int.reduceEq, reduceCtorEq, true_and, and_true, true_or, or_true, and_false, false_and, or_false, false_or, not_true_eq_false, not_false_eq_true, Nat.le_refl, and_self, Sum.inl.injEq, Sum.inr.injEq, Option.some.injEq, hS_2, k_isref, pd_0, pd_s, List.cons_append, List.nil_append, Option.toList_none, Option.toList_some, tX12_read, rX12_read, h1, h2, e1, nat1, hS_hS, Int.toNat_natCast]
    (repeat (first | exact hih | refine ⟨⟨by omega, by omega⟩, ?_⟩ | refine And.intro (by omega) ?_))
set_option maxRecDepth 100000 in
set_option maxHeartbeats 4000000 in
theorem e_mread {z : Int} {hf lf sf : F_} (h1 : h.2 57 = some (mO s)) (hM : MLx h s g R E) (h3 : h.2 61 = some (cI 40 hf)) (hg : ∀ k, k < 400 → -128 ≤ g k ∧ g k ≤ 127) (hE : EnvI R E) (h8 : s 8 ≤ 400) (hd : 2 ≤ d)
    (c0 : ¬ (0 ≤ z ∧ z ≤ s 8) → P (rI 0) (hS h 57 (mO (mS s 0 1))))
    (c1 : 0 ≤ z ∧ z ≤ s 8 → ¬ mSp g z 10 → P (rI (-1)) (hS h 57 (mO (mS (mS (mS s 0 0) 9 z) 8 0))))
    (c2 : 0 ≤ z ∧ z ≤ s 8 → mSp g z 10 → ∀ (p m : Int) (sd : F_), 0 ≤ p ∧ p ≤ z → (rdE R E g 0 z.toNat lf sf).1 = -2 - p → P (rI (-2 - p)) (rdH h (mS (mS (mS s 0 0) 9 z) 8 0) sd m))
    (c3 : 0 ≤ z ∧ z ≤ s 8 → mSp g z 10 → ∀ (m : Nat) (sd : F_), 1 ≤ m ∧ m ≤ 20 → (rdE R E g 0 z.toNat lf sf).1 = m → (rdE R E g 0 z.toNat lf sf).2.1 0 = m → (∀ i : Nat, i < m → sd i = (rdE R E g 0 z.toNat lf sf).2.2 i) → P (rI m) (hS (hS (rdH h (mS (mS (mS s 0 0) 9 z) 8 0) sd m) 61 (cI 40 (va_cpy sd hf 0 0 m))) 57 (mO (mS (mS (mS (mS (mS s 0 0) 9 z) 8 0) 21 m) 6 m)))) :
    k_Ev x d 0 0 mX12_read [vR 57, vI z] h P := by
  refine k_enp 2 (Nat.le_of_ble_eq_true rfl) (p_go [] 40 ?_)
  simp only [st_0, st_1, st_2, st_3, st_4, st_5, st_6, st_7, st_8, st_9, st_10, st_11, st_12, st_13, st_14, st_15, st_16, st_17, st_18, st_19, st_20, st_21, st_22, st_23, st_24, st_25, st_26, st_27, st_28, st_29, st_30, st_31, st_32, st_33, st_34, st_34a, st_35, st_36, st_37, st_38, st_39, st_42, st_44, st_45, st_47, st_40, st_41, st_46, st_48, st_49, st_43, go_0, go_s, cut_0, cut_s, get_0, get_s, put_0, put_1, put_s, clr_0, clr_s, unl_i, unl_l, unl_r, unl_n, nth_0, nth_s, sf_0, sf_s, cnd_0, cnd_1, cnd_2, cnd_3, cnd_4, cnd_5, fit_0, fit_1, fit_2, en_0, en_i, en_l, en_r, kb_t, kb_f, kb_n, sw_0, sw_s, ↓reduceIte, Nat.reduceEqDiff, Nat.left_eq_add, Nat.add_eq_left, Nat.add_left_cancel_iff, Nat.reduceAdd, Int.reduceLT, Int.reduceLE, Int.reduceAdd, Int.reduceSub, Int.reduceNeg, Int.reduceMul, Int.reduceToNat, Int.reduceEq, reduceCtorEq, true_and, and_true, true_or, or_true, and_false, false_and, or_false, false_or, not_true_eq_false, not_false_eq_true, Nat.le_refl, and_self, Sum.inl.injEq, Sum.inr.injEq, Option.some.injEq, hS_2, k_isref, pd_0, pd_s, List.cons_append, List.nil_append, Option.toList_none, Option.toList_some, tX12_read, rX12_read, h1]
  have k1 : (hS h 57 (mO (mS s 0 0))).2 57 = some (mO (mS s 0 0)) := hS_s _ _ _
  refine cVQ (d' := 1) (P' := fun o h' => (¬ (0 ≤ z ∧ z ≤ s 8) ∧ o = rI 0 ∧ h' = hS h 57 (mO (mS s 0 1))) ∨ ((0 ≤ z ∧ z ≤ s 8) ∧ o = rI 1 ∧ h' = hS h 57 (mO (mS (mS (mS s 0 0) 9 z) 8 0)))) [vI z] [] l_12_153 k1 (e_takes k1 (Nat.le_refl 1) (fun c => Or.inl ⟨c, rfl, by rw [hS_hS, if_pos mS_s, mS_mS]⟩) (fun c => Or.inr ⟨c, rfl, by rw [hS_hS]⟩)) (by omega) ?_ (fun E h' q => by rcases q with ⟨_, q, _⟩ | ⟨_, q, _⟩ <;> cases q)
  intro r1 h4 q
  rcases q with ⟨q1, q2, q3⟩ | ⟨q1, q2, q3⟩
  · cases q2
    subst q3
    refine p_go [] 40 ?_
    simp only [st_0, st_1, st_2, st_3, st_4, st_5, st_6, st_7, st_8, st_9, st_10, st_11, st_12, st_13, st_14, st_15, st_16, st_17, st_18, st_19, st_20, st_21, st_22, st_23, st_24, st_25, st_26, st_27, st_28, st_29, st_30, st_31, st_32, st_33, st_34, st_34a, st_35, st_36, st_37, st_38, st_39, st_42, st_44, st_45, st_47, st_40, st_41, st_46, st_48, st_49, st_43, go_0, go_s, cut_0, cut_s, get_0, get_s, put_0, put_1, put_s, clr_0, clr_s, unl_i, unl_l, unl_r, unl_n, nth_0, nth_s, sf_0, sf_s, cnd_0, cnd_1, cnd_2, cnd_3, cnd_4, cnd_5, fit_0, fit_1, fit_2, en_0, en_i, en_l, en_r, kb_t, kb_f, kb_n, sw_0, sw_s, ↓reduceIte, Nat.reduceEqDiff, Nat.left_eq_add, Nat.add_eq_left, Nat.add_left_cancel_iff, Nat.reduceAdd, Int.reduceLT, Int.reduceLE, Int.reduceAdd, Int.reduceSub, Int.reduceNeg, Int.reduceMul, Int.reduceToNat, Int.reduceEq, reduceCtorEq, true_and, and_true, true_or, or_true, and_false, false_and, or_false, false_or, not_true_eq_false, not_false_eq_true, Nat.le_refl, and_self, Sum.inl.injEq, Sum.inr.injEq, Option.some.injEq, hS_2, k_isref, pd_0, pd_s, List.cons_append, List.nil_append, Option.toList_none, Option.toList_some, tX12_read, rX12_read]
    exact c0 q1
  · cases q2
    obtain ⟨n, en⟩ : ∃ n : Nat, z = (n : Int) := ⟨z.toNat, by omega⟩
    subst en
    simp only [Int.toNat_natCast] at c2 c3
    have u1 : h4.2 57 = some (mO (mS (mS (mS s 0 0) 9 n) 8 0)) := by rw [q3]; exact hS_s _ _ _
    have uz : ∀ z, z ≠ 57 → h4.2 z = h.2 z := fun z hz => by rw [q3]; exact hS_n hz
    have uM : MLx h4 (mS (mS (mS s 0 0) 9 n) 8 0) g R E := hM.fr (fun z z1 z2 => uz z (by omega)) rfl rfl
    have uH : ∀ (sd : F_) (m : Int), rdH h (mS (mS (mS s 0 0) 9 n) 8 0) sd m = rdH h4 (mS (mS (mS s 0 0) 9 n) 8 0) sd m := fun sd m => by
      unfold rdH
      rw [q3, hS_c (a := 57) (b := 71) (by decide), hS_hS]
    rw [← q3] at c1
    have t9 : mS (mS (mS s 0 0) 9 n) 8 0 9 = (n : Int) := rfl
    generalize mS (mS (mS s 0 0) 9 n) 8 0 = t at u1 uM uH t9 c2 c3
    refine p_go [] 40 ?_
    simp only [st_0, st_1, st_2, st_3, st_4, st_5, st_6, st_7, st_8, st_9, st_10, st_11, st_12, st_13, st_14, st_15, st_16, st_17, st_18, st_19, st_20, st_21, st_22, st_23, st_24, st_25, st_26, st_27, st_28, st_29, st_30, st_31, st_32, st_33, st_34, st_34a, st_35, st_36, st_37, st_38, st_39, st_42, st_44, st_45, st_47, st_40, st_41, st_46, st_48, st_49, st_43, go_0, go_s, cut_0, cut_s, get_0, get_s, put_0, put_1, put_s, clr_0, clr_s, unl_i, unl_l, unl_r, unl_n, nth_0, nth_s, sf_0, sf_s, cnd_0, cnd_1, cnd_2, cnd_3, cnd_4, cnd_5, fit_0, fit_1, fit_2, en_0, en_i, en_l, en_r, kb_t, kb_f, kb_n, sw_0, sw_s, ↓reduceIte, Nat.reduceEqDiff, Nat.left_eq_add, Nat.add_eq_left, Nat.add_left_cancel_iff, Nat.reduceAdd, Int.reduceLT, Int.reduceLE, Int.reduceAdd, Int.reduceSub, Int.reduceNeg, Int.reduceMul, Int.reduceToNat, Int.reduceEq, reduceCtorEq, true_and, and_true, true_or, or_true, and_false, false_and, or_false, false_or, not_true_eq_false, not_false_eq_true, Nat.le_refl, and_self, Sum.inl.injEq, Sum.inr.injEq, Option.some.injEq, hS_2, k_isref, pd_0, pd_s, List.cons_append, List.nil_append, Option.toList_none, Option.toList_some, tX12_read, rX12_read]
    refine cVQ (d' := 1) [vI ((10 : Nat) : Int)] [] l_12_156 u1 (e_mspell u1 ((uz 62 (by decide)).trans hM.1) (by omega) hg (Nat.le_refl 1)) (by omega) ?_ (fun E h' q => by rcases q.2 with ⟨_, q⟩ | ⟨_, q⟩ <;> cases q)
    intro r2 h6' ⟨v1, v2⟩
    subst v1
    rw [t9] at v2
    rcases v2 with ⟨v2, v3⟩ | ⟨v2, v3⟩
    · cases v3
      have hn10 : (n : Int) ≤ 10 := v2.2.1
      have al : alls g 0 n := by have := v2.2.2; rw [Int.toNat_natCast] at this; exact this
      refine p_go [] 40 ?_
      simp only [st_0, st_1, st_2, st_3, st_4, st_5, st_6, st_7, st_8, st_9, st_10, st_11, st_12, st_13, st_14, st_15, st_16, st_17, st_18, st_19, st_20, st_21, st_22, st_23, st_24, st_25, st_26, st_27, st_28, st_29, st_30, st_31, st_32, st_33, st_34, st_34a, st_35, st_36, st_37, st_38, st_39, st_42, st_44, st_45, st_47, st_40, st_41, st_46, st_48, st_49, st_43, go_0, go_s, cut_0, cut_s, get_0, get_s, put_0, put_1, put_s, clr_0, clr_s, unl_i, unl_l, unl_r, unl_n, nth_0, nth_s, sf_0, sf_s, cnd_0, cnd_1, cnd_2, cnd_3, cnd_4, cnd_5, fit_0, fit_1, fit_2, en_0, en_i, en_l, en_r, kb_t, kb_f, kb_n, sw_0, sw_s, ↓reduceIte, Nat.reduceEqDiff, Nat.left_eq_add, Nat.add_eq_left, Nat.add_left_cancel_iff, Nat.reduceAdd, Int.reduceLT, Int.reduceLE, Int.reduceAdd, Int.reduceSub, Int.reduceNeg, Int.reduceMul, Int.reduceToNat, Int.reduceEq, reduceCtorEq, true_and, and_true, true_or, or_true, and_false, false_and, or_false, false_or, not_true_eq_false, not_false_eq_true, Nat.le_refl, and_self, Sum.inl.injEq, Sum.inr.injEq, Option.some.injEq, hS_2, k_isref, pd_0, pd_s, List.cons_append, List.nil_append, Option.toList_none, Option.toList_some, tX12_read, rX12_read, u1, t9]
      refine cVQ (d' := 1) [vI ((0 : Nat) : Int), vI n] [] l_12_172 u1 (e_reads' (lf := lf) (sf := sf) u1 uM hE al (by omega) (by omega) (Nat.le_refl 1)) (by omega) ?_ (fun E h' q => by obtain ⟨p, m, sd, q, _⟩ := q; cases q)
      intro r3 h7 ⟨p, m, sd, w1, w2, w3⟩
      cases w1
      rcases w3 with ⟨w3, w4, w5, w6, w7⟩ | ⟨w3, w4⟩
      · obtain ⟨mn, em⟩ : ∃ mn : Nat, m = (mn : Int) := ⟨m.toNat, by omega⟩
        subst em
        subst w3
        have hl := c3 q1 v2 mn sd (by omega) w5 w6 (fun i hi => w7 i (by omega))
        rw [uH] at hl
        have y1 : h7.2 57 = some (mO (mS t 21 mn)) := by rw [w2]; exact rdH_72
        have y2 : h7.2 71 = some (cI 40 sd) := by rw [w2]; exact rdH_86
        have y3 : h7.2 61 = some (cI 40 hf) := by rw [w2]; exact (rdH_n (by decide) (by decide)).trans ((uz 61 (by decide)).trans h3)
        rw [← w2] at hl
        refine p_go [47] 40 ?_
        simp only [st_0, st_1, st_2, st_3, st_4, st_5, st_6, st_7, st_8, st_9, st_10, st_11, st_12, st_13, st_14, st_15, st_16, st_17, st_18, st_19, st_20, st_21, st_22, st_23, st_24, st_25, st_26, st_27, st_28, st_29, st_30, st_31, st_32, st_33, st_34, st_34a, st_35, st_36, st_37, st_38, st_39, st_42, st_44, st_45, st_47, st_40, st_41, st_46, st_48, st_49, st_43, go_0, go_s, cut_0, cut_s, get_0, get_s, put_0, put_1, put_s, clr_0, clr_s, unl_i, unl_l, unl_r, unl_n, nth_0, nth_s, sf_0, sf_s, cnd_0, cnd_1, cnd_2, cnd_3, cnd_4, cnd_5, fit_0, fit_1, fit_2, en_0, en_i, en_l, en_r, kb_t, kb_f, kb_n, sw_0, sw_s, ↓reduceIte, Nat.reduceEqDiff, Nat.left_eq_add, Nat.add_eq_left, Nat.add_left_cancel_iff, Nat.reduceAdd, Int.reduceLT, Int.reduceLE, Int.reduceAdd, Int.reduceSub, Int.reduceNeg, Int.reduceMul, Int.reduceToNat, Int.reduceEq, reduceCtorEq, true_and, and_true, true_or, or_true, and_false, false_and, or_false, false_or, not_true_eq_false, not_false_eq_true, Nat.le_refl, and_self, Sum.inl.injEq, Sum.inr.injEq, Option.some.injEq, hS_2, k_isref, pd_0, pd_s, List.cons_append, List.nil_append, Option.toList_none, Option.toList_some, tX12_read, rX12_read]
        have hw := w_mrd (x := x) (d := d) (P := P) (z := n) (m := mn) (p := -1) (hf := hf) y1 y2 rfl (by omega) hl mn 0 (by omega)
        rw [cpy_0, hS_id y3] at hw
        exact hw
      · have e5 : ¬ p < 0 := by omega
        have hl := c2 q1 v2 p m sd w3 w4
        rw [uH, ← w2] at hl
        refine p_go [] 40 ?_
        simp only [st_0, st_1, st_2, st_3, st_4, st_5, st_6, st_7, st_8, st_9, st_10, st_11, st_12, st_13, st_14, st_15, st_16, st_17, st_18, st_19, st_20, st_21, st_22, st_23, st_24, st_25, st_26, st_27, st_28, st_29, st_30, st_31, st_32, st_33, st_34, st_34a, st_35, st_36, st_37, st_38, st_39, st_42, st_44, st_45, st_47, st_40, st_41, st_46, st_48, st_49, st_43, go_0, go_s, cut_0, cut_s, get_0, get_s, put_0, put_1, put_s, clr_0, clr_s, unl_i, unl_l, unl_r, unl_n, nth_0, nth_s, sf_0, sf_s, cnd_0, cnd_1, cnd_2, cnd_3, cnd_4, cnd_5, fit_0, fit_1, fit_2, en_0, en_i, en_l, en_r, kb_t, kb_f, kb_n, sw_0, sw_s, ↓reduceIte, Nat.reduceEqDiff, Nat.left_eq_add, Nat.add_eq_left, Nat.add_left_cancel_iff, Nat.reduceAdd, Int.reduceLT, Int.reduceLE, Int.reduceAdd, Int.reduceSub, Int.reduceNeg, Int.reduceMul, Int.reduceToNat, Int.reduceEq, reduceCtorEq, true_and, and_true, true_or, or_true, and_false, false_and, or_false, false_or, not_true_eq_false, not_false_eq_true, Nat.le_refl, and_self, Sum.inl.injEq, Sum.inr.injEq, Option.some.injEq, hS_2, k_isref, pd_0, pd_s, List.cons_append, List.nil_append, Option.toList_none, Option.toList_some, tX12_read, rX12_read, e5]
        exact ⟨⟨by omega, by omega⟩, hl⟩
    · cases v3
      refine p_go [] 40 ?_
      simp only [st_0, st_1, st_2, st_3, st_4, st_5, st_6, st_7, st_8, st_9, st_10, st_11, st_12, st_13, st_14, st_15, st_16, st_17, st_18, st_19, st_20, st_21, st_22, st_23, st_24, st_25, st_26, st_27, st_28, st_29, st_30, st_31, st_32, st_33, st_34, st_34a, st_35, st_36, st_37, st_38, st_39, st_42, st_44, st_45, st_47, st_40, st_41, st_46, st_48, st_49, st_43, go_0, go_s, cut_0, cut_s, get_0, get_s, put_0, put_1, put_s, clr_0, clr_s, unl_i, unl_l, unl_r, unl_n, nth_0, nth_s, sf_0, sf_s, cnd_0, cnd_1, cnd_2, cnd_3, cnd_4, cnd_5, fit_0, fit_1, fit_2, en_0, en_i, en_l, en_r, kb_t, kb_f, kb_n, sw_0, sw_s, ↓reduceIte, Nat.reduceEqDiff, Nat.left_eq_add, Nat.add_eq_left, Nat.add_left_cancel_iff, Nat.reduceAdd, Int.reduceLT, Int.reduceLE, Int.reduceAdd, Int.reduceSub, Int.reduceNeg, Int.reduceMul, Int.reduceToNat, Int.reduceEq, reduceCtorEq, true_and, and_true, true_or, or_true, and_false, false_and, or_false, false_or, not_true_eq_false, not_false_eq_true, Nat.le_refl, and_self, Sum.inl.injEq, Sum.inr.injEq, Option.some.injEq, hS_2, k_isref, pd_0, pd_s, List.cons_append, List.nil_append, Option.toList_none, Option.toList_some, tX12_read, rX12_read]
      exact c1 q1 v2
end Mread67
