/-! the reference: parsing; a row -/
section Mrow78
variable {x : Bool} {d : Nat} {h h0 : PH} {s t : F_} {P : PO → PH → Prop} {R E : LxT} {f g : F_} {en : Nat}
/-- from one state of the parse to a later one, in one row -/
def rwR (R E : LxT) (f : F_) (en rc : Nat) (S : PS) (pl : F_) (rc' : Nat) (S' : PS) (pl' : F_) : Prop := PX R E f en rc' S' = PX R E f en rc S ∧ (rc ≤ rc' ∧ rc' ≤ en) ∧ psI rc' S' ∧ S'.1.1 = S.1.1 ∧ S.2.1.2 ≤ S'.2.1.2 ∧
  (∀ k, k < S.2.1.2 → S'.2.2.2.1.2.2.1 k = S.2.2.2.1.2.2.1 k ∧ S'.2.2.2.1.1 k = S.2.2.2.1.1 k ∧ S'.2.2.2.1.2.2.2 k = S.2.2.2.1.2.2.2 k ∧ pl' k = pl k) ∧ (∀ k, S.2.1.2 ≤ k → k < S'.2.1.2 → pl' k = S'.2.2.2.1.2.2.1 k)
theorem rwR.refl {rc : Nat} {S : PS} {pl : F_} (hI : psI rc S) (hrc : rc ≤ en) : rwR R E f en rc S pl rc S pl := ⟨rfl, ⟨Nat.le_refl _, hrc⟩, hI, rfl, Nat.le_refl _, fun k hk => ⟨rfl, rfl, rfl, rfl⟩, fun k h1 h2 => by omega⟩
theorem rwR.trans {rc rc' rc'' : Nat} {S S' S'' : PS} {pl pl' pl'' : F_} (h1 : rwR R E f en rc S pl rc' S' pl') (h2 : rwR R E f en rc' S' pl' rc'' S'' pl'') : rwR R E f en rc S pl rc'' S'' pl'' := by
  obtain ⟨a1, a2, a3, a4, a5, a6, a7⟩ := h1
  obtain ⟨b1, b2, b3, b4, b5, b6, b7⟩ := h2
  refine ⟨b1.trans a1, by omega, b3, b4.trans a4, by omega, fun k hk => ?_, fun k k1 k2 => ?_⟩
  · obtain ⟨c1, c2, c3, c4⟩ := a6 k hk
    obtain ⟨e1, e2, e3, e4⟩ := b6 k (by omega)
    exact ⟨e1.trans c1, e2.trans c2, e3.trans c3, e4.trans c4⟩
  · by_cases hk : k < S'.2.1.2
    · obtain ⟨e1, e2, e3, e4⟩ := b6 k hk
      rw [e4, e1]
      exact a7 k k1 hk
    · exact b7 k (by omega) k2
/-- what a choice in a row ends with -/
def chcQ (R E : LxT) (f : F_) (en : Nat) (h0 : PH) (s t : F_) (rc : Nat) (S : PS) (pl : F_) : PO → PH → Prop := fun o h' => o = rV ∧ (FQ h0 h' s (prX (PX R E f en rc S)) ∨ ∃ t' rc' S' pl', MP h0 h' s t' rc' S' pl' ∧ t' 34 = t 34 ∧ rwR R E f en rc S pl rc' S' pl' ∧ rc < rc' ∧ S'.1.2 = 0)
/-- no row goes on here -/
def stp_ (f : F_) (en rc : Nat) : Prop := rc < en → ¬ lt_ (f rc) ∧ f rc ≠ 32 ∧ f rc ≠ 40 ∧ f rc ≠ 91
def rowQ (R E : LxT) (f : F_) (en : Nat) (h0 : PH) (s t : F_) (rc : Nat) (S : PS) (pl : F_) : PO → PH → Prop := fun o h' => o = rV ∧ (FQ h0 h' s (prX (PX R E f en rc S)) ∨ ∃ t' rc' S' pl', MP h0 h' s t' rc' S' pl' ∧ t' 34 = t 34 ∧ rwR R E f en rc S pl rc' S' pl' ∧ S'.1.2 = 0 ∧ stp_ f en rc')
/-- the contract of choice, for so many points left -/
def ChC (x : Bool) (R E : LxT) (f : F_) (en : Nat) (h0 : PH) (s : F_) (n : Nat) : Prop := ∀ (h : PH) (t : F_) (rc : Nat) (S : PS) (pl : F_) (alt : Int), 8 - S.2.1.2 ≤ n → MP h0 h s t rc S pl → psI rc S → rc < en → (f rc = 40 ∨ f rc = 91) → alt = lpt S.2.1.2 S.2.2.2.1.2.2.1 S.1.1 → k_Ev x (2 * n + 2) 0 0 mX12_choice [vR 57, vI S.1.1, vI alt, vI (f rc)] h (chcQ R E f en h0 s t rc S pl)
theorem MP.skip {rc : Nat} {S : PS} {pl : F_} {rc' : Nat} (hP : MP h0 h s t rc S pl) : MP h0 (hS h 57 (mO (mS t 32 rc'))) s (mS t 32 rc') rc' S pl := by
  obtain ⟨hF, p1, p2, p3, p4, hW, hQ⟩ := hP
  exact ⟨hF.put (fun i i1 i2 => mS_n (by omega)), rfl, p2, p3, p4, hW.fr (fun z z1 z2 => hS_n (by omega)), hQ.fr (fun z z1 z2 => hS_n (by omega))⟩
theorem psI_mono {rc rc' : Nat} {S : PS} (h : psI rc S) (h1 : rc ≤ rc') : psI rc' S := h.mono h1
theorem tkS_keep {rc bh : Nat} {S : PS} (h0 : (tkSpell R E f rc bh S).1 = 0) : (tkSpell R E f rc bh S).2.1.1 = S.1.1 ∧ (tkSpell R E f rc bh S).2.1.2 = 0 ∧ (tkSpell R E f rc bh S).2.2.1.2 = S.2.1.2 ∧ (tkSpell R E f rc bh S).2.2.2.2.1 = S.2.2.2.1 := by
  obtain ⟨⟨o, e⟩, ⟨wc, pc⟩, ⟨wl, ws, wp, wq⟩, ⟨op, oq, pt, ob⟩, ⟨lf, sf⟩⟩ := S
  unfold tkSpell at h0 ⊢
  simp only at h0 ⊢
  by_cases c1 : 10 < bh - rc
  · rw [if_pos c1] at h0; simp only at h0; omega
  · rw [if_neg c1] at h0 ⊢
    by_cases c2 : (rdE R E f rc (bh - rc) lf sf).1 < 0
    · rw [if_pos c2] at h0; simp only at h0; omega
    · rw [if_neg c2] at h0 ⊢
      by_cases c3 : wc = 20
      · rw [if_pos c3] at h0; simp only at h0; omega
      · rw [if_neg c3]
        exact ⟨rfl, rfl, rfl, rfl⟩
/-- a row that is empty, or a sign that none takes: the parse ends here -/
theorem prX_end {rc : Nat} {S : PS} (hrc : rc ≤ en) (hs : stp_ f en rc) (he : S.1.2 = 1) : prX (PX R E f en rc S) = (1, (rc : Int)) := by
  by_cases hc : rc < en
  · obtain ⟨h1, h2, h3, h4⟩ := hs hc
    have hb : bhd f (en - rc) rc = rc := bhd_no h1
    obtain ⟨⟨o, e⟩, ⟨wc, pc⟩, ⟨wl, ws, wp, wq⟩, ⟨op, oq, pt, ob⟩, ⟨lf, sf⟩⟩ := S
    simp only at he
    subst he
    have ht : (prT R E f en rc ((o, 1), (wc, pc), (wl, ws, wp, wq), (op, oq, pt, ob), lf, sf)).1 = 1 := by
      unfold prT
      rw [hb, if_neg (by omega)]
      unfold tkSign
      rw [if_neg h2, if_neg h3, if_neg h4]
      by_cases c1 : f rc = 124
      · rw [if_pos c1]; unfold tkBar; simp only; rw [if_pos (Or.inr trivial)]
      · rw [if_neg c1]
        by_cases c2 : f rc = 41
        · rw [if_pos c2]; unfold tkClose; simp only; rw [if_pos (Or.inr (Or.inl trivial))]
        · rw [if_neg c2]
          by_cases c3 : f rc = 93
          · rw [if_pos c3]; unfold tkClose; simp only; rw [if_pos (Or.inr (Or.inl trivial))]
          · rw [if_neg c3]
    rw [PX_err hc (by rw [ht]; decide)]
    unfold prX
    simp only
    rw [ht, if_pos (by decide)]
  · rw [PX_stop (by omega)]
    unfold prX
    simp only
    rw [if_neg (by decide), if_pos (Or.inl he)]
set_option maxRecDepth 100000 in
set_option maxHeartbeats 4000000 in
theorem w_row {n8 : Nat} {S0 : PS} {rc0 : Nat} {pl0 t0 : F_} {alt : Int} (hM : MLx h0 s g R E) (hE : EnvI R E) (h9 : s 9 = en) (hen : en ≤ 400) (hfg : ∀ k, k < en → f k = g k % 256) (hgb : ∀ k, k < 400 → -128 ≤ g k ∧ g k ≤ 127) (hCh : ChC x R E f en h0 s n8) (hn8 : 8 - S0.2.1.2 ≤ n8) (hd : 2 * n8 + 3 ≤ d) (he0 : S0.1.2 = 1) (halt : alt = lpt S0.2.1.2 S0.2.2.2.1.2.2.1 S0.1.1) (ho : S0.1.1 < S0.2.1.2) : ∀ (j rc n : Nat) (S : PS) (pl : F_) (h : PH) (t : F_) (c : Int), en - rc < j → n ≤ rc → rwR R E f en rc0 S0 pl0 rc S pl → MP h0 h s t rc S pl → t 34 = t0 34 → (n = 0 → S.1.2 = 1) → (0 < n → S.1.2 = 0) →
    k_Wp x d 0 0 mX12_row (rowQ R E f en h0 s t0 rc0 S0 pl0) 0 0 5 [some (vR 57), some (vI S0.1.1), some (vI alt), some (vI n), some (vI 1), none] [] h := by
  intro j
  induction j with
  | zero => intro rc n S pl h t c h1; omega
  | succ j ih =>
    intro rc n S pl h t c hj hn hR hP h34 hz hp
    have hR0 := hR
    obtain ⟨r1, r2, r3, r4, r5, r6, r7⟩ := hR
    have h1 := hP.1.2.1
    have t33 := hP.2.2.2.2.1
    have t32 := hP.2.1
    have t9 : t 9 = en := (hP.1.2.2.1 9 (by decide) (by decide)).trans h9
    have h77 : h.2 62 = some (.inl (1, 400, g)) := (hP.1.2.2.2.2.2.2.2.2.2.2.2.2 62 (by decide) (by decide)).trans hM.1
    have hsb := skp_b (f := f) (en := en) (en - rc) rc
    have hse := skp_end (f := f) (en := en) (en - rc) rc (Nat.le_refl _)
    have hsp := skp_PX (R := R) (E := E) (f := f) (en := en) (S := S) (en - rc) rc
    have hbl := e_blanks (x := x) (d := 1) (f := f) h1 h77 t9 t32 hen r2.2 hfg (Nat.le_refl 1)
    have hP2 := hP.skip (rc' := skp f en (en - rc) rc)
    generalize hk : skp f en (en - rc) rc = rk at hsb hse hsp hbl hP2
    have hrk := hsb.2 r2.2
    have e33 : (t 33 = 0) = True := eq_true t33
    -- the parse goes on at rk
    have hRk : rwR R E f en rc0 S0 pl0 rk S pl := ⟨hsp.trans r1, by omega, psI_mono r3 (by omega), r4, r5, r6, r7⟩
    refine p_go [] 40 ?_
    simp only [st_0, st_1, st_2, st_3, st_4, st_5, st_6, st_7, st_8, st_9, st_10, st_11, st_12, st_13, st_14, st_15, st_16, st_17, st_18, st_19, st_20, st_21, st_22, st_23, st_24, st_25, st_26, st_27, st_28, st_29, st_30, st_31, st_32, st_33, st_34, st_34a, st_35, st_36, st_37, st_38, st_39, st_42, st_44, st_45, st_47, st_40, st_41, st_46, st_48, st_49, st_43, go_0, go_s, cut_0, cut_s, get_0, get_s, put_0, put_1, put_s, clr_0, clr_s, unl_i, unl_l, unl_r, unl_n, nth_0, nth_s, sf_0, sf_s, cnd_0, cnd_1, cnd_2, cnd_3, cnd_4, cnd_5, fit_0, fit_1, fit_2, en_0, en_i, en_l, en_r, kb_t, kb_f, kb_n, sw_0, sw_s, ↓reduceIte, Nat.reduceEqDiff, Nat.left_eq_add, Nat.add_eq_left, Nat.add_left_cancel_iff, Nat.reduceAdd, Int.reduceLT, Int.reduceLE, Int.reduceAdd, Int.reduceSub, Int.reduceNeg, Int.reduceMul, Int.reduceToNat, Int.reduceEq, reduceCtorEq, true_and, and_true, true_or, or_true, and_false, false_and, or_false, false_or, not_true_eq_false, not_false_eq_true, Nat.le_refl, and_self, Sum.inl.injEq, Sum.inr.injEq, Option.some.injEq, hS_2, k_isref, pd_0, pd_s, List.cons_append, List.nil_append, Option.toList_none, Option.toList_some, tX12_row, rX12_row, h1, e33]
    refine cV (d' := 1) [] [] l_12_182 h1 hbl (by omega) (p_go [] 40 ?_)
    have k1 := hP2.1.2.1
    have k33 := hP2.2.2.2.2.1
    have k32 := hP2.2.1
    have k34 : mS t 32 rk 34 = t0 34 := h34
    have k9 : mS t 32 rk 9 = en := t9
    have k77 : (hS h 57 (mO (mS t 32 rk))).2 62 = some (.inl (1, 400, g)) := (hS_n (by decide)).trans h77
    generalize hS h 57 (mO (mS t 32 rk)) = h2 at hP2 k1 k77 ⊢
    generalize mS t 32 rk = t2 at hP2 k1 k33 k32 k34 k9
    have hbt := e_byteAt (x := x) (d := 0) (k := rk) k1 k77 (by rw [k9]; omega)
    rw [k9] at hbt
    have hv : (if (rk : Int) < (en : Int) then g rk % 256 else 0) = (if rk < en then f rk else 0) := by
      by_cases c : rk < en
      · rw [if_pos c, if_pos (by omega), hfg rk c]
      · rw [if_neg c, if_neg (by omega)]
    rw [hv] at hbt
    simp only [st_0, st_1, st_2, st_3, st_4, st_5, st_6, st_7, st_8, st_9, st_10, st_11, st_12, st_13, st_14, st_15, st_16, st_17, st_18, st_19, st_20, st_21, st_22, st_23, st_24, st_25, st_26, st_27, st_28, st_29, st_30, st_31, st_32, st_33, st_34, st_34a, st_35, st_36, st_37, st_38, st_39, st_42, st_44, st_45, st_47, st_40, st_41, st_46, st_48, st_49, st_43, go_0, go_s, cut_0, cut_s, get_0, get_s, put_0, put_1, put_s, clr_0, clr_s, unl_i, unl_l, unl_r, unl_n, nth_0, nth_s, sf_0, sf_s, cnd_0, cnd_1, cnd_2, cnd_3, cnd_4, cnd_5, fit_0, fit_1, fit_2, en_0, en_i, en_l, en_r, kb_t, kb_f, kb_n, sw_0, sw_s, ↓reduceIte, Nat.reduceEqDiff, Nat.left_eq_add, Nat.add_eq_left, Nat.add_left_cancel_iff, Nat.reduceAdd, Int.reduceLT, Int.reduceLE, Int.reduceAdd, Int.reduceSub, Int.reduceNeg, Int.reduceMul, Int.reduceToNat, Int.reduceEq, reduceCtorEq, true_and, and_true, true_or, or_true, and_false, false_and, or_false, false_or, not_true_eq_false, not_false_eq_true, Nat.le_refl, and_self, Sum.inl.injEq, Sum.inr.injEq, Option.some.injEq, hS_2, k_isref, pd_0, pd_s, List.cons_append, List.nil_append, Option.toList_none, Option.toList_some, tX12_row, rX12_row, k1, k32]
    refine cV (d' := 0) [vI rk] [] l_12_146 k1 hbt (by omega) (p_go [] 40 ?_)
    simp only [st_0, st_1, st_2, st_3, st_4, st_5, st_6, st_7, st_8, st_9, st_10, st_11, st_12, st_13, st_14, st_15, st_16, st_17, st_18, st_19, st_20, st_21, st_22, st_23, st_24, st_25, st_26, st_27, st_28, st_29, st_30, st_31, st_32, st_33, st_34, st_34a, st_35, st_36, st_37, st_38, st_39, st_42, st_44, st_45, st_47, st_40, st_41, st_46, st_48, st_49, st_43, go_0, go_s, cut_0, cut_s, get_0, get_s, put_0, put_1, put_s, clr_0, clr_s, unl_i, unl_l, unl_r, unl_n, nth_0, nth_s, sf_0, sf_s, cnd_0, cnd_1, cnd_2, cnd_3, cnd_4, cnd_5, fit_0, fit_1, fit_2, en_0, en_i, en_l, en_r, kb_t, kb_f, kb_n, sw_0, sw_s, ↓reduceIte, Nat.reduceEqDiff, Nat.left_eq_add, Nat.add_eq_left, Nat.add_left_cancel_iff, Nat.reduceAdd, Int.reduceLT, Int.reduceLE, Int.reduceAdd, Int.reduceSub, Int.reduceNeg, Int.reduceMul, Int.reduceToNat, Int.reduceEq, reduceCtorEq, true_and, and_true, true_or, or_true, and_false, false_and, or_false, false_or, not_true_eq_false, not_false_eq_true, Nat.le_refl, and_self, Sum.inl.injEq, Sum.inr.injEq, Option.some.injEq, hS_2, k_isref, pd_0, pd_s, List.cons_append, List.nil_append, Option.toList_none, Option.toList_some, tX12_row, rX12_row]
    refine cS (d' := 0) [vI (if rk < en then f rk else 0)] [] l_12_150 (e_mletter _) (by omega) (p_go [5] 40 ?_)
    -- what is behind an item
    have aft : ∀ (h3 : PH) (cc : Int), (FQ h0 h3 s (prX (PX R E f en rk S)) ∨ ∃ t' rc' S' pl', MP h0 h3 s t' rc' S' pl' ∧ t' 34 = t2 34 ∧ rwR R E f en rk S pl rc' S' pl' ∧ rk < rc' ∧ S'.1.2 = 0) → k_Wp x d 0 0 mX12_row (rowQ R E f en h0 s t0 rc0 S0 pl0) 0 0 76 [some (vR 57), some (vI S0.1.1), some (vI alt), some (vI n), some (vI 1), some (vI cc)] [] h3 := by
      intro h3 cc hh
      have hgo : k_Wp x d 0 0 mX12_row (rowQ R E f en h0 s t0 rc0 S0 pl0) 0 0 5 [some (vR 57), some (vI S0.1.1), some (vI alt), some (vI ((n + 1 : Nat) : Int)), some (vI 1), some (vI cc)] [] h3 := by
        rcases hh with hh | ⟨t', rc', S', pl', q1, q2, q3, q4, q5⟩
        · rw [hRk.1] at hh
          obtain ⟨t', q1, q2, q3, q4⟩ := id hh
          have j1 := q1.2.1
          have f33 : (t' 33 = 0) = False := eq_false (by omega)
          have en0 : (((n + 1 : Nat) : Int) = 0) = False := eq_false (by omega)
          refine p_go [] 40 ?_
          simp only [st_0, st_1, st_2, st_3, st_4, st_5, st_6, st_7, st_8, st_9, st_10, st_11, st_12, st_13, st_14, st_15, st_16, st_17, st_18, st_19, st_20, st_21, st_22, st_23, st_24, st_25, st_26, st_27, st_28, st_29, st_30, st_31, st_32, st_33, st_34, st_34a, st_35, st_36, st_37, st_38, st_39, st_42, st_44, st_45, st_47, st_40, st_41, st_46, st_48, st_49, st_43, go_0, go_s, cut_0, cut_s, get_0, get_s, put_0, put_1, put_s, clr_0, clr_s, unl_i, unl_l, unl_r, unl_n, nth_0, nth_s, sf_0, sf_s, cnd_0, cnd_1, cnd_2, cnd_3, cnd_4, cnd_5, fit_0, fit_1, fit_2, en_0, en_i, en_l, en_r, kb_t, kb_f, kb_n, sw_0, sw_s, ↓reduceIte, Nat.reduceEqDiff, Nat.left_eq_add, Nat.add_eq_left, Nat.add_left_cancel_iff, Nat.reduceAdd, Int.reduceLT, Int.reduceLE, Int.reduceAdd, Int.reduceSub, Int.reduceNeg, Int.reduceMul, Int.reduceToNat, Int.reduceEq, reduceCtorEq, true_and, and_true, true_or, or_true, and_false, false_and, or_false, false_or, not_true_eq_false, not_false_eq_true, Nat.le_refl, and_self, Sum.inl.injEq, Sum.inr.injEq, Option.some.injEq, hS_2, k_isref, pd_0, pd_s, List.cons_append, List.nil_append, Option.toList_none, Option.toList_some, tX12_row, rX12_row, j1, f33, en0]
          exact ⟨rfl, Or.inl hh⟩
        · have hq := q3.2.1
          have hnx := ih rc' (n + 1) S' pl' h3 t' cc (by omega) (by omega) (hRk.trans q3) q1 (q2.trans k34) (fun w => by omega) (fun _ => q5)
          exact p_sub (by (repeat (first | exact le_nil | refine le_s ?_ | refine le_n ?_))) hnx
      refine p_go [5] 40 ?_
      simp only [st_0, st_1, st_2, st_3, st_4, st_5, st_6, st_7, st_8, st_9, st_10, st_11, st_12, st_13, st_14, st_15, st_16, st_17, st_18, st_19, st_20, st_21, st_22, st_23, st_24, st_25, st_26, st_27, st_28, st_29, st_30, st_31, st_32, st_33, st_34, st_34a, st_35, st_36, st_37, st_38, st_39, st_42, st_44, st_45, st_47, st_40, st_41, st_46, st_48, st_49, st_43, go_0, go_s, cut_0, cut_s, get_0, get_s, put_0, put_1, put_s, clr_0, clr_s, unl_i, unl_l, unl_r, unl_n, nth_0, nth_s, sf_0, sf_s, cnd_0, cnd_1, cnd_2, cnd_3, cnd_4, cnd_5, fit_0, fit_1, fit_2, en_0, en_i, en_l, en_r, kb_t, kb_f, kb_n, sw_0, sw_s, ↓reduceIte, Nat.reduceEqDiff, Nat.left_eq_add, Nat.add_eq_left, Nat.add_left_cancel_iff, Nat.reduceAdd, Int.reduceLT, Int.reduceLE, Int.reduceAdd, Int.reduceSub, Int.reduceNeg, Int.reduceMul, Int.reduceToNat, Int.reduceEq, reduceCtorEq, true_and, and_true, true_or, or_true, and_false, false_and, or_false, false_or, not_true_eq_false, not_false_eq_true, Nat.le_refl, and_self, Sum.inl.injEq, Sum.inr.injEq, Option.some.injEq, hS_2, k_isref, pd_0, pd_s, List.cons_append, List.nil_append, Option.toList_none, Option.toList_some, tX12_row, rX12_row, nat1]
      exact ⟨⟨by omega, by omega⟩, hgo⟩
    have hIk := hRk.2.2.1
    have halt' : alt = lpt S.2.1.2 S.2.2.2.1.2.2.1 S.1.1 := by
      rw [halt, r4]
      unfold lpt
      by_cases c1 : 0 ≤ S0.1.1 ∧ S0.1.1 < (S0.2.1.2 : Int)
      · rw [if_pos c1, if_pos ⟨c1.1, by omega⟩, (r6 S0.1.1.toNat (by omega)).1]
      · rw [if_neg c1, if_neg (by omega)]
    by_cases hl : lt_ (if rk < en then f rk else 0)
    · have hlt : rk < en := by
        by_cases c : rk < en
        · exact c
        · rw [if_neg c] at hl; exact absurd hl (by decide)
      rw [if_pos hlt] at hl
      rw [if_pos (show lt_ (if rk < en then f rk else 0) by rw [if_pos hlt]; exact hl)]
      simp only [st_0, st_1, st_2, st_3, st_4, st_5, st_6, st_7, st_8, st_9, st_10, st_11, st_12, st_13, st_14, st_15, st_16, st_17, st_18, st_19, st_20, st_21, st_22, st_23, st_24, st_25, st_26, st_27, st_28, st_29, st_30, st_31, st_32, st_33, st_34, st_34a, st_35, st_36, st_37, st_38, st_39, st_42, st_44, st_45, st_47, st_40, st_41, st_46, st_48, st_49, st_43, go_0, go_s, cut_0, cut_s, get_0, get_s, put_0, put_1, put_s, clr_0, clr_s, unl_i, unl_l, unl_r, unl_n, nth_0, nth_s, sf_0, sf_s, cnd_0, cnd_1, cnd_2, cnd_3, cnd_4, cnd_5, fit_0, fit_1, fit_2, en_0, en_i, en_l, en_r, kb_t, kb_f, kb_n, sw_0, sw_s, ↓reduceIte, Nat.reduceEqDiff, Nat.left_eq_add, Nat.add_eq_left, Nat.add_left_cancel_iff, Nat.reduceAdd, Int.reduceLT, Int.reduceLE, Int.reduceAdd, Int.reduceSub, Int.reduceNeg, Int.reduceMul, Int.reduceToNat, Int.reduceEq, reduceCtorEq, true_and, and_true, true_or, or_true, and_false, false_and, or_false, false_or, not_true_eq_false, not_false_eq_true, Nat.le_refl, and_self, Sum.inl.injEq, Sum.inr.injEq, Option.some.injEq, hS_2, k_isref, pd_0, pd_s, List.cons_append, List.nil_append, Option.toList_none, Option.toList_some, tX12_row, rX12_row]
      have hev := e_spelling (x := x) (d := 2) hP2 hM hE hIk h9 hen hfg hgb hlt hl halt' (Nat.le_refl 2)
      rw [r4] at hev
      refine cVQ (d' := 2) [vI S0.1.1, vI alt] [] l_12_185 k1 hev (by omega) ?_ (fun E h' q => by cases q.1)
      intro rr h3 ⟨q1, q2⟩
      cases q1
      have hb1 := bhd_pos hlt hl
      have hb2 := bhd_ge (f := f) (en - rk) rk
      have hT : prT R E f en rk S = tkSpell R E f rk (bhd f (en - rk) rk) S := by
        unfold prT
        rw [if_pos hb1]
      refine p_go [76] 40 ?_
      simp only [st_0, st_1, st_2, st_3, st_4, st_5, st_6, st_7, st_8, st_9, st_10, st_11, st_12, st_13, st_14, st_15, st_16, st_17, st_18, st_19, st_20, st_21, st_22, st_23, st_24, st_25, st_26, st_27, st_28, st_29, st_30, st_31, st_32, st_33, st_34, st_34a, st_35, st_36, st_37, st_38, st_39, st_42, st_44, st_45, st_47, st_40, st_41, st_46, st_48, st_49, st_43, go_0, go_s, cut_0, cut_s, get_0, get_s, put_0, put_1, put_s, clr_0, clr_s, unl_i, unl_l, unl_r, unl_n, nth_0, nth_s, sf_0, sf_s, cnd_0, cnd_1, cnd_2, cnd_3, cnd_4, cnd_5, fit_0, fit_1, fit_2, en_0, en_i, en_l, en_r, kb_t, kb_f, kb_n, sw_0, sw_s, ↓reduceIte, Nat.reduceEqDiff, Nat.left_eq_add, Nat.add_eq_left, Nat.add_left_cancel_iff, Nat.reduceAdd, Int.reduceLT, Int.reduceLE, Int.reduceAdd, Int.reduceSub, Int.reduceNeg, Int.reduceMul, Int.reduceToNat, Int.reduceEq, reduceCtorEq, true_and, and_true, true_or, or_true, and_false, false_and, or_false, false_or, not_true_eq_false, not_false_eq_true, Nat.le_refl, and_self, Sum.inl.injEq, Sum.inr.injEq, Option.some.injEq, hS_2, k_isref, pd_0, pd_s, List.cons_append, List.nil_append, Option.toList_none, Option.toList_some, tX12_row, rX12_row]
      refine aft h3 _ ?_
      rcases q2 with ⟨q2, q3⟩ | ⟨q2, t', q3, q4⟩
      · refine Or.inl ?_
        rw [PX_err hlt (by rw [hT]; exact q2), hT]
        unfold prX
        simp only
        rw [if_pos q2]
        exact q3
      · obtain ⟨w1, w2, w3, w4⟩ := tkS_keep q2
        refine Or.inr ⟨t', _, _, pl, q3, q4, ⟨?_, ⟨by omega, by omega⟩, ?_, w1, by rw [w3]; exact Nat.le_refl _, fun k hk => by rw [w4]; exact ⟨rfl, rfl, rfl, rfl⟩, fun k k1 k2 => by rw [w3] at k2; omega⟩, hb1, w2⟩
        · rw [PX_go hlt (by rw [hT]; exact q2), hT, show max (bhd f (en - rk) rk) (rk + 1) = bhd f (en - rk) rk by omega]
        · exact psI_mono (tkSpell_I hE hIk) (by omega)
    · rw [if_neg hl]
      by_cases hop : rk < en ∧ (f rk = 40 ∨ f rk = 91)
      · rw [if_pos hop.1]
        have hev := hCh h2 t2 rk S pl alt (by omega) hP2 hIk hop.1 hop.2 halt'
        rw [r4] at hev
        have hcall : k_Wp x d 0 0 mX12_row (rowQ R E f en h0 s t0 rc0 S0 pl0) 0 0 67 [some (vR 57), some (vI S0.1.1), some (vI alt), some (vI n), some (vI 1), some (vI (f rk))] [vI (f rk), vI alt, vI S0.1.1, vR 57] h2 := by
          refine cVQ (d' := 2 * n8 + 2) [vI S0.1.1, vI alt, vI (f rk)] [] l_12_189 k1 hev (by omega) ?_ (fun E h' q => by cases q.1)
          intro rr h3 ⟨q1, q2⟩
          cases q1
          refine p_go [76] 40 ?_
          simp only [st_0, st_1, st_2, st_3, st_4, st_5, st_6, st_7, st_8, st_9, st_10, st_11, st_12, st_13, st_14, st_15, st_16, st_17, st_18, st_19, st_20, st_21, st_22, st_23, st_24, st_25, st_26, st_27, st_28, st_29, st_30, st_31, st_32, st_33, st_34, st_34a, st_35, st_36, st_37, st_38, st_39, st_42, st_44, st_45, st_47, st_40, st_41, st_46, st_48, st_49, st_43, go_0, go_s, cut_0, cut_s, get_0, get_s, put_0, put_1, put_s, clr_0, clr_s, unl_i, unl_l, unl_r, unl_n, nth_0, nth_s, sf_0, sf_s, cnd_0, cnd_1, cnd_2, cnd_3, cnd_4, cnd_5, fit_0, fit_1, fit_2, en_0, en_i, en_l, en_r, kb_t, kb_f, kb_n, sw_0, sw_s, ↓reduceIte, Nat.reduceEqDiff, Nat.left_eq_add, Nat.add_eq_left, Nat.add_left_cancel_iff, Nat.reduceAdd, Int.reduceLT, Int.reduceLE, Int.reduceAdd, Int.reduceSub, Int.reduceNeg, Int.reduceMul, Int.reduceToNat, Int.reduceEq, reduceCtorEq, true_and, and_true, true_or, or_true, and_false, false_and, or_false, false_or, not_true_eq_false, not_false_eq_true, Nat.le_refl, and_self, Sum.inl.injEq, Sum.inr.injEq, Option.some.injEq, hS_2, k_isref, pd_0, pd_s, List.cons_append, List.nil_append, Option.toList_none, Option.toList_some, tX12_row, rX12_row]
          exact aft h3 _ q2
        rcases hop.2 with h40 | h91
        · have e40 : (f rk = 40) = True := eq_true h40
          simp only [st_0, st_1, st_2, st_3, st_4, st_5, st_6, st_7, st_8, st_9, st_10, st_11, st_12, st_13, st_14, st_15, st_16, st_17, st_18, st_19, st_20, st_21, st_22, st_23, st_24, st_25, st_26, st_27, st_28, st_29, st_30, st_31, st_32, st_33, st_34, st_34a, st_35, st_36, st_37, st_38, st_39, st_42, st_44, st_45, st_47, st_40, st_41, st_46, st_48, st_49, st_43, go_0, go_s, cut_0, cut_s, get_0, get_s, put_0, put_1, put_s, clr_0, clr_s, unl_i, unl_l, unl_r, unl_n, nth_0, nth_s, sf_0, sf_s, cnd_0, cnd_1, cnd_2, cnd_3, cnd_4, cnd_5, fit_0, fit_1, fit_2, en_0, en_i, en_l, en_r, kb_t, kb_f, kb_n, sw_0, sw_s, ↓reduceIte, Nat.reduceEqDiff, Nat.left_eq_add, Nat.add_eq_left, Nat.add_left_cancel_iff, Nat.reduceAdd, Int.reduceLT, Int.reduceLE, Int.reduceAdd, Int.reduceSub, Int.reduceNeg, Int.reduceMul, Int.reduceToNat, Int.reduceEq, reduceCtorEq, true_and, and_true, true_or, or_true, and_false, false_and, or_false, false_or, not_true_eq_false, not_false_eq_true, Nat.le_refl, and_self, Sum.inl.injEq, Sum.inr.injEq, Option.some.injEq, hS_2, k_isref, pd_0, pd_s, List.cons_append, List.nil_append, Option.toList_none, Option.toList_some, tX12_row, rX12_row, e40]
          exact hcall
        · have e40 : (f rk = 40) = False := eq_false (by omega)
          have e91 : (f rk = 91) = True := eq_true h91
          simp only [st_0, st_1, st_2, st_3, st_4, st_5, st_6, st_7, st_8, st_9, st_10, st_11, st_12, st_13, st_14, st_15, st_16, st_17, st_18, st_19, st_20, st_21, st_22, st_23, st_24, st_25, st_26, st_27, st_28, st_29, st_30, st_31, st_32, st_33, st_34, st_34a, st_35, st_36, st_37, st_38, st_39, st_42, st_44, st_45, st_47, st_40, st_41, st_46, st_48, st_49, st_43, go_0, go_s, cut_0, cut_s, get_0, get_s, put_0, put_1, put_s, clr_0, clr_s, unl_i, unl_l, unl_r, unl_n, nth_0, nth_s, sf_0, sf_s, cnd_0, cnd_1, cnd_2, cnd_3, cnd_4, cnd_5, fit_0, fit_1, fit_2, en_0, en_i, en_l, en_r, kb_t, kb_f, kb_n, sw_0, sw_s, ↓reduceIte, Nat.reduceEqDiff, Nat.left_eq_add, Nat.add_eq_left, Nat.add_left_cancel_iff, Nat.reduceAdd, Int.reduceLT, Int.reduceLE, Int.reduceAdd, Int.reduceSub, Int.reduceNeg, Int.reduceMul, Int.reduceToNat, Int.reduceEq, reduceCtorEq, true_and, and_true, true_or, or_true, and_false, false_and, or_false, false_or, not_true_eq_false, not_false_eq_true, Nat.le_refl, and_self, Sum.inl.injEq, Sum.inr.injEq, Option.some.injEq, hS_2, k_isref, pd_0, pd_s, List.cons_append, List.nil_append, Option.toList_none, Option.toList_some, tX12_row, rX12_row, e40, e91]
          exact hcall
      · have hst : stp_ f en rk := fun hlt => by
          rw [if_pos hlt] at hl
          exact ⟨hl, fun q => hse ⟨hlt, q⟩, fun q => hop ⟨hlt, Or.inl q⟩, fun q => hop ⟨hlt, Or.inr q⟩⟩
        have c40 : ((if rk < en then f rk else 0) = 40) = False := eq_false (fun q => by
          by_cases c : rk < en
          · rw [if_pos c] at q; exact hop ⟨c, Or.inl q⟩
          · rw [if_neg c] at q; omega)
        have c91 : ((if rk < en then f rk else 0) = 91) = False := eq_false (fun q => by
          by_cases c : rk < en
          · rw [if_pos c] at q; exact hop ⟨c, Or.inr q⟩
          · rw [if_neg c] at q; omega)
        generalize (if rk < en then f rk else 0) = cv at c40 c91 ⊢
        have en1 : (n : Int) + 0 = (n : Int) := by omega
        simp only [st_0, st_1, st_2, st_3, st_4, st_5, st_6, st_7, st_8, st_9, st_10, st_11, st_12, st_13, st_14, st_15, st_16, st_17, st_18, st_19, st_20, st_21, st_22, st_23, st_24, st_25, st_26, st_27, st_28, st_29, st_30, st_31, st_32, st_33, st_34, st_34a, st_35, st_36, st_37, st_38, st_39, st_42, st_44, st_45, st_47, st_40, st_41, st_46, st_48, st_49, st_43, go_0, go_s, cut_0, cut_s, get_0, get_s, put_0, put_1, put_s, clr_0, clr_s, unl_i, unl_l, unl_r, unl_n, nth_0, nth_s, sf_0, sf_s, cnd_0, cnd_1, cnd_2, cnd_3, cnd_4, cnd_5, fit_0, fit_1, fit_2, en_0, en_i, en_l, en_r, kb_t, kb_f, kb_n, sw_0, sw_s, ↓reduceIte, Nat.reduceEqDiff, Nat.left_eq_add, Nat.add_eq_left, Nat.add_left_cancel_iff, Nat.reduceAdd, Int.reduceLT, Int.reduceLE, Int.reduceAdd, Int.reduceSub, Int.reduceNeg, Int.reduceMul, Int.reduceToNat, Int.reduceEq, reduceCtorEq, true_and, and_true, true_or, or_true, and_false, false_and, or_false, false_or, not_true_eq_false, not_false_eq_true, Nat.le_refl, and_self, Sum.inl.injEq, Sum.inr.injEq, Option.some.injEq, hS_2, k_isref, pd_0, pd_s, List.cons_append, List.nil_append, Option.toList_none, Option.toList_some, tX12_row, rX12_row, c40, c91, en1]
        refine ⟨⟨by omega, by omega⟩, ?_⟩
        refine p_go [] 40 ?_
        by_cases hn0 : n = 0
        · have e0 : ((n : Int) = 0) = True := eq_true (by omega)
          have hev := e_wrong (x := x) (d := 0) (w := 1) (p := rk) k1
          rw [k33, if_neg (by decide)] at hev
          simp only [st_0, st_1, st_2, st_3, st_4, st_5, st_6, st_7, st_8, st_9, st_10, st_11, st_12, st_13, st_14, st_15, st_16, st_17, st_18, st_19, st_20, st_21, st_22, st_23, st_24, st_25, st_26, st_27, st_28, st_29, st_30, st_31, st_32, st_33, st_34, st_34a, st_35, st_36, st_37, st_38, st_39, st_42, st_44, st_45, st_47, st_40, st_41, st_46, st_48, st_49, st_43, go_0, go_s, cut_0, cut_s, get_0, get_s, put_0, put_1, put_s, clr_0, clr_s, unl_i, unl_l, unl_r, unl_n, nth_0, nth_s, sf_0, sf_s, cnd_0, cnd_1, cnd_2, cnd_3, cnd_4, cnd_5, fit_0, fit_1, fit_2, en_0, en_i, en_l, en_r, kb_t, kb_f, kb_n, sw_0, sw_s, ↓reduceIte, Nat.reduceEqDiff, Nat.left_eq_add, Nat.add_eq_left, Nat.add_left_cancel_iff, Nat.reduceAdd, Int.reduceLT, Int.reduceLE, Int.reduceAdd, Int.reduceSub, Int.reduceNeg, Int.reduceMul, Int.reduceToNat, Int.reduceEq, reduceCtorEq, true_and, and_true, true_or, or_true, and_false, false_and, or_false, false_or, not_true_eq_false, not_false_eq_true, Nat.le_refl, and_self, Sum.inl.injEq, Sum.inr.injEq, Option.some.injEq, hS_2, k_isref, pd_0, pd_s, List.cons_append, List.nil_append, Option.toList_none, Option.toList_some, tX12_row, rX12_row, e0, k1, k32]
          refine cV (d' := 0) [vI 1, vI rk] [] l_12_192 k1 hev (by omega) (p_go [] 40 ?_)
          simp only [st_0, st_1, st_2, st_3, st_4, st_5, st_6, st_7, st_8, st_9, st_10, st_11, st_12, st_13, st_14, st_15, st_16, st_17, st_18, st_19, st_20, st_21, st_22, st_23, st_24, st_25, st_26, st_27, st_28, st_29, st_30, st_31, st_32, st_33, st_34, st_34a, st_35, st_36, st_37, st_38, st_39, st_42, st_44, st_45, st_47, st_40, st_41, st_46, st_48, st_49, st_43, go_0, go_s, cut_0, cut_s, get_0, get_s, put_0, put_1, put_s, clr_0, clr_s, unl_i, unl_l, unl_r, unl_n, nth_0, nth_s, sf_0, sf_s, cnd_0, cnd_1, cnd_2, cnd_3, cnd_4, cnd_5, fit_0, fit_1, fit_2, en_0, en_i, en_l, en_r, kb_t, kb_f, kb_n, sw_0, sw_s, ↓reduceIte, Nat.reduceEqDiff, Nat.left_eq_add, Nat.add_eq_left, Nat.add_left_cancel_iff, Nat.reduceAdd, Int.reduceLT, Int.reduceLE, Int.reduceAdd, Int.reduceSub, Int.reduceNeg, Int.reduceMul, Int.reduceToNat, Int.reduceEq, reduceCtorEq, true_and, and_true, true_or, or_true, and_false, false_and, or_false, false_or, not_true_eq_false, not_false_eq_true, Nat.le_refl, and_self, Sum.inl.injEq, Sum.inr.injEq, Option.some.injEq, hS_2, k_isref, pd_0, pd_s, List.cons_append, List.nil_append, Option.toList_none, Option.toList_some, tX12_row, rX12_row]
          refine ⟨rfl, Or.inl ⟨mS (mS t2 33 1) 34 rk, hP2.1.put (fun i j1 j2 => (mS_n (by omega)).trans (mS_n (by omega))), (show 0 ≤ t2 32 ∧ t2 32 ≤ s 9 by omega), (show (0 : Int) < 1 by decide), ?_⟩⟩
          rw [← hRk.1]
          exact prX_end hrk hst (hz hn0)
        · have e0 : ((n : Int) = 0) = False := eq_false (by omega)
          simp only [st_0, st_1, st_2, st_3, st_4, st_5, st_6, st_7, st_8, st_9, st_10, st_11, st_12, st_13, st_14, st_15, st_16, st_17, st_18, st_19, st_20, st_21, st_22, st_23, st_24, st_25, st_26, st_27, st_28, st_29, st_30, st_31, st_32, st_33, st_34, st_34a, st_35, st_36, st_37, st_38, st_39, st_42, st_44, st_45, st_47, st_40, st_41, st_46, st_48, st_49, st_43, go_0, go_s, cut_0, cut_s, get_0, get_s, put_0, put_1, put_s, clr_0, clr_s, unl_i, unl_l, unl_r, unl_n, nth_0, nth_s, sf_0, sf_s, cnd_0, cnd_1, cnd_2, cnd_3, cnd_4, cnd_5, fit_0, fit_1, fit_2, en_0, en_i, en_l, en_r, kb_t, kb_f, kb_n, sw_0, sw_s, ↓reduceIte, Nat.reduceEqDiff, Nat.left_eq_add, Nat.add_eq_left, Nat.add_left_cancel_iff, Nat.reduceAdd, Int.reduceLT, Int.reduceLE, Int.reduceAdd, Int.reduceSub, Int.reduceNeg, Int.reduceMul, Int.reduceToNat, Int.reduceEq, reduceCtorEq, true_and, and_true, true_or, or_true, and_false, false_and, or_false, false_or, not_true_eq_false, not_false_eq_true, Nat.le_refl, and_self, Sum.inl.injEq, Sum.inr.injEq, Option.some.injEq, hS_2, k_isref, pd_0, pd_s, List.cons_append, List.nil_append, Option.toList_none, Option.toList_some, tX12_row, rX12_row, e0]
          exact ⟨rfl, Or.inr ⟨t2, rk, S, pl, hP2, k34, hRk, hp (by omega), hst⟩⟩
/-- the contract of row, for so many points left -/
def RwC (x : Bool) (R E : LxT) (f : F_) (en : Nat) (h0 : PH) (s : F_) (n : Nat) : Prop := ∀ (h : PH) (t : F_) (rc : Nat) (S : PS) (pl : F_) (alt : Int), 8 - S.2.1.2 ≤ n → MP h0 h s t rc S pl → psI rc S → rc ≤ en → S.1.2 = 1 → alt = lpt S.2.1.2 S.2.2.2.1.2.2.1 S.1.1 → k_Ev x (2 * n + 3) 0 0 mX12_row [vR 57, vI S.1.1, vI alt] h (rowQ R E f en h0 s t rc S pl)
set_option maxRecDepth 100000 in
set_option maxHeartbeats 4000000 in
theorem e_row {n8 : Nat} (hM : MLx h0 s g R E) (hE : EnvI R E) (h9 : s 9 = en) (hen : en ≤ 400) (hfg : ∀ k, k < en → f k = g k % 256) (hgb : ∀ k, k < 400 → -128 ≤ g k ∧ g k ≤ 127) (hCh : ChC x R E f en h0 s n8) : RwC x R E f en h0 s n8 := by
  intro h t rc S pl alt hn hP hI hrc he ha
  refine k_enp 3 (Nat.le_of_ble_eq_true rfl) (p_go [5] 40 ?_)
  simp only [st_0, st_1, st_2, st_3, st_4, st_5, st_6, st_7, st_8, st_9, st_10, st_11, st_12, st_13, st_14, st_15, st_16, st_17, st_18, st_19, st_20, st_21, st_22, st_23, st_24, st_25, st_26, st_27, st_28, st_29, st_30, st_31, st_32, st_33, st_34, st_34a, st_35, st_36, st_37, st_38, st_39, st_42, st_44, st_45, st_47, st_40, st_41, st_46, st_48, st_49, st_43, go_0, go_s, cut_0, cut_s, get_0, get_s, put_0, put_1, put_s, clr_0, clr_s, unl_i, unl_l, unl_r, unl_n, nth_0, nth_s, sf_0, sf_s, cnd_0, cnd_1, cnd_2, cnd_3, cnd_4, cnd_5, fit_0, fit_1, fit_2, en_0, en_i, en_l, en_r, kb_t, kb_f, kb_n, sw_0, sw_s, ↓reduceIte, Nat.reduceEqDiff, Nat.left_eq_add, Nat.add_eq_left, Nat.add_left_cancel_iff, Nat.reduceAdd, Int.reduceLT, Int.reduceLE, Int.reduceAdd, Int.reduceSub, Int.reduceNeg, Int.reduceMul, Int.reduceToNat, Int.reduceEq, reduceCtorEq, true_and, and_true, true_or, or_true, and_false, false_and, or_false, false_or, not_true_eq_false, not_false_eq_true, Nat.le_refl, and_self, Sum.inl.injEq, Sum.inr.injEq, Option.some.injEq, hS_2, k_isref, pd_0, pd_s, List.cons_append, List.nil_append, Option.toList_none, Option.toList_some, tX12_row, rX12_row]
  exact w_row hM hE h9 hen hfg hgb hCh hn (Nat.le_refl _) he ha hI.1.2 (en - rc + 1) rc 0 S pl h t 0 (by omega) (by omega) (rwR.refl hI hrc) hP rfl (fun _ => he) (fun w => by omega)
end Mrow78
