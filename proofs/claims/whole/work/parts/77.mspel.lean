/-! the reference: parsing; a spelling -/
section Mspel77
variable {x : Bool} {d : Nat} {h h0 : PH} {s t : F_} {P : PO → PH → Prop} {R E : LxT} {f g : F_} {en : Nat}
theorem MF.rd {sd : F_} {m : Int} (hF : MF h0 h s t) : MF h0 (rdH h t sd m) s (mS t 21 m) := by
  obtain ⟨m1, m2, m3, ⟨a6, m4⟩, ⟨a7, m5⟩, ⟨a8, m6⟩, ⟨a9, m7⟩, ⟨a10, m8⟩, ⟨a11, m9⟩, ⟨a12, m10⟩, ⟨a13, m11⟩, ⟨a14, m12⟩, m13⟩ := hF
  exact ⟨m1, rdH_72, fun i i1 i2 => (mS_n i1).trans (m3 i i1 i2), ⟨sd, rdH_86⟩, ⟨a7, (rdH_n (by decide) (by decide)).trans m5⟩, ⟨a8, (rdH_n (by decide) (by decide)).trans m6⟩, ⟨a9, (rdH_n (by decide) (by decide)).trans m7⟩, ⟨a10, (rdH_n (by decide) (by decide)).trans m8⟩, ⟨a11, (rdH_n (by decide) (by decide)).trans m9⟩, ⟨a12, (rdH_n (by decide) (by decide)).trans m10⟩, ⟨a13, (rdH_n (by decide) (by decide)).trans m11⟩, ⟨a14, (rdH_n (by decide) (by decide)).trans m12⟩, fun z z1 z2 => (rdH_n (by omega) z1).trans (m13 z z1 z2)⟩
theorem bhd_alls : ∀ (j i : Nat), ∀ k, i ≤ k → k < bhd f j i → lt_ (f k)
  | 0, i, k, h1, h2 => by unfold bhd at h2; omega
  | j + 1, i, k, h1, h2 => by
    unfold bhd at h2
    split at h2
    · by_cases e : k = i
      · subst e; assumption
      · exact bhd_alls j (i + 1) k (by omega) h2
    · omega
theorem bhd_pos {rc : Nat} (hrc : rc < en) (hl : lt_ (f rc)) : rc < bhd f (en - rc) rc := by
  rw [show en - rc = (en - rc - 1) + 1 by omega]
  unfold bhd
  rw [if_pos hl]
  have := bhd_ge (f := f) (en - rc - 1) (rc + 1)
  omega
/-- what a spelling ends with -/
def spP (T : Int × PS) (h0 : PH) (s t : F_) (rc bh : Nat) (pl : F_) : PO → PH → Prop := fun o h' => o = rV ∧ ((T.1 ≠ 0 ∧ FQ h0 h' s (T.1, rc)) ∨ (T.1 = 0 ∧ ∃ t', MP h0 h' s t' bh T.2 pl ∧ t' 34 = t 34))
set_option maxRecDepth 100000 in
set_option maxHeartbeats 4000000 in
theorem e_spelling {alt : Int} {rc : Nat} {S : PS} {pl : F_} (hMP : MP h0 h s t rc S pl) (hM : MLx h0 s g R E) (hE : EnvI R E) (hI : psI rc S) (h9 : s 9 = en) (hen : en ≤ 400) (hfg : ∀ k, k < en → f k = g k % 256) (hgb : ∀ k, k < 400 → -128 ≤ g k ∧ g k ≤ 127) (hrc : rc < en) (hl : lt_ (f rc)) (halt : alt = lpt S.2.1.2 S.2.2.2.1.2.2.1 S.1.1) (hd : 2 ≤ d) :
    k_Ev x d 0 0 mX12_spelling [vR 57, vI S.1.1, vI alt] h (spP (tkSpell R E f rc (bhd f (en - rc) rc) S) h0 s t rc (bhd f (en - rc) rc) pl) := by
  obtain ⟨⟨o, e⟩, ⟨wc, pc⟩, ⟨wl, ws, wp, wq⟩, ⟨op, oq, pt, ob⟩, ⟨lf, sf⟩⟩ := S
  obtain ⟨hF, p1, p2, p3, p4, hW, hQ⟩ := hMP
  obtain ⟨i1, i2, i3, i4, i5, i6, i7, i8, i9⟩ := hI
  simp only at p2 p3 i1 i2 i3 i4 i5 i6 i7 i8 i9 halt ⊢
  have hb1 := bhd_pos hrc hl
  have hb2 := bhd_ge (f := f) (en - rc) rc
  have hba := bhd_alls (f := f) (en - rc) rc
  generalize hbh : bhd f (en - rc) rc = bh at hb1 hb2 hba
  have h1 := hF.2.1
  have t9 : t 9 = en := (hF.2.2.1 9 (by decide) (by decide)).trans h9
  have h77 : h.2 62 = some (.inl (1, 400, g)) := (hF.2.2.2.2.2.2.2.2.2.2.2.2 62 (by decide) (by decide)).trans hM.1
  have hF1 : MF h0 (hS h 57 (mO (mS t 32 bh))) s (mS t 32 bh) := hF.put (fun i j1 j2 => mS_n (by omega))
  have hW1 : MW (hS h 57 (mO (mS t 32 bh))) ((o, e), (wc, pc), (wl, ws, wp, wq), (op, oq, pt, ob), lf, sf) := hW.fr (fun z z1 z2 => hS_n (by omega))
  have hQ1 : MQp (hS h 57 (mO (mS t 32 bh))) ((o, e), (wc, pc), (wl, ws, wp, wq), (op, oq, pt, ob), lf, sf) pl := hQ.fr (fun z z1 z2 => hS_n (by omega))
  have k1 := hF1.2.1
  have q33 : mS t 32 bh 33 = 0 := p4
  have q34 : mS t 32 bh 34 = t 34 := rfl
  have q32 : mS t 32 bh 32 = (bh : Int) := rfl
  have q30 : mS t 32 bh 30 = (wc : Int) := p2
  have q31 : mS t 32 bh 31 = (pc : Int) := p3
  have hL := hF1.lx hM
  refine k_enp 3 (Nat.le_of_ble_eq_true rfl) (p_go [5] 40 ?_)
  simp only [st_0, st_1, st_2, st_3, st_4, st_5, st_6, st_7, st_8, st_9, st_10, st_11, st_12, st_13, st_14, st_15, st_16, st_17, st_18, st_19, st_20, st_21, st_22, st_23, st_24, st_25, st_26, st_27, st_28, st_29, st_30, st_31, st_32, st_33, st_34, st_34a, st_35, st_36, st_37, st_38, st_39, st_42, st_44, st_45, st_47, st_40, st_41, st_46, st_48, st_49, st_43, go_0, go_s, cut_0, cut_s, get_0, get_s, put_0, put_1, put_s, clr_0, clr_s, unl_i, unl_l, unl_r, unl_n, nth_0, nth_s, sf_0, sf_s, cnd_0, cnd_1, cnd_2, cnd_3, cnd_4, cnd_5, fit_0, fit_1, fit_2, en_0, en_i, en_l, en_r, kb_t, kb_f, kb_n, sw_0, sw_s, ↓reduceIte, Nat.reduceEqDiff, Nat.left_eq_add, Nat.add_eq_left, Nat.add_left_cancel_iff, Nat.reduceAdd, Int.reduceLT, Int.reduceLE, Int.reduceAdd, Int.reduceSub, Int.reduceNeg, Int.reduceMul, Int.reduceToNat, Int.reduceEq, reduceCtorEq, true_and, and_true, true_or, or_true, and_false, false_and, or_false, false_or, not_true_eq_false, not_false_eq_true, Nat.le_refl, and_self, Sum.inl.injEq, Sum.inr.injEq, Option.some.injEq, hS_2, k_isref, pd_0, pd_s, List.cons_append, List.nil_append, Option.toList_none, Option.toList_some, tX12_spelling, rX12_spelling, h1, p1]
  have hw := w_spL (x := x) (d := d) (h := h) (t := t) (P := spP (tkSpell R E f rc bh ((o, e), (wc, pc), (wl, ws, wp, wq), (op, oq, pt, ob), lf, sf)) h0 s t rc bh pl) (point := o) (alt := alt) (fr := rc) h77 t9 hen hfg (by omega) (b := bh) ?_ (en - rc) rc (by omega) hbh
  · rw [mS_id p1, hS_id h1] at hw
    exact hw
  -- behind the letters
  generalize hS h 57 (mO (mS t 32 bh)) = h2 at hF1 hW1 hQ1 k1 hL ⊢
  generalize mS t 32 bh = t2 at hF1 k1 q33 q34 q32 q30 q31 hL ⊢
  have flt : ∀ (w : Int) (h3 : PH) (t3 : F_), MF h0 h3 s t3 → t3 32 = bh → 0 < w → FQ h0 (hS h3 57 (mO (mS (mS t3 33 w) 34 rc))) s (w, rc) := by
    intro w h3 t3 hF3 h33 hw
    refine ⟨mS (mS t3 33 w) 34 rc, hF3.put (fun i j1 j2 => (mS_n (by omega)).trans (mS_n (by omega))), (show 0 ≤ t3 32 ∧ t3 32 ≤ s 9 by omega), ?_, rfl⟩
    show 0 < w
    exact hw
  have ends : ∀ (w : Int) (h3 : PH) (t3 : F_) (n : Int), MF h0 h3 s t3 → t3 33 = 0 → 0 < w → ∀ (Q : PO → PH → Prop), Q rV (hS h3 57 (mO (mS (mS t3 33 w) 34 rc))) → k_Wp x d 0 0 mX12_spelling Q 0 0 90 [some (vR 57), some (vI o), some (vI alt), some (vI rc), some (vI n), none] [] (hS h3 57 (mO (mS (mS t3 33 w) 34 rc))) := by
    intro w h3 t3 n hF3 h33 hw Q hQ'
    have j1 : (hS h3 57 (mO (mS (mS t3 33 w) 34 rc))).2 57 = some (mO (mS (mS t3 33 w) 34 rc)) := hS_s _ _ _
    have e33 : (mS (mS t3 33 w) 34 rc 33 ≤ 0) = False := eq_false (by show ¬ w ≤ 0; omega)
    generalize hS h3 57 (mO (mS (mS t3 33 w) 34 rc)) = h4 at j1 hQ' ⊢
    refine p_go [] 40 ?_
    simp only [st_0, st_1, st_2, st_3, st_4, st_5, st_6, st_7, st_8, st_9, st_10, st_11, st_12, st_13, st_14, st_15, st_16, st_17, st_18, st_19, st_20, st_21, st_22, st_23, st_24, st_25, st_26, st_27, st_28, st_29, st_30, st_31, st_32, st_33, st_34, st_34a, st_35, st_36, st_37, st_38, st_39, st_42, st_44, st_45, st_47, st_40, st_41, st_46, st_48, st_49, st_43, go_0, go_s, cut_0, cut_s, get_0, get_s, put_0, put_1, put_s, clr_0, clr_s, unl_i, unl_l, unl_r, unl_n, nth_0, nth_s, sf_0, sf_s, cnd_0, cnd_1, cnd_2, cnd_3, cnd_4, cnd_5, fit_0, fit_1, fit_2, en_0, en_i, en_l, en_r, kb_t, kb_f, kb_n, sw_0, sw_s, ↓reduceIte, Nat.reduceEqDiff, Nat.left_eq_add, Nat.add_eq_left, Nat.add_left_cancel_iff, Nat.reduceAdd, Int.reduceLT, Int.reduceLE, Int.reduceAdd, Int.reduceSub, Int.reduceNeg, Int.reduceMul, Int.reduceToNat, Int.reduceEq, reduceCtorEq, true_and, and_true, true_or, or_true, and_false, false_and, or_false, false_or, not_true_eq_false, not_false_eq_true, Nat.le_refl, and_self, Sum.inl.injEq, Sum.inr.injEq, Option.some.injEq, hS_2, k_isref, pd_0, pd_s, List.cons_append, List.nil_append, Option.toList_none, Option.toList_some, tX12_spelling, rX12_spelling, j1, e33]
    exact hQ'
  have en' : (bh : Int) - (rc : Int) = ((bh - rc : Nat) : Int) := by omega
  refine p_go [90] 40 ?_
  by_cases c10 : 10 < bh - rc
  · have g1 : ¬ ((bh - rc : Nat) : Int) ≤ 10 := by omega
    have hT : tkSpell R E f rc bh ((o, e), (wc, pc), (wl, ws, wp, wq), (op, oq, pt, ob), lf, sf) = (2, ((o, e), (wc, pc), (wl, ws, wp, wq), (op, oq, pt, ob), lf, sf)) := by
      unfold tkSpell
      simp only
      rw [if_pos c10]
    have hT := congrArg Prod.fst hT
    simp only at hT
    have hev := e_wrong (x := x) (d := 0) (w := 2) (p := rc) k1
    rw [q33, if_neg (by decide)] at hev
    simp only [st_0, st_1, st_2, st_3, st_4, st_5, st_6, st_7, st_8, st_9, st_10, st_11, st_12, st_13, st_14, st_15, st_16, st_17, st_18, st_19, st_20, st_21, st_22, st_23, st_24, st_25, st_26, st_27, st_28, st_29, st_30, st_31, st_32, st_33, st_34, st_34a, st_35, st_36, st_37, st_38, st_39, st_42, st_44, st_45, st_47, st_40, st_41, st_46, st_48, st_49, st_43, go_0, go_s, cut_0, cut_s, get_0, get_s, put_0, put_1, put_s, clr_0, clr_s, unl_i, unl_l, unl_r, unl_n, nth_0, nth_s, sf_0, sf_s, cnd_0, cnd_1, cnd_2, cnd_3, cnd_4, cnd_5, fit_0, fit_1, fit_2, en_0, en_i, en_l, en_r, kb_t, kb_f, kb_n, sw_0, sw_s, ↓reduceIte, Nat.reduceEqDiff, Nat.left_eq_add, Nat.add_eq_left, Nat.add_left_cancel_iff, Nat.reduceAdd, Int.reduceLT, Int.reduceLE, Int.reduceAdd, Int.reduceSub, Int.reduceNeg, Int.reduceMul, Int.reduceToNat, Int.reduceEq, reduceCtorEq, true_and, and_true, true_or, or_true, and_false, false_and, or_false, false_or, not_true_eq_false, not_false_eq_true, Nat.le_refl, and_self, Sum.inl.injEq, Sum.inr.injEq, Option.some.injEq, hS_2, k_isref, pd_0, pd_s, List.cons_append, List.nil_append, Option.toList_none, Option.toList_some, tX12_spelling, rX12_spelling, k1, q32, en', g1]
    refine ⟨⟨by omega, by omega⟩, ?_⟩
    refine cV (d' := 0) [vI 2, vI rc] [] l_12_192 k1 hev (by omega) (p_go [90] 40 ?_)
    simp only [st_0, st_1, st_2, st_3, st_4, st_5, st_6, st_7, st_8, st_9, st_10, st_11, st_12, st_13, st_14, st_15, st_16, st_17, st_18, st_19, st_20, st_21, st_22, st_23, st_24, st_25, st_26, st_27, st_28, st_29, st_30, st_31, st_32, st_33, st_34, st_34a, st_35, st_36, st_37, st_38, st_39, st_42, st_44, st_45, st_47, st_40, st_41, st_46, st_48, st_49, st_43, go_0, go_s, cut_0, cut_s, get_0, get_s, put_0, put_1, put_s, clr_0, clr_s, unl_i, unl_l, unl_r, unl_n, nth_0, nth_s, sf_0, sf_s, cnd_0, cnd_1, cnd_2, cnd_3, cnd_4, cnd_5, fit_0, fit_1, fit_2, en_0, en_i, en_l, en_r, kb_t, kb_f, kb_n, sw_0, sw_s, ↓reduceIte, Nat.reduceEqDiff, Nat.left_eq_add, Nat.add_eq_left, Nat.add_left_cancel_iff, Nat.reduceAdd, Int.reduceLT, Int.reduceLE, Int.reduceAdd, Int.reduceSub, Int.reduceNeg, Int.reduceMul, Int.reduceToNat, Int.reduceEq, reduceCtorEq, true_and, and_true, true_or, or_true, and_false, false_and, or_false, false_or, not_true_eq_false, not_false_eq_true, Nat.le_refl, and_self, Sum.inl.injEq, Sum.inr.injEq, Option.some.injEq, hS_2, k_isref, pd_0, pd_s, List.cons_append, List.nil_append, Option.toList_none, Option.toList_some, tX12_spelling, rX12_spelling]
    exact ends 2 h2 t2 _ hF1 q33 (by decide) _ ⟨rfl, Or.inl ⟨by rw [hT]; decide, by rw [hT]; exact flt 2 h2 t2 hF1 q32 (by decide)⟩⟩
  · have g1 : ((bh - rc : Nat) : Int) ≤ 10 := by omega
    have al : alls g rc (bh - rc) := fun i hi => by
      have h5 := hba (rc + i) (by omega) (by omega)
      rw [hfg (rc + i) (by omega)] at h5
      exact (lt_b (hgb (rc + i) (by omega))).mp h5
    have fe : ∀ i, i < bh - rc → f (rc + i) = g (rc + i) := fun i hi => by
      have h5 := al i hi
      have h6 := hgb (rc + i) (by omega)
      rw [hfg (rc + i) (by omega)]
      omega
    have hrd := rdE_ext (R := R) (E := E) (lf := lf) (sf := sf) fe
    have hev := e_reads' (x := x) (d := 1) (lf := lf) (sf := sf) k1 hL hE al (by omega) (by omega) (Nat.le_refl 1)
    rw [← hrd] at hev
    have hbb := rdE_b (f := f) (b := rc) (c := bh - rc) (lf := lf) (sf := sf) hE
    simp only [st_0, st_1, st_2, st_3, st_4, st_5, st_6, st_7, st_8, st_9, st_10, st_11, st_12, st_13, st_14, st_15, st_16, st_17, st_18, st_19, st_20, st_21, st_22, st_23, st_24, st_25, st_26, st_27, st_28, st_29, st_30, st_31, st_32, st_33, st_34, st_34a, st_35, st_36, st_37, st_38, st_39, st_42, st_44, st_45, st_47, st_40, st_41, st_46, st_48, st_49, st_43, go_0, go_s, cut_0, cut_s, get_0, get_s, put_0, put_1, put_s, clr_0, clr_s, unl_i, unl_l, unl_r, unl_n, nth_0, nth_s, sf_0, sf_s, cnd_0, cnd_1, cnd_2, cnd_3, cnd_4, cnd_5, fit_0, fit_1, fit_2, en_0, en_i, en_l, en_r, kb_t, kb_f, kb_n, sw_0, sw_s, ↓reduceIte, Nat.reduceEqDiff, Nat.left_eq_add, Nat.add_eq_left, Nat.add_left_cancel_iff, Nat.reduceAdd, Int.reduceLT, Int.reduceLE, Int.reduceAdd, Int.reduceSub, Int.reduceNeg, Int.reduceMul, Int.reduceToNat, Int.reduceEq, reduceCtorEq, true_and, and_true, true_or, or_true, and_false, false_and, or_false, false_or, not_true_eq_false, not_false_eq_true, Nat.le_refl, and_self, Sum.inl.injEq, Sum.inr.injEq, Option.some.injEq, hS_2, k_isref, pd_0, pd_s, List.cons_append, List.nil_append, Option.toList_none, Option.toList_some, tX12_spelling, rX12_spelling, k1, q32, en', g1]
    refine ⟨⟨by omega, by omega⟩, ?_⟩
    refine cVQ (d' := 1) [vI rc, vI ((bh - rc : Nat) : Int)] [] l_12_172 k1 hev (by omega) ?_ (fun E h' q => by obtain ⟨p, m, sd, q, _⟩ := q; cases q)
    intro r3 h3 ⟨p, m, sd, w1, w2, w3⟩
    cases w1
    have hF3 : MF h0 h3 s (mS t2 21 m) := by rw [w2]; exact hF1.rd
    have hz3 : ∀ z, z ≠ 57 → z ≠ 71 → h3.2 z = h2.2 z := fun z z1 z2 => by rw [w2]; exact rdH_n z2 z1
    have k3 := hF3.2.1
    have y86 : h3.2 71 = some (cI 40 sd) := by rw [w2]; exact rdH_86
    have y33 : mS t2 21 m 33 = 0 := q33
    have y30 : mS t2 21 m 30 = (wc : Int) := q30
    have y21 : mS t2 21 m 21 = m := rfl
    have y32 : mS t2 21 m 32 = (bh : Int) := q32
    have y31 : mS t2 21 m 31 = (pc : Int) := q31
    have y34 : mS t2 21 m 34 = t 34 := q34
    generalize mS t2 21 m = t3 at hF3 k3 y33 y30 y21 y32 y31 y34
    rcases w3 with ⟨w3, w4, w5, w6, w7⟩ | ⟨w3, w4⟩
    · subst w3
      obtain ⟨mn, em⟩ : ∃ mn : Nat, m = (mn : Int) := ⟨m.toNat, by omega⟩
      subst em
      by_cases c20 : wc = 20
      · have hT : (tkSpell R E f rc bh ((o, e), (wc, pc), (wl, ws, wp, wq), (op, oq, pt, ob), lf, sf)).1 = 4 := by
          unfold tkSpell
          simp only
          rw [if_neg c10, if_neg (by omega), if_pos c20]
        have hev2 := e_wrong (x := x) (d := 0) (w := 4) (p := rc) k3
        rw [y33, if_neg (by decide)] at hev2
        have e20 : (((wc : Nat) : Int) = 20) = True := eq_true (by omega)
        refine p_go [90] 40 ?_
        simp only [st_0, st_1, st_2, st_3, st_4, st_5, st_6, st_7, st_8, st_9, st_10, st_11, st_12, st_13, st_14, st_15, st_16, st_17, st_18, st_19, st_20, st_21, st_22, st_23, st_24, st_25, st_26, st_27, st_28, st_29, st_30, st_31, st_32, st_33, st_34, st_34a, st_35, st_36, st_37, st_38, st_39, st_42, st_44, st_45, st_47, st_40, st_41, st_46, st_48, st_49, st_43, go_0, go_s, cut_0, cut_s, get_0, get_s, put_0, put_1, put_s, clr_0, clr_s, unl_i, unl_l, unl_r, unl_n, nth_0, nth_s, sf_0, sf_s, cnd_0, cnd_1, cnd_2, cnd_3, cnd_4, cnd_5, fit_0, fit_1, fit_2, en_0, en_i, en_l, en_r, kb_t, kb_f, kb_n, sw_0, sw_s, ↓reduceIte, Nat.reduceEqDiff, Nat.left_eq_add, Nat.add_eq_left, Nat.add_left_cancel_iff, Nat.reduceAdd, Int.reduceLT, Int.reduceLE, Int.reduceAdd, Int.reduceSub, Int.reduceNeg, Int.reduceMul, Int.reduceToNat, Int.reduceEq, reduceCtorEq, true_and, and_true, true_or, or_true, and_false, false_and, or_false, false_or, not_true_eq_false, not_false_eq_true, Nat.le_refl, and_self, Sum.inl.injEq, Sum.inr.injEq, Option.some.injEq, hS_2, k_isref, pd_0, pd_s, List.cons_append, List.nil_append, Option.toList_none, Option.toList_some, tX12_spelling, rX12_spelling, k3, y30, e20]
        refine cV (d' := 0) [vI 4, vI rc] [] l_12_192 k3 hev2 (by omega) ?_
        refine ends 4 h3 t3 _ hF3 y33 (by decide) _ ?_
        exact ⟨rfl, Or.inl ⟨by rw [hT]; decide, by rw [hT]; exact flt 4 h3 t3 hF3 y32 (by decide)⟩⟩
      · have ej : jn 20 0 ((rdE R E f rc (bh - rc) lf sf).2.1 0) = mn := by
          rw [w6]
          unfold jn
          split <;> omega
        have hT : tkSpell R E f rc bh ((o, e), (wc, pc), (wl, ws, wp, wq), (op, oq, pt, ob), lf, sf) = (0, ((o, 0), (wc + 1, pc), (fS wl wc mn, va_cpy (rdE R E f rc (bh - rc) lf sf).2.2 ws (0 * 20) (wc * 20) mn, fS wp wc o, fS wq wc (lpt pc pt o)), (op, oq, pt, ob), (rdE R E f rc (bh - rc) lf sf).2)) := by
          unfold tkSpell
          simp only
          rw [if_neg c10, if_neg (by omega), if_neg c20, ej, Int.toNat_natCast]
        obtain ⟨ss, sm, sp, sa, m7, m8, m9, m10, mk⟩ := hW1
        simp only at mk
        have n87 := (hz3 72 (by decide) (by decide)).trans m7
        have n88 := (hz3 73 (by decide) (by decide)).trans m8
        have n89 := (hz3 74 (by decide) (by decide)).trans m9
        have n90 := (hz3 75 (by decide) (by decide)).trans m10
        have e20 : (((wc : Nat) : Int) = 20) = False := eq_false (by omega)
        refine p_go [101] 60 ?_
        simp only [st_0, st_1, st_2, st_3, st_4, st_5, st_6, st_7, st_8, st_9, st_10, st_11, st_12, st_13, st_14, st_15, st_16, st_17, st_18, st_19, st_20, st_21, st_22, st_23, st_24, st_25, st_26, st_27, st_28, st_29, st_30, st_31, st_32, st_33, st_34, st_34a, st_35, st_36, st_37, st_38, st_39, st_42, st_44, st_45, st_47, st_40, st_41, st_46, st_48, st_49, st_43, go_0, go_s, cut_0, cut_s, get_0, get_s, put_0, put_1, put_s, clr_0, clr_s, unl_i, unl_l, unl_r, unl_n, nth_0, nth_s, sf_0, sf_s, cnd_0, cnd_1, cnd_2, cnd_3, cnd_4, cnd_5, fit_0, fit_1, fit_2, en_0, en_i, en_l, en_r, kb_t, kb_f, kb_n, sw_0, sw_s, ↓reduceIte, Nat.reduceEqDiff, Nat.left_eq_add, Nat.add_eq_left, Nat.add_left_cancel_iff, Nat.reduceAdd, Int.reduceLT, Int.reduceLE, Int.reduceAdd, Int.reduceSub, Int.reduceNeg, Int.reduceMul, Int.reduceToNat, Int.reduceEq, reduceCtorEq, true_and, and_true, true_or, or_true, and_false, false_and, or_false, false_or, not_true_eq_false, not_false_eq_true, Nat.le_refl, and_self, Sum.inl.injEq, Sum.inr.injEq, Option.some.injEq, hS_2, k_isref, pd_0, pd_s, List.cons_append, List.nil_append, Option.toList_none, Option.toList_some, tX12_spelling, rX12_spelling, k3, y30, y33, e20]
        have hw := w_spS (x := x) (d := d) (h := h3) (t := t3) (P := spP (tkSpell R E f rc bh ((o, e), (wc, pc), (wl, ws, wp, wq), (op, oq, pt, ob), lf, sf)) h0 s t rc bh pl) (point := o) (alt := alt) (fr := rc) (n := ((bh - rc : Nat) : Int)) (wc := wc) (m := mn) (sd := sd) (ss := ss) k3 y86 y21 y30 (by omega) (by omega) ?_ mn 0 (by omega)
        · rw [cpy_0, hS_id n87] at hw
          exact hw
        have u1 := (hS_n (h := h3) (a := 72) (c := cI 400 (va_cpy sd ss 0 (20 * wc) mn)) (show 57 ≠ 72 by decide)).trans k3
        have uz : ∀ z, z ≠ 72 → (hS h3 72 (cI 400 (va_cpy sd ss 0 (20 * wc) mn))).2 z = h3.2 z := fun z hz => hS_n hz
        have u87 : (hS h3 72 (cI 400 (va_cpy sd ss 0 (20 * wc) mn))).2 72 = some (cI 400 (va_cpy sd ss 0 (20 * wc) mn)) := hS_s _ _ _
        have us : (hS h3 72 (cI 400 (va_cpy sd ss 0 (20 * wc) mn))).1 = h3.1 := rfl
        generalize hS h3 72 (cI 400 (va_cpy sd ss 0 (20 * wc) mn)) = h4 at u1 uz u87 us ⊢
        have v88 := (uz 73 (by decide)).trans n88
        have v89 := (uz 74 (by decide)).trans n89
        have v90 := (uz 75 (by decide)).trans n90
        have hfin : spP (tkSpell R E f rc bh ((o, e), (wc, pc), (wl, ws, wp, wq), (op, oq, pt, ob), lf, sf)) h0 s t rc bh pl rV (hS (hS (hS (hS h4 73 (cI 20 (fS sm wc mn))) 74 (cI 20 (fS sp wc o))) 75 (cI 20 (fS sa wc alt))) 57 (mO (mS t3 30 (wc + 1 : Nat)))) := by
          rw [hT]
          refine ⟨rfl, Or.inr ⟨rfl, mS t3 30 (wc + 1 : Nat), ⟨?_, y32, rfl, y31, y33, ?_, ?_⟩, y34⟩⟩
          · obtain ⟨m1, m2, m3, ⟨a6, m4⟩, ⟨a7, m5⟩, ⟨a8, m6⟩, ⟨a9, m7'⟩, ⟨a10, m8'⟩, ⟨a11, m9'⟩, ⟨a12, m10'⟩, ⟨a13, m11⟩, ⟨a14, m12⟩, m13⟩ := hF3
            refine ⟨us.trans m1, hS_s _ _ _, fun i j1 j2 => (mS_n (by omega)).trans (m3 i j1 j2), ⟨a6, ?_⟩, ⟨va_cpy sd ss 0 (20 * wc) mn, ?_⟩, ⟨fS sm wc mn, ?_⟩, ⟨fS sp wc o, ?_⟩, ⟨fS sa wc alt, ?_⟩, ⟨a11, ?_⟩, ⟨a12, ?_⟩, ⟨a13, ?_⟩, ⟨a14, ?_⟩, fun z z1 z2 => ?_⟩
            · (repeat (first | exact hS_s _ _ _ | refine (hS_n (by omega)).trans ?_)); exact (uz _ (by decide)).trans m4
            · (repeat (first | exact hS_s _ _ _ | refine (hS_n (by omega)).trans ?_)); exact u87
            · exact (hS_n (by decide)).trans ((hS_n (by decide)).trans ((hS_n (by decide)).trans (hS_s _ _ _)))
            · exact (hS_n (by decide)).trans ((hS_n (by decide)).trans (hS_s _ _ _))
            · exact (hS_n (by decide)).trans (hS_s _ _ _)
            · (repeat (first | exact hS_s _ _ _ | refine (hS_n (by omega)).trans ?_)); exact (uz _ (by decide)).trans m9'
            · (repeat (first | exact hS_s _ _ _ | refine (hS_n (by omega)).trans ?_)); exact (uz _ (by decide)).trans m10'
            · (repeat (first | exact hS_s _ _ _ | refine (hS_n (by omega)).trans ?_)); exact (uz _ (by decide)).trans m11
            · (repeat (first | exact hS_s _ _ _ | refine (hS_n (by omega)).trans ?_)); exact (uz _ (by decide)).trans m12
            · (repeat (first | exact hS_s _ _ _ | refine (hS_n (by omega)).trans ?_)); exact (uz _ (by omega)).trans (m13 z z1 z2)
          · refine ⟨va_cpy sd ss 0 (20 * wc) mn, fS sm wc mn, fS sp wc o, fS sa wc alt, ?_, ?_, ?_, ?_, fun k hk => ?_⟩
            · (repeat (first | exact hS_s _ _ _ | refine (hS_n (by omega)).trans ?_)); exact u87
            · exact (hS_n (by decide)).trans ((hS_n (by decide)).trans ((hS_n (by decide)).trans (hS_s _ _ _)))
            · exact (hS_n (by decide)).trans ((hS_n (by decide)).trans (hS_s _ _ _))
            · exact (hS_n (by decide)).trans (hS_s _ _ _)
            · simp only at hk ⊢
              by_cases ek : k = wc
              · subst ek
                refine ⟨by rw [fS_s, fS_s], fun i hi => ?_, by rw [fS_s, fS_s], by rw [fS_s, fS_s, halt]⟩
                rw [fS_s] at hi
                have h5 := w7 i hi
                unfold va_cpy
                rw [if_pos (by omega), if_pos (by omega), show 0 + (20 * k + i - 20 * k) = i by omega, show 0 * 20 + (k * 20 + i - k * 20) = i by omega]
                exact h5
              · obtain ⟨b1, b2, b3, b4⟩ := mk k (by omega)
                have hwk := i5.1 k (by omega)
                refine ⟨by rw [fS_n ek, fS_n ek, b1], fun i hi => ?_, by rw [fS_n ek, fS_n ek, b3], by rw [fS_n ek, fS_n ek, b4]⟩
                rw [fS_n ek] at hi
                unfold va_cpy
                rw [if_neg (by omega), if_neg (by omega)]
                exact b2 i hi
          · obtain ⟨m0, pp, pa, pm, n1, n2, n3, n4⟩ := hQ1
            refine ⟨?_, pp, pa, pm, ?_, ?_, ?_, n4⟩
            · (repeat (first | exact hS_s _ _ _ | refine (hS_n (by omega)).trans ?_)); exact (uz _ (by decide)).trans ((hz3 _ (by decide) (by decide)).trans m0)
            · (repeat (first | exact hS_s _ _ _ | refine (hS_n (by omega)).trans ?_)); exact (uz _ (by decide)).trans ((hz3 _ (by decide) (by decide)).trans n1)
            · (repeat (first | exact hS_s _ _ _ | refine (hS_n (by omega)).trans ?_)); exact (uz _ (by decide)).trans ((hz3 _ (by decide) (by decide)).trans n2)
            · (repeat (first | exact hS_s _ _ _ | refine (hS_n (by omega)).trans ?_)); exact (uz _ (by decide)).trans ((hz3 _ (by decide) (by decide)).trans n3)
        refine p_go [] 60 ?_
        have e30 : (t3 30).toNat = wc := by omega
        have e31 : mO (mS t3 30 ((wc + 1 : Nat) : Int)) = mO (mS t3 30 (t3 30 + 1)) := by rw [y30, nat1]
        rw [e31, ← y21] at hfin
        simp only [st_0, st_1, st_2, st_3, st_4, st_5, st_6, st_7, st_8, st_9, st_10, st_11, st_12, st_13, st_14, st_15, st_16, st_17, st_18, st_19, st_20, st_21, st_22, st_23, st_24, st_25, st_26, st_27, st_28, st_29, st_30, st_31, st_32, st_33, st_34, st_34a, st_35, st_36, st_37, st_38, st_39, st_42, st_44, st_45, st_47, st_40, st_41, st_46, st_48, st_49, st_43, go_0, go_s, cut_0, cut_s, get_0, get_s, put_0, put_1, put_s, clr_0, clr_s, unl_i, unl_l, unl_r, unl_n, nth_0, nth_s, sf_0, sf_s, cnd_0, cnd_1, cnd_2, cnd_3, cnd_4, cnd_5, fit_0, fit_1, fit_2, en_0, en_i, en_l, en_r, kb_t, kb_f, kb_n, sw_0, sw_s, ↓reduceIte, Nat.reduceEqDiff, Nat.left_eq_add, Nat.add_eq_left, Nat.add_left_cancel_iff, Nat.reduceAdd, Int.reduceLT, Int.reduceLE, Int.reduceAdd, Int.reduceSub, Int.reduceNeg, Int.reduceMul, Int.reduceToNat, Int.reduceEq, reduceCtorEq, true_and, and_true, true_or, or_true, and_false, false_and, or_false, false_or, not_true_eq_false, not_false_eq_true, Nat.le_refl, and_self, Sum.inl.injEq, Sum.inr.injEq, Option.some.injEq, hS_2, k_isref, pd_0, pd_s, List.cons_append, List.nil_append, Option.toList_none, Option.toList_some, tX12_spelling, rX12_spelling, u1, v88, v89, v90, e30]
        (repeat (first | exact hfin | refine ⟨⟨by omega, by omega⟩, ?_⟩ | refine And.intro (by omega) ?_))
    · have hT : (tkSpell R E f rc bh ((o, e), (wc, pc), (wl, ws, wp, wq), (op, oq, pt, ob), lf, sf)).1 = 3 := by
        unfold tkSpell
        simp only
        rw [if_neg c10, if_pos (by omega)]
      have hev2 := e_wrong (x := x) (d := 0) (w := 3) (p := rc) k3
      rw [y33, if_neg (by decide)] at hev2
      have e20 : (p < 0) = False := eq_false (by omega)
      refine p_go [90] 40 ?_
      simp only [st_0, st_1, st_2, st_3, st_4, st_5, st_6, st_7, st_8, st_9, st_10, st_11, st_12, st_13, st_14, st_15, st_16, st_17, st_18, st_19, st_20, st_21, st_22, st_23, st_24, st_25, st_26, st_27, st_28, st_29, st_30, st_31, st_32, st_33, st_34, st_34a, st_35, st_36, st_37, st_38, st_39, st_42, st_44, st_45, st_47, st_40, st_41, st_46, st_48, st_49, st_43, go_0, go_s, cut_0, cut_s, get_0, get_s, put_0, put_1, put_s, clr_0, clr_s, unl_i, unl_l, unl_r, unl_n, nth_0, nth_s, sf_0, sf_s, cnd_0, cnd_1, cnd_2, cnd_3, cnd_4, cnd_5, fit_0, fit_1, fit_2, en_0, en_i, en_l, en_r, kb_t, kb_f, kb_n, sw_0, sw_s, ↓reduceIte, Nat.reduceEqDiff, Nat.left_eq_add, Nat.add_eq_left, Nat.add_left_cancel_iff, Nat.reduceAdd, Int.reduceLT, Int.reduceLE, Int.reduceAdd, Int.reduceSub, Int.reduceNeg, Int.reduceMul, Int.reduceToNat, Int.reduceEq, reduceCtorEq, true_and, and_true, true_or, or_true, and_false, false_and, or_false, false_or, not_true_eq_false, not_false_eq_true, Nat.le_refl, and_self, Sum.inl.injEq, Sum.inr.injEq, Option.some.injEq, hS_2, k_isref, pd_0, pd_s, List.cons_append, List.nil_append, Option.toList_none, Option.toList_some, tX12_spelling, rX12_spelling, e20]
      refine cV (d' := 0) [vI 3, vI rc] [] l_12_192 k3 hev2 (by omega) (p_go [90] 40 ?_)
      simp only [st_0, st_1, st_2, st_3, st_4, st_5, st_6, st_7, st_8, st_9, st_10, st_11, st_12, st_13, st_14, st_15, st_16, st_17, st_18, st_19, st_20, st_21, st_22, st_23, st_24, st_25, st_26, st_27, st_28, st_29, st_30, st_31, st_32, st_33, st_34, st_34a, st_35, st_36, st_37, st_38, st_39, st_42, st_44, st_45, st_47, st_40, st_41, st_46, st_48, st_49, st_43, go_0, go_s, cut_0, cut_s, get_0, get_s, put_0, put_1, put_s, clr_0, clr_s, unl_i, unl_l, unl_r, unl_n, nth_0, nth_s, sf_0, sf_s, cnd_0, cnd_1, cnd_2, cnd_3, cnd_4, cnd_5, fit_0, fit_1, fit_2, en_0, en_i, en_l, en_r, kb_t, kb_f, kb_n, sw_0, sw_s, ↓reduceIte, Nat.reduceEqDiff, Nat.left_eq_add, Nat.add_eq_left, Nat.add_left_cancel_iff, Nat.reduceAdd, Int.reduceLT, Int.reduceLE, Int.reduceAdd, Int.reduceSub, Int.reduceNeg, Int.reduceMul, Int.reduceToNat, Int.reduceEq, reduceCtorEq, true_and, and_true, true_or, or_true, and_false, false_and, or_false, false_or, not_true_eq_false, not_false_eq_true, Nat.le_refl, and_self, Sum.inl.injEq, Sum.inr.injEq, Option.some.injEq, hS_2, k_isref, pd_0, pd_s, List.cons_append, List.nil_append, Option.toList_none, Option.toList_some, tX12_spelling, rX12_spelling]
      exact ends 3 h3 t3 _ hF3 y33 (by decide) _ ⟨rfl, Or.inl ⟨by rw [hT]; decide, by rw [hT]; exact flt 3 h3 t3 hF3 y32 (by decide)⟩⟩
end Mspel77
