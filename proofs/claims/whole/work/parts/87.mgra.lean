/-! the reference: grammar -/
section Mgra87
variable {x : Bool} {d : Nat} {h h0 : PH} {s t : F_} {P : PO → PH → Prop} {R E : LxT} {f g : F_}
theorem MF.up {a : Nat} {c : PC} (ha : 79 < a) (hF : MF h0 h s t) : MF (hS h0 a c) (hS h a c) s t := by
  obtain ⟨m1, m2, m3, ⟨a6, m4⟩, ⟨a7, m5⟩, ⟨a8, m6⟩, ⟨a9, m7⟩, ⟨a10, m8⟩, ⟨a11, m9⟩, ⟨a12, m10⟩, ⟨a13, m11⟩, ⟨a14, m12⟩, m13⟩ := hF
  refine ⟨m1, (hS_n (by omega)).trans m2, m3, ⟨a6, (hS_n (by omega)).trans m4⟩, ⟨a7, (hS_n (by omega)).trans m5⟩, ⟨a8, (hS_n (by omega)).trans m6⟩, ⟨a9, (hS_n (by omega)).trans m7⟩, ⟨a10, (hS_n (by omega)).trans m8⟩, ⟨a11, (hS_n (by omega)).trans m9⟩, ⟨a12, (hS_n (by omega)).trans m10⟩, ⟨a13, (hS_n (by omega)).trans m11⟩, ⟨a14, (hS_n (by omega)).trans m12⟩, fun z z1 z2 => ?_⟩
  by_cases e : z = a
  · subst e
    exact (hS_s _ _ _).trans (hS_s _ _ _).symm
  · exact (hS_n e).trans ((m13 z z1 z2).trans (hS_n e).symm)
/-- a grammar begins -/
abbrev gt0 (s : F_) (z : Int) : F_ := mS (mS (mS (mS (mS (mS (mS (mS s 0 0) 9 z) 8 0) 30 0) 31 0) 32 0) 33 0) 34 (-1)
/-- its arrays are there -/
def gAr (h : PH) : Prop := (∃ a, h.2 71 = some (cI 40 a)) ∧ (∃ a, h.2 72 = some (cI 400 a)) ∧ (∃ a, h.2 73 = some (cI 20 a)) ∧ (∃ a, h.2 74 = some (cI 20 a)) ∧ (∃ a, h.2 75 = some (cI 20 a)) ∧ (∃ a, h.2 76 = some (cI 8 a)) ∧ (∃ a, h.2 77 = some (cI 8 a)) ∧ (∃ a, h.2 78 = some (cI 8 a)) ∧ (∃ a, h.2 79 = some (.inl (2, 8, a)))
theorem gAr.MF (hA : gAr h) (h1 : h.2 57 = some (mO t)) : MF h h t t := by
  obtain ⟨m4, m5, m6, m7, m8, m9, m10, m11, m12⟩ := hA
  exact ⟨rfl, h1, fun i i1 i2 => rfl, m4, m5, m6, m7, m8, m9, m10, m11, m12, fun z z1 z2 => rfl⟩
theorem gAr.put (hA : gAr h) : gAr (hS h 57 (mO t)) := by
  obtain ⟨⟨a1, m1⟩, ⟨a2, m2⟩, ⟨a3, m3⟩, ⟨a4, m4⟩, ⟨a5, m5⟩, ⟨a6, m6⟩, ⟨a7, m7⟩, ⟨a8, m8⟩, ⟨a9, m9⟩⟩ := hA
  exact ⟨⟨a1, (hS_n (by decide)).trans m1⟩, ⟨a2, (hS_n (by decide)).trans m2⟩, ⟨a3, (hS_n (by decide)).trans m3⟩, ⟨a4, (hS_n (by decide)).trans m4⟩, ⟨a5, (hS_n (by decide)).trans m5⟩, ⟨a6, (hS_n (by decide)).trans m6⟩, ⟨a7, (hS_n (by decide)).trans m7⟩, ⟨a8, (hS_n (by decide)).trans m8⟩, ⟨a9, (hS_n (by decide)).trans m9⟩⟩
theorem prX_top {en rc : Nat} {S : PS} (hrc : rc < en) (hs : stp_ f en rc) (ho : S.1.1 = -1) : prX (PX R E f en rc S) = (1, (rc : Int)) := by
  obtain ⟨h1, h2, h3, h4⟩ := hs hrc
  have hb : bhd f (en - rc) rc = rc := bhd_no h1
  obtain ⟨⟨o, e⟩, ⟨wc, pc⟩, ⟨wl, ws, wp, wq⟩, ⟨op, oq, pt, ob⟩, ⟨lf, sf⟩⟩ := S
  simp only at ho
  subst ho
  have ht : (prT R E f en rc ((-1, e), (wc, pc), (wl, ws, wp, wq), (op, oq, pt, ob), lf, sf)).1 = 1 := by
    unfold prT
    rw [hb, if_neg (by omega)]
    unfold tkSign
    rw [if_neg h2, if_neg h3, if_neg h4]
    by_cases c1 : f rc = 124
    · rw [if_pos c1]; unfold tkBar; simp only; rw [if_pos (Or.inl trivial)]
    · rw [if_neg c1]
      by_cases c2 : f rc = 41
      · rw [if_pos c2]; unfold tkClose; simp only; rw [if_pos (Or.inl trivial)]
      · rw [if_neg c2]
        by_cases c3 : f rc = 93
        · rw [if_pos c3]; unfold tkClose; simp only; rw [if_pos (Or.inl trivial)]
        · rw [if_neg c3]
  rw [PX_err hrc (by rw [ht]; decide)]
  unfold prX
  simp only
  rw [ht, if_pos (by decide)]
theorem MF.put2 {u v : F_} (hF : MF h0 h s t) (hu : ∀ i, i ≠ 21 → (i < 30 ∨ 34 < i) → t i = s i → u i = v i) : MF h0 (hS h 57 (mO u)) v u := by
  obtain ⟨m1, m2, m3, ⟨a6, m4⟩, ⟨a7, m5⟩, ⟨a8, m6⟩, ⟨a9, m7⟩, ⟨a10, m8⟩, ⟨a11, m9⟩, ⟨a12, m10⟩, ⟨a13, m11⟩, ⟨a14, m12⟩, m13⟩ := hF
  exact ⟨m1, hS_s _ _ _, fun i i1 i2 => hu i i1 i2 (m3 i i1 i2), ⟨a6, (hS_n (by decide)).trans m4⟩, ⟨a7, (hS_n (by decide)).trans m5⟩, ⟨a8, (hS_n (by decide)).trans m6⟩, ⟨a9, (hS_n (by decide)).trans m7⟩, ⟨a10, (hS_n (by decide)).trans m8⟩, ⟨a11, (hS_n (by decide)).trans m9⟩, ⟨a12, (hS_n (by decide)).trans m10⟩, ⟨a13, (hS_n (by decide)).trans m11⟩, ⟨a14, (hS_n (by decide)).trans m12⟩, fun z z1 z2 => (hS_n z1).trans (m13 z z1 z2)⟩
theorem mS_cong {a b : F_} {i j : Nat} {v : Int} (h : a j = b j) : mS a i v j = mS b i v j := by
  unfold mS
  split
  · rfl
  · exact h
set_option maxRecDepth 100000 in
set_option maxHeartbeats 4000000 in
theorem e_mgrammar {z : Int} {np0 pi0 : F_} {wl ws wp wq op oq pt ob lf sf nw pk cl cs pk0 sd0 sm0 : F_} (h1 : h.2 57 = some (mO s)) (hM : MLx h s g R E) (hA : gAr h) (h95 : h.2 80 = some (cI 960 pk0)) (h96 : h.2 81 = some (cI 4800 sd0)) (h97 : h.2 82 = some (cI 120 sm0)) (h98 : h.2 83 = some (cI 960 np0)) (h99 : h.2 84 = some (cI 8 pi0)) (hE : EnvI R E) (hgb : ∀ k, k < 400 → -128 ≤ g k ∧ g k ≤ 127) (hfg : ∀ k : Nat, (k : Int) < s 8 → f k = g k % 256) (h8 : s 8 ≤ 400) (hW : RwW 20 20 wl) (hl : 0 ≤ lf 0 ∧ lf 0 ≤ 20) (hd : 21 ≤ d)
    (c0 : ¬ (0 ≤ z ∧ z ≤ s 8) → P (rI 0) (hS h 57 (mO (mS s 0 1))))
    (c1 : 0 ≤ z ∧ z ≤ s 8 → ∀ h' t', MF (hS h 57 (mO (gt0 s z))) h' (gt0 s z) t' → 0 < t' 33 → prX (PX R E f z.toNat 0 ((-1, 1), (0, 0), (wl, ws, wp, wq), (op, oq, pt, ob), (lf, sf))) = (t' 33, t' 34) → P (rI (t' 33 - 10)) h')
    (c5 : 0 ≤ z ∧ z ≤ s 8 → ∀ S', PX R E f z.toNat 0 ((-1, 1), (0, 0), (wl, ws, wp, wq), (op, oq, pt, ob), (lf, sf)) = (0, z.toNat, S') → S'.1 = (-1, 0) → ∀ e : Int, (e = 5 ∨ e = 6) → (mkS S' nw pk cl cs).1.1 = e → ∀ h' t' np pi, MF (lsH (hS h 57 (mO (gt0 s z))) np pi) h' (gt0 s z) t' → t' 34 = z → P (rI (e - 10)) h')
    (c7 : 0 ≤ z ∧ z ≤ s 8 → ∀ S', PX R E f z.toNat 0 ((-1, 1), (0, 0), (wl, ws, wp, wq), (op, oq, pt, ob), (lf, sf)) = (0, z.toNat, S') → S'.1 = (-1, 0) → (mkS S' nw pk cl cs).1.1 = 0 → ∀ h' t' np pi pk' sd sm pi2, MF (lsH (hS h 57 (mO (gt0 s z))) np pi) h' (mS (mS (mS (gt0 s z) 35 (mkS S' nw pk cl cs).1.2) 36 S'.2.1.2) 45 (-1)) t' → t' 34 = -1 → gnI S'.2.1.2 (mkS S' nw pk cl cs).1.2 (mkS S' nw pk cl cs).2.2.2.1 (mkS S' nw pk cl cs).2.2.2.2 (mkS S' nw pk cl cs).2.2.1 pk' sd sm → P (rI (mkS S' nw pk cl cs).1.2) (gnH h' pk' sd sm pi2)) :
    k_Ev x d 0 0 mX12_grammar [vR 57, vI z] h P := by
  refine k_enp 3 (Nat.le_of_ble_eq_true rfl) (p_go [] 40 ?_)
  simp only [st_0, st_1, st_2, st_3, st_4, st_5, st_6, st_7, st_8, st_9, st_10, st_11, st_12, st_13, st_14, st_15, st_16, st_17, st_18, st_19, st_20, st_21, st_22, st_23, st_24, st_25, st_26, st_27, st_28, st_29, st_30, st_31, st_32, st_33, st_34, st_34a, st_35, st_36, st_37, st_38, st_39, st_42, st_44, st_45, st_47, st_40, st_41, st_46, st_48, st_49, st_43, go_0, go_s, cut_0, cut_s, get_0, get_s, put_0, put_1, put_s, clr_0, clr_s, unl_i, unl_l, unl_r, unl_n, nth_0, nth_s, sf_0, sf_s, cnd_0, cnd_1, cnd_2, cnd_3, cnd_4, cnd_5, fit_0, fit_1, fit_2, en_0, en_i, en_l, en_r, kb_t, kb_f, kb_n, sw_0, sw_s, ↓reduceIte, Nat.reduceEqDiff, Nat.left_eq_add, Nat.add_eq_left, Nat.add_left_cancel_iff, Nat.reduceAdd, Int.reduceLT, Int.reduceLE, Int.reduceAdd, Int.reduceSub, Int.reduceNeg, Int.reduceMul, Int.reduceToNat, Int.reduceEq, reduceCtorEq, true_and, and_true, true_or, or_true, and_false, false_and, or_false, false_or, not_true_eq_false, not_false_eq_true, Nat.le_refl, and_self, Sum.inl.injEq, Sum.inr.injEq, Option.some.injEq, hS_2, k_isref, pd_0, pd_s, List.cons_append, List.nil_append, Option.toList_none, Option.toList_some, tX12_grammar, rX12_grammar, h1]
  have k1 : (hS h 57 (mO (mS s 0 0))).2 57 = some (mO (mS s 0 0)) := hS_s _ _ _
  refine cVQ (d' := 1) (P' := fun o h' => (¬ (0 ≤ z ∧ z ≤ s 8) ∧ o = rI 0 ∧ h' = hS h 57 (mO (mS s 0 1))) ∨ ((0 ≤ z ∧ z ≤ s 8) ∧ o = rI 1 ∧ h' = hS h 57 (mO (mS (mS (mS s 0 0) 9 z) 8 0)))) [vI z] [] l_12_153 k1 (e_takes k1 (Nat.le_refl 1) (fun c => Or.inl ⟨c, rfl, by rw [hS_hS, if_pos mS_s, mS_mS]⟩) (fun c => Or.inr ⟨c, rfl, by rw [hS_hS]⟩)) (by omega) ?_ (fun E h' q => by rcases q with ⟨_, q, _⟩ | ⟨_, q, _⟩ <;> cases q)
  intro r1 h4 q
  rcases q with ⟨q1, q2, q3⟩ | ⟨q1, q2, q3⟩
  · cases q2
    subst q3
    refine p_go [] 40 ?_
    simp only [st_0, st_1, st_2, st_3, st_4, st_5, st_6, st_7, st_8, st_9, st_10, st_11, st_12, st_13, st_14, st_15, st_16, st_17, st_18, st_19, st_20, st_21, st_22, st_23, st_24, st_25, st_26, st_27, st_28, st_29, st_30, st_31, st_32, st_33, st_34, st_34a, st_35, st_36, st_37, st_38, st_39, st_42, st_44, st_45, st_47, st_40, st_41, st_46, st_48, st_49, st_43, go_0, go_s, cut_0, cut_s, get_0, get_s, put_0, put_1, put_s, clr_0, clr_s, unl_i, unl_l, unl_r, unl_n, nth_0, nth_s, sf_0, sf_s, cnd_0, cnd_1, cnd_2, cnd_3, cnd_4, cnd_5, fit_0, fit_1, fit_2, en_0, en_i, en_l, en_r, kb_t, kb_f, kb_n, sw_0, sw_s, ↓reduceIte, Nat.reduceEqDiff, Nat.left_eq_add, Nat.add_eq_left, Nat.add_left_cancel_iff, Nat.reduceAdd, Int.reduceLT, Int.reduceLE, Int.reduceAdd, Int.reduceSub, Int.reduceNeg, Int.reduceMul, Int.reduceToNat, Int.reduceEq, reduceCtorEq, true_and, and_true, true_or, or_true, and_false, false_and, or_false, false_or, not_true_eq_false, not_false_eq_true, Nat.le_refl, and_self, Sum.inl.injEq, Sum.inr.injEq, Option.some.injEq, hS_2, k_isref, pd_0, pd_s, List.cons_append, List.nil_append, Option.toList_none, Option.toList_some, tX12_grammar, rX12_grammar]
    exact c0 q1
  · cases q2
    obtain ⟨en, hen⟩ : ∃ n : Nat, z = (n : Int) := ⟨z.toNat, by omega⟩
    subst hen
    simp only [Int.toNat_natCast] at c1 c5 c7
    have c1' := c1 q1
    have c5' := c5 q1
    have c7' := c7 q1
    clear c1 c5 c7 c0
    have u1 : h4.2 57 = some (mO (mS (mS (mS s 0 0) 9 en) 8 0)) := by rw [q3]; exact hS_s _ _ _
    have uH : hS h4 57 (mO (gt0 s en)) = hS h 57 (mO (gt0 s en)) := by rw [q3, hS_hS]
    refine p_go [] 40 ?_
    simp only [st_0, st_1, st_2, st_3, st_4, st_5, st_6, st_7, st_8, st_9, st_10, st_11, st_12, st_13, st_14, st_15, st_16, st_17, st_18, st_19, st_20, st_21, st_22, st_23, st_24, st_25, st_26, st_27, st_28, st_29, st_30, st_31, st_32, st_33, st_34, st_34a, st_35, st_36, st_37, st_38, st_39, st_42, st_44, st_45, st_47, st_40, st_41, st_46, st_48, st_49, st_43, go_0, go_s, cut_0, cut_s, get_0, get_s, put_0, put_1, put_s, clr_0, clr_s, unl_i, unl_l, unl_r, unl_n, nth_0, nth_s, sf_0, sf_s, cnd_0, cnd_1, cnd_2, cnd_3, cnd_4, cnd_5, fit_0, fit_1, fit_2, en_0, en_i, en_l, en_r, kb_t, kb_f, kb_n, sw_0, sw_s, ↓reduceIte, Nat.reduceEqDiff, Nat.left_eq_add, Nat.add_eq_left, Nat.add_left_cancel_iff, Nat.reduceAdd, Int.reduceLT, Int.reduceLE, Int.reduceAdd, Int.reduceSub, Int.reduceNeg, Int.reduceMul, Int.reduceToNat, Int.reduceEq, reduceCtorEq, true_and, and_true, true_or, or_true, and_false, false_and, or_false, false_or, not_true_eq_false, not_false_eq_true, Nat.le_refl, and_self, Sum.inl.injEq, Sum.inr.injEq, Option.some.injEq, hS_2, k_isref, pd_0, pd_s, List.cons_append, List.nil_append, Option.toList_none, Option.toList_some, tX12_grammar, rX12_grammar, u1, hS_hS]
    change k_Wp x d 0 0 mX12_grammar P 0 0 43 [some (vR 57), some (vI en), none, none, none] [vI 0, vI (-1), vR 57] (hS h4 57 (mO (gt0 s en)))
    rw [uH]
    have uA : gAr (hS h 57 (mO (gt0 s en))) := hA.put
    have v1 : (hS h 57 (mO (gt0 s en))).2 57 = some (mO (gt0 s en)) := hS_s _ _ _
    have uz : ∀ z, z ≠ 57 → (hS h 57 (mO (gt0 s en))).2 z = h.2 z := fun z hz => hS_n hz
    have uM : MLx (hS h 57 (mO (gt0 s en))) (gt0 s en) g R E := hM.fr (fun z z1 z2 => uz z (by omega)) rfl rfl
    have t9 : gt0 s en 9 = (en : Int) := rfl
    have t30 : gt0 s en 30 = 0 := rfl
    have t31 : gt0 s en 31 = 0 := rfl
    have t32 : gt0 s en 32 = 0 := rfl
    have t33 : gt0 s en 33 = 0 := rfl
    have t34 : gt0 s en 34 = -1 := rfl
    have w98 := (uz 83 (by decide)).trans h98
    have w99 := (uz 84 (by decide)).trans h99
    have w95 := (uz 80 (by decide)).trans h95
    have w96 := (uz 81 (by decide)).trans h96
    have w97 := (uz 82 (by decide)).trans h97
    generalize hS h 57 (mO (gt0 s en)) = hb at uA v1 uM w98 w99 w95 w96 w97 c1' c5' c7' ⊢
    generalize gt0 s en = tb at v1 uM t9 t30 t31 t32 t33 t34 c1' c5' c7'
    have hF := uA.MF v1
    have hI0 : psI 0 ((-1, 1), (0, 0), (wl, ws, wp, wq), (op, oq, pt, ob), (lf, sf)) := by
      refine ⟨⟨?_, ?_⟩, Or.inr rfl, ?_, ?_, hW, hl, fun k hk => ?_, fun k hk => ?_, fun k hk => ?_⟩
      all_goals simp only at *
      all_goals omega
    obtain ⟨⟨b6, e6⟩, ⟨b7, e7⟩, ⟨b8, e8⟩, ⟨b9, e9⟩, ⟨b10, e10⟩, ⟨b11, e11⟩, ⟨b12, e12⟩, ⟨b13, e13⟩, ⟨b14, e14⟩⟩ := uA
    have hMP : MP hb hb tb tb 0 ((-1, 1), (0, 0), (wl, ws, wp, wq), (op, oq, pt, ob), (lf, sf)) b13 := ⟨hF, t32, t30, t31, t33, ⟨b7, b8, b9, b10, e7, e8, e9, e10, fun k hk => by simp only at hk; omega⟩, e13, b11, b12, b14, e11, e12, e14, fun k hk => by simp only at hk; omega⟩
    have hev := rowAll (x := x) uM hE t9 (by omega) (fun k hk => hfg k (by omega)) hgb 8 hb tb 0 ((-1, 1), (0, 0), (wl, ws, wp, wq), (op, oq, pt, ob), (lf, sf)) b13 0 (by simp only; omega) hMP hI0 (by omega) rfl rfl
    refine cVQ (d' := 19) [vI (-1), vI 0] [] l_12_201 v1 hev (by omega) ?_ (fun E h' q => by cases q.1)
    intro rr h5 ⟨w1, w2⟩
    cases w1
    -- a fault is told
    have tell : ∀ (h' : PH) (t' : F_) (pcx : Nat), h'.2 57 = some (mO t') → 0 < t' 33 ∧ t' 33 ≤ 100 → P (rI (t' 33 - 10)) h' → k_Wp x d 0 0 mX12_grammar P 0 0 73 [some (vR 57), some (vI en), none, none, none] [] h' := by
      intro h' t' pcx j1 j2 j3
      have e33 : (t' 33 ≤ 0) = False := eq_false (by omega)
      refine p_go [] 40 ?_
      simp only [st_0, st_1, st_2, st_3, st_4, st_5, st_6, st_7, st_8, st_9, st_10, st_11, st_12, st_13, st_14, st_15, st_16, st_17, st_18, st_19, st_20, st_21, st_22, st_23, st_24, st_25, st_26, st_27, st_28, st_29, st_30, st_31, st_32, st_33, st_34, st_34a, st_35, st_36, st_37, st_38, st_39, st_42, st_44, st_45, st_47, st_40, st_41, st_46, st_48, st_49, st_43, go_0, go_s, cut_0, cut_s, get_0, get_s, put_0, put_1, put_s, clr_0, clr_s, unl_i, unl_l, unl_r, unl_n, nth_0, nth_s, sf_0, sf_s, cnd_0, cnd_1, cnd_2, cnd_3, cnd_4, cnd_5, fit_0, fit_1, fit_2, en_0, en_i, en_l, en_r, kb_t, kb_f, kb_n, sw_0, sw_s, ↓reduceIte, Nat.reduceEqDiff, Nat.left_eq_add, Nat.add_eq_left, Nat.add_left_cancel_iff, Nat.reduceAdd, Int.reduceLT, Int.reduceLE, Int.reduceAdd, Int.reduceSub, Int.reduceNeg, Int.reduceMul, Int.reduceToNat, Int.reduceEq, reduceCtorEq, true_and, and_true, true_or, or_true, and_false, false_and, or_false, false_or, not_true_eq_false, not_false_eq_true, Nat.le_refl, and_self, Sum.inl.injEq, Sum.inr.injEq, Option.some.injEq, hS_2, k_isref, pd_0, pd_s, List.cons_append, List.nil_append, Option.toList_none, Option.toList_some, tX12_grammar, rX12_grammar, j1, e33]
      exact ⟨⟨by omega, by omega⟩, j3⟩
    rcases w2 with ⟨t', y1, y2, y3, y4⟩ | ⟨t', rc', S', pl', y1, y2, y3, y4, y5⟩
    · have j1 := y1.2.1
      have f33 : (t' 33 = 0) = False := eq_false (by omega)
      have hb6 : t' 33 ≤ 100 := by
        have := prs_b (R := R) (E := E) (f := f) (en := en) (en + 1 - 0) 0 ((-1, 1), (0, 0), (wl, ws, wp, wq), (op, oq, pt, ob), (lf, sf))
        have h5 := congrArg Prod.fst y4
        unfold prX PX at h5
        simp only at h5
        split at h5
        · simp only at h5; omega
        · split at h5 <;> simp only at h5 <;> omega
      refine p_go [73] 40 ?_
      simp only [st_0, st_1, st_2, st_3, st_4, st_5, st_6, st_7, st_8, st_9, st_10, st_11, st_12, st_13, st_14, st_15, st_16, st_17, st_18, st_19, st_20, st_21, st_22, st_23, st_24, st_25, st_26, st_27, st_28, st_29, st_30, st_31, st_32, st_33, st_34, st_34a, st_35, st_36, st_37, st_38, st_39, st_42, st_44, st_45, st_47, st_40, st_41, st_46, st_48, st_49, st_43, go_0, go_s, cut_0, cut_s, get_0, get_s, put_0, put_1, put_s, clr_0, clr_s, unl_i, unl_l, unl_r, unl_n, nth_0, nth_s, sf_0, sf_s, cnd_0, cnd_1, cnd_2, cnd_3, cnd_4, cnd_5, fit_0, fit_1, fit_2, en_0, en_i, en_l, en_r, kb_t, kb_f, kb_n, sw_0, sw_s, ↓reduceIte, Nat.reduceEqDiff, Nat.left_eq_add, Nat.add_eq_left, Nat.add_left_cancel_iff, Nat.reduceAdd, Int.reduceLT, Int.reduceLE, Int.reduceAdd, Int.reduceSub, Int.reduceNeg, Int.reduceMul, Int.reduceToNat, Int.reduceEq, reduceCtorEq, true_and, and_true, true_or, or_true, and_false, false_and, or_false, false_or, not_true_eq_false, not_false_eq_true, Nat.le_refl, and_self, Sum.inl.injEq, Sum.inr.injEq, Option.some.injEq, hS_2, k_isref, pd_0, pd_s, List.cons_append, List.nil_append, Option.toList_none, Option.toList_some, tX12_grammar, rX12_grammar, j1, f33]
      exact tell h5 t' 0 j1 ⟨y3, hb6⟩ (c1' h5 t' y1 y3 y4)
    · have j1 := y1.1.2.1
      have j32 := y1.2.1
      have j33 := y1.2.2.2.2.1
      have j9 : t' 9 = en := (y1.1.2.2.1 9 (by decide) (by decide)).trans t9
      have f33 : (t' 33 = 0) = True := eq_true j33
      have ho := y3.2.2.2.1
      simp only at ho
      have hrc := y3.2.1
      by_cases hlt : rc' < en
      · have e1 : (t' 9 ≤ (rc' : Int)) = False := eq_false (by omega)
        have hwr := e_wrong (x := x) (d := 0) (w := 1) (p := rc') j1
        rw [j33, if_neg (by decide)] at hwr
        have hX := prX_top (R := R) (E := E) hlt y5 ho
        rw [y3.1] at hX
        refine p_go [73] 40 ?_
        simp only [st_0, st_1, st_2, st_3, st_4, st_5, st_6, st_7, st_8, st_9, st_10, st_11, st_12, st_13, st_14, st_15, st_16, st_17, st_18, st_19, st_20, st_21, st_22, st_23, st_24, st_25, st_26, st_27, st_28, st_29, st_30, st_31, st_32, st_33, st_34, st_34a, st_35, st_36, st_37, st_38, st_39, st_42, st_44, st_45, st_47, st_40, st_41, st_46, st_48, st_49, st_43, go_0, go_s, cut_0, cut_s, get_0, get_s, put_0, put_1, put_s, clr_0, clr_s, unl_i, unl_l, unl_r, unl_n, nth_0, nth_s, sf_0, sf_s, cnd_0, cnd_1, cnd_2, cnd_3, cnd_4, cnd_5, fit_0, fit_1, fit_2, en_0, en_i, en_l, en_r, kb_t, kb_f, kb_n, sw_0, sw_s, ↓reduceIte, Nat.reduceEqDiff, Nat.left_eq_add, Nat.add_eq_left, Nat.add_left_cancel_iff, Nat.reduceAdd, Int.reduceLT, Int.reduceLE, Int.reduceAdd, Int.reduceSub, Int.reduceNeg, Int.reduceMul, Int.reduceToNat, Int.reduceEq, reduceCtorEq, true_and, and_true, true_or, or_true, and_false, false_and, or_false, false_or, not_true_eq_false, not_false_eq_true, Nat.le_refl, and_self, Sum.inl.injEq, Sum.inr.injEq, Option.some.injEq, hS_2, k_isref, pd_0, pd_s, List.cons_append, List.nil_append, Option.toList_none, Option.toList_some, tX12_grammar, rX12_grammar, j1, f33, e1, j32]
        refine cV (d' := 0) [vI 1, vI rc'] [] l_12_192 j1 hwr (by omega) ?_
        have hl := c1' (hS h5 57 (mO (mS (mS t' 33 1) 34 rc'))) (mS (mS t' 33 1) 34 rc') (y1.1.put (fun i j1 j2 => (mS_n (by omega)).trans (mS_n (by omega)))) (show (0 : Int) < 1 by decide) hX
        exact tell _ (mS (mS t' 33 1) 34 rc') 0 (hS_s _ _ _) (show (0 : Int) < 1 ∧ (1 : Int) ≤ 100 by decide) hl
      · have erc : rc' = en := by omega
        subst erc
        have hT := y3.1
        rw [PX_stop (Nat.le_refl _)] at hT
        have hwp := prs_I (f := f) (en := rc') hE (rc' + 1 - 0) 0 ((-1, 1), (0, 0), (wl, ws, wp, wq), (op, oq, pt, ob), (lf, sf)) (by omega) hI0 (fun k hk => by simp only at hk; omega)
        change _ ∧ _ ∧ wpI (PX R E f rc' 0 ((-1, 1), (0, 0), (wl, ws, wp, wq), (op, oq, pt, ob), (lf, sf))).2.2 at hwp
        rw [← hT] at hwp
        have hwpI := hwp.2.2
        have hI := y3.2.2.1
        have hcl := y3.2.2.2.2.2.2
        obtain ⟨⟨o', e'⟩, ⟨wc', pc'⟩, ⟨wl', ws', wp', wq'⟩, ⟨op', oq', pt', ob'⟩, ⟨lf', sf'⟩⟩ := S'
        simp only at y4 ho hcl
        subst y4
        subst ho
        have c5'' := c5' _ hT.symm rfl
        have c7'' := c7' _ hT.symm rfl
        clear c1' c5' c7'
        obtain ⟨i1, i2, i3, i4, i5, i6, i7, i8, i9⟩ := hI
        simp only at i1 i3 i4 i5 i7 i8
        obtain ⟨yF, y32, y30, y31, y33, ⟨ss, sm, sp, sa, n1, n2, n3, n4, n5⟩, n6, pp, pa, pm, n7, n8, n9, n10⟩ := y1
        simp only at y30 y31 n5 n10
        have hPt : MPt h5 t' pc' op' oq' pt' ob' := ⟨j1, y31, pp, pa, pl', pm, n7, n8, n6, n9, fun k hk => ⟨(n10 k hk).1, (n10 k hk).2.1, hcl k (by omega) hk, (n10 k hk).2.2⟩⟩
        have z5 := fun z z1 z2 => yF.2.2.2.2.2.2.2.2.2.2.2.2 z z1 z2
        have hls := e_lists (x := x) (d := 1) (nw := nw) hPt ((z5 83 (by decide) (by decide)).trans w98) ((z5 84 (by decide) (by decide)).trans w99) i4 (fun k hk => i8 k hk) (fun k hk => by have := i7 k hk; omega) (Nat.le_refl 1)
        have hwl : ∀ i, i < wc' → 0 ≤ wl' i ∧ wl' i ≤ 20 := fun i hi => i5.1 i (by omega)
        have hmk := (mk_rows (ws := ws') (wp := wp') (wq := wq') (op := op') (oq := oq') (pt := pt') (ob := ob') i4 (fun i hi => (hwl i hi).1) 120 0 0 (stl pc' op' oq' pc' 0 nw) pk cl cs np0 (Or.inl rfl)).2
        have eM : mkc wc' pc' wl' ws' wp' wq' op' oq' pt' ob' 120 0 0 (stl pc' op' oq' pc' 0 nw) pk cl cs = mkS ((-1, 0), (wc', pc'), (wl', ws', wp', wq'), (op', oq', pt', ob'), (lf', sf')) nw pk cl cs := rfl
        rw [eM] at hmk
        generalize mkS ((-1, 0), (wc', pc'), (wl', ws', wp', wq'), (op', oq', pt', ob'), (lf', sf')) nw pk cl cs = M at hmk c5'' c7''
        clear eM
        simp only at c5'' c7''
        have e1 : (t' 9 ≤ t' 32) = True := eq_true (by omega)
        have f33b : (t' 33 ≤ 0) = True := eq_true (by omega)
        refine p_go [] 60 ?_
        simp only [st_0, st_1, st_2, st_3, st_4, st_5, st_6, st_7, st_8, st_9, st_10, st_11, st_12, st_13, st_14, st_15, st_16, st_17, st_18, st_19, st_20, st_21, st_22, st_23, st_24, st_25, st_26, st_27, st_28, st_29, st_30, st_31, st_32, st_33, st_34, st_34a, st_35, st_36, st_37, st_38, st_39, st_42, st_44, st_45, st_47, st_40, st_41, st_46, st_48, st_49, st_43, go_0, go_s, cut_0, cut_s, get_0, get_s, put_0, put_1, put_s, clr_0, clr_s, unl_i, unl_l, unl_r, unl_n, nth_0, nth_s, sf_0, sf_s, cnd_0, cnd_1, cnd_2, cnd_3, cnd_4, cnd_5, fit_0, fit_1, fit_2, en_0, en_i, en_l, en_r, kb_t, kb_f, kb_n, sw_0, sw_s, ↓reduceIte, Nat.reduceEqDiff, Nat.left_eq_add, Nat.add_eq_left, Nat.add_left_cancel_iff, Nat.reduceAdd, Int.reduceLT, Int.reduceLE, Int.reduceAdd, Int.reduceSub, Int.reduceNeg, Int.reduceMul, Int.reduceToNat, Int.reduceEq, reduceCtorEq, true_and, and_true, true_or, or_true, and_false, false_and, or_false, false_or, not_true_eq_false, not_false_eq_true, Nat.le_refl, and_self, Sum.inl.injEq, Sum.inr.injEq, Option.some.injEq, hS_2, k_isref, pd_0, pd_s, List.cons_append, List.nil_append, Option.toList_none, Option.toList_some, tX12_grammar, rX12_grammar, j1, f33, f33b, e1]
        refine cVQ (d' := 1) [] [] l_12_211 j1 hls (by omega) ?_ (fun E h' q => by cases q.1)
        intro r6 h6 ⟨x1, pi', x2⟩
        cases x1
        have hF6 : MF (lsH hb (lsC pc' op' oq' pt' ob' 120 0 (stl pc' op' oq' pc' 0 nw) np0).2 pi') h6 tb t' := by
          rw [x2]
          exact (yF.up (by decide)).up (by decide)
        generalize lsC pc' op' oq' pt' ob' 120 0 (stl pc' op' oq' pc' 0 nw) np0 = L at hmk hF6 x2 ⊢
        have k6 := hF6.2.1
        rcases hmk with ⟨m1, m2⟩ | ⟨q, m1, m2, m3, m4⟩
        · -- too many commands
          rw [m2]
          have hwr := e_wrong (x := x) (d := 0) (w := 5) (p := t' 9) k6
          rw [j33, if_neg (by decide)] at hwr
          refine p_go [] 60 ?_
          simp only [st_0, st_1, st_2, st_3, st_4, st_5, st_6, st_7, st_8, st_9, st_10, st_11, st_12, st_13, st_14, st_15, st_16, st_17, st_18, st_19, st_20, st_21, st_22, st_23, st_24, st_25, st_26, st_27, st_28, st_29, st_30, st_31, st_32, st_33, st_34, st_34a, st_35, st_36, st_37, st_38, st_39, st_42, st_44, st_45, st_47, st_40, st_41, st_46, st_48, st_49, st_43, go_0, go_s, cut_0, cut_s, get_0, get_s, put_0, put_1, put_s, clr_0, clr_s, unl_i, unl_l, unl_r, unl_n, nth_0, nth_s, sf_0, sf_s, cnd_0, cnd_1, cnd_2, cnd_3, cnd_4, cnd_5, fit_0, fit_1, fit_2, en_0, en_i, en_l, en_r, kb_t, kb_f, kb_n, sw_0, sw_s, ↓reduceIte, Nat.reduceEqDiff, Nat.left_eq_add, Nat.add_eq_left, Nat.add_left_cancel_iff, Nat.reduceAdd, Int.reduceLT, Int.reduceLE, Int.reduceAdd, Int.reduceSub, Int.reduceNeg, Int.reduceMul, Int.reduceToNat, Int.reduceEq, reduceCtorEq, true_and, and_true, true_or, or_true, and_false, false_and, or_false, false_or, not_true_eq_false, not_false_eq_true, Nat.le_refl, and_self, Sum.inl.injEq, Sum.inr.injEq, Option.some.injEq, hS_2, k_isref, pd_0, pd_s, List.cons_append, List.nil_append, Option.toList_none, Option.toList_some, tX12_grammar, rX12_grammar, k6]
          refine cV (d' := 0) [vI 5, vI (t' 9)] [] l_12_192 k6 hwr (by omega) (p_go [] 60 ?_)
          have hl := c5'' 5 (Or.inl rfl) m1 (hS h6 57 (mO (mS (mS t' 33 5) 34 (t' 9)))) (mS (mS t' 33 5) 34 (t' 9)) _ _ (hF6.put (fun i j1 j2 => (mS_n (by omega)).trans (mS_n (by omega)))) j9
          have k7 : (hS h6 57 (mO (mS (mS t' 33 5) 34 (t' 9)))).2 57 = some (mO (mS (mS t' 33 5) 34 (t' 9))) := hS_s _ _ _
          have e5 : mS (mS t' 33 5) 34 (t' 9) 33 = 5 := rfl
          generalize hS h6 57 (mO (mS (mS t' 33 5) 34 (t' 9))) = h7 at k7 hl ⊢
          simp only [st_0, st_1, st_2, st_3, st_4, st_5, st_6, st_7, st_8, st_9, st_10, st_11, st_12, st_13, st_14, st_15, st_16, st_17, st_18, st_19, st_20, st_21, st_22, st_23, st_24, st_25, st_26, st_27, st_28, st_29, st_30, st_31, st_32, st_33, st_34, st_34a, st_35, st_36, st_37, st_38, st_39, st_42, st_44, st_45, st_47, st_40, st_41, st_46, st_48, st_49, st_43, go_0, go_s, cut_0, cut_s, get_0, get_s, put_0, put_1, put_s, clr_0, clr_s, unl_i, unl_l, unl_r, unl_n, nth_0, nth_s, sf_0, sf_s, cnd_0, cnd_1, cnd_2, cnd_3, cnd_4, cnd_5, fit_0, fit_1, fit_2, en_0, en_i, en_l, en_r, kb_t, kb_f, kb_n, sw_0, sw_s, ↓reduceIte, Nat.reduceEqDiff, Nat.left_eq_add, Nat.add_eq_left, Nat.add_left_cancel_iff, Nat.reduceAdd, Int.reduceLT, Int.reduceLE, Int.reduceAdd, Int.reduceSub, Int.reduceNeg, Int.reduceMul, Int.reduceToNat, Int.reduceEq, reduceCtorEq, true_and, and_true, true_or, or_true, and_false, false_and, or_false, false_or, not_true_eq_false, not_false_eq_true, Nat.le_refl, and_self, Sum.inl.injEq, Sum.inr.injEq, Option.some.injEq, hS_2, k_isref, pd_0, pd_s, List.cons_append, List.nil_append, Option.toList_none, Option.toList_some, tX12_grammar, rX12_grammar, k7, e5]
          (repeat (first | exact hl | refine ⟨⟨by omega, by omega⟩, ?_⟩ | refine And.intro (by omega) ?_))
        · rw [m1]
          subst x2
          have hWd : MWd (hS h5 83 (cI 960 L.2)) t' wc' wp' wq' wl' ws' := ⟨(hS_n (by decide)).trans j1, y30, ss, sm, sp, sa, (hS_n (by decide)).trans n1, (hS_n (by decide)).trans n2, (hS_n (by decide)).trans n3, (hS_n (by decide)).trans n4, n5⟩
          have eMany : ((M.1.2 : Int) ≤ 120) = True := eq_true (by omega)
          refine p_go [110] 40 ?_
          simp only [st_0, st_1, st_2, st_3, st_4, st_5, st_6, st_7, st_8, st_9, st_10, st_11, st_12, st_13, st_14, st_15, st_16, st_17, st_18, st_19, st_20, st_21, st_22, st_23, st_24, st_25, st_26, st_27, st_28, st_29, st_30, st_31, st_32, st_33, st_34, st_34a, st_35, st_36, st_37, st_38, st_39, st_42, st_44, st_45, st_47, st_40, st_41, st_46, st_48, st_49, st_43, go_0, go_s, cut_0, cut_s, get_0, get_s, put_0, put_1, put_s, clr_0, clr_s, unl_i, unl_l, unl_r, unl_n, nth_0, nth_s, sf_0, sf_s, cnd_0, cnd_1, cnd_2, cnd_3, cnd_4, cnd_5, fit_0, fit_1, fit_2, en_0, en_i, en_l, en_r, kb_t, kb_f, kb_n, sw_0, sw_s, ↓reduceIte, Nat.reduceEqDiff, Nat.left_eq_add, Nat.add_eq_left, Nat.add_left_cancel_iff, Nat.reduceAdd, Int.reduceLT, Int.reduceLE, Int.reduceAdd, Int.reduceSub, Int.reduceNeg, Int.reduceMul, Int.reduceToNat, Int.reduceEq, reduceCtorEq, true_and, and_true, true_or, or_true, and_false, false_and, or_false, false_or, not_true_eq_false, not_false_eq_true, Nat.le_refl, and_self, Sum.inl.injEq, Sum.inr.injEq, Option.some.injEq, hS_2, k_isref, pd_0, pd_s, List.cons_append, List.nil_append, Option.toList_none, Option.toList_some, tX12_grammar, rX12_grammar, eMany]
          refine w_gr6 (h := hS h5 83 (cI 960 L.2)) (t := t') (q := q) hWd y31 j33 (hS_s _ _ _) (by omega) i4 i3 hwl (fun i hi => hwpI i hi) (fun k hk p hp => (m3 k (Nat.zero_le k) hk).1 p hp) (by omega) (fun hall pi => ?_) (fun hex pi => ?_) M.1.2 0 pi' (by omega) (fun u hu => by omega)
          · -- all is well
            have hM0 : M.1.1 = 0 := by
              rcases m4 with w | ⟨_, w | ⟨k, w1, w2, w3⟩⟩
              · exact w.1
              · omega
              · have := hall k w2; omega
            have c7f := c7'' hM0
            have kO := (hS_n (h := hS h5 83 (cI 960 L.2)) (a := 84) (c := cI 8 pi) (show 57 ≠ 84 by decide)).trans hWd.1
            have hFO : MF (lsH hb L.2 pi) (lsH h5 L.2 pi) tb t' := (yF.up (by decide)).up (by decide)
            have hF7 : MF (lsH hb L.2 pi) (hS (lsH h5 L.2 pi) 57 (mO (mS (mS (mS t' 35 M.1.2) 36 (t' 31)) 45 (-1)))) (mS (mS (mS tb 35 M.1.2) 36 pc') 45 (-1)) (mS (mS (mS t' 35 M.1.2) 36 (t' 31)) 45 (-1)) := by
              rw [y31]
              exact hFO.put2 (fun i j1 j2 j3 => mS_cong (mS_cong (mS_cong j3)))
            have zB : ∀ z, z ≠ 57 → z ≠ 83 → z ≠ 84 → (79 < z) → (hS (lsH h5 L.2 pi) 57 (mO (mS (mS (mS t' 35 M.1.2) 36 (t' 31)) 45 (-1)))).2 z = hb.2 z := fun z z1 z2 z3 z4 => (hS_n z1).trans ((lsH_n z2 z3).trans (z5 z z1 (by omega)))
            have hB99 : (hS (lsH h5 L.2 pi) 57 (mO (mS (mS (mS t' 35 M.1.2) 36 (t' 31)) 45 (-1)))).2 84 = some (cI 8 pi) := (hS_n (by decide)).trans lsH_99
            have hB98 : (hS (lsH h5 L.2 pi) 57 (mO (mS (mS (mS t' 35 M.1.2) 36 (t' 31)) 45 (-1)))).2 83 = some (cI 960 L.2) := (hS_n (by decide)).trans lsH_98
            have hB72 : (hS (lsH h5 L.2 pi) 57 (mO (mS (mS (mS t' 35 M.1.2) 36 (t' 31)) 45 (-1)))).2 57 = some (mO (mS (mS (mS t' 35 M.1.2) 36 (t' 31)) 45 (-1))) := hS_s _ _ _
            have b95 := (zB 80 (by decide) (by decide) (by decide) (by decide)).trans w95
            have b96 := (zB 81 (by decide) (by decide) (by decide) (by decide)).trans w96
            have b97 := (zB 82 (by decide) (by decide) (by decide) (by decide)).trans w97
            have hWB : MWd (hS (lsH h5 L.2 pi) 57 (mO (mS (mS (mS t' 35 M.1.2) 36 (t' 31)) 45 (-1)))) (mS (mS (mS t' 35 M.1.2) 36 (t' 31)) 45 (-1)) wc' wp' wq' wl' ws' := ⟨hB72, y30, ss, sm, sp, sa, (hS_n (by decide)).trans ((lsH_n (by decide) (by decide)).trans n1), (hS_n (by decide)).trans ((lsH_n (by decide) (by decide)).trans n2), (hS_n (by decide)).trans ((lsH_n (by decide) (by decide)).trans n3), (hS_n (by decide)).trans ((lsH_n (by decide) (by decide)).trans n4), n5⟩
            have fin : k_Wp x d 0 0 mX12_grammar P 0 0 184 [some (vR 57), some (vI rc'), some (vI M.1.2), some (vI ((0 : Nat) : Int)), none] [] (hS (lsH h5 L.2 pi) 57 (mO (mS (mS (mS t' 35 M.1.2) 36 (t' 31)) 45 (-1)))) := by
              have q31 : mS (mS (mS t' 35 M.1.2) 36 (t' 31)) 45 (-1) 31 = pc' := y31
              have q34 : mS (mS (mS t' 35 M.1.2) 36 (t' 31)) 45 (-1) 34 = -1 := y2.trans t34
              have q35 : mS (mS (mS t' 35 M.1.2) 36 (t' 31)) 45 (-1) 35 = M.1.2 := rfl
              generalize hS (lsH h5 L.2 pi) 57 (mO (mS (mS (mS t' 35 M.1.2) 36 (t' 31)) 45 (-1))) = hB at hF7 hB99 hB98 hB72 b95 b96 b97 hWB ⊢
              generalize mS (mS (mS t' 35 M.1.2) 36 (t' 31)) 45 (-1) = tB at hF7 hB72 hWB q31 q34 q35
              have hw := w_gr7 (x := x) (d := d) (P := P) (z := rc') (many := M.1.2) (q := q) (np := L.2) (h := hB) (cl := M.2.2.2.1) (cs := M.2.2.2.2) (pk' := M.2.2.1) hWB q31 hB98 (by omega) i4 i3 hwl (fun i hi => hwpI i hi) (fun k hk p hp => (m3 k (Nat.zero_le k) hk).1 p hp) hall (fun k hk p hp => (m3 k (Nat.zero_le k) hk).2.1 p hp) (fun k hk => (m3 k (Nat.zero_le k) hk).2.2) (by omega) (fun pk2 sd2 sm2 pi2 hg => ?_) M.1.2 0 pk0 sd0 sm0 pi (by omega) (fun u hu => by omega)
              · have eH : gnH hB pk0 sd0 sm0 pi = hB := by
                  unfold gnH
                  rw [hS_id hB99, hS_id b96, hS_id b97, hS_id b95]
                rw [eH] at hw
                exact hw
              · have hl := c7f hB tB L.2 pi pk2 sd2 sm2 pi2 hF7 q34 hg
                have k9 := (gnH_n (h := hB) (pk := pk2) (sd := sd2) (sm := sm2) (pi := pi2) (u := 57) (by decide) (by decide) (by decide) (by decide)).trans hB72
                generalize gnH hB pk2 sd2 sm2 pi2 = h9 at k9 hl ⊢
                refine p_go [] 40 ?_
                simp only [st_0, st_1, st_2, st_3, st_4, st_5, st_6, st_7, st_8, st_9, st_10, st_11, st_12, st_13, st_14, st_15, st_16, st_17, st_18, st_19, st_20, st_21, st_22, st_23, st_24, st_25, st_26, st_27, st_28, st_29, st_30, st_31, st_32, st_33, st_34, st_34a, st_35, st_36, st_37, st_38, st_39, st_42, st_44, st_45, st_47, st_40, st_41, st_46, st_48, st_49, st_43, go_0, go_s, cut_0, cut_s, get_0, get_s, put_0, put_1, put_s, clr_0, clr_s, unl_i, unl_l, unl_r, unl_n, nth_0, nth_s, sf_0, sf_s, cnd_0, cnd_1, cnd_2, cnd_3, cnd_4, cnd_5, fit_0, fit_1, fit_2, en_0, en_i, en_l, en_r, kb_t, kb_f, kb_n, sw_0, sw_s, ↓reduceIte, Nat.reduceEqDiff, Nat.left_eq_add, Nat.add_eq_left, Nat.add_left_cancel_iff, Nat.reduceAdd, Int.reduceLT, Int.reduceLE, Int.reduceAdd, Int.reduceSub, Int.reduceNeg, Int.reduceMul, Int.reduceToNat, Int.reduceEq, reduceCtorEq, true_and, and_true, true_or, or_true, and_false, false_and, or_false, false_or, not_true_eq_false, not_false_eq_true, Nat.le_refl, and_self, Sum.inl.injEq, Sum.inr.injEq, Option.some.injEq, hS_2, k_isref, pd_0, pd_s, List.cons_append, List.nil_append, Option.toList_none, Option.toList_some, tX12_grammar, rX12_grammar, k9, q35]
                exact hl
            change k_Wp x d 0 0 mX12_grammar P 0 0 149 [some (vR 57), some (vI rc'), some (vI M.1.2), none, none] [] (lsH h5 L.2 pi)
            have kO2 : (lsH h5 L.2 pi).2 57 = some (mO t') := kO
            generalize lsH h5 L.2 pi = hO at kO2 fin ⊢
            refine p_go [184] 60 ?_
            simp only [st_0, st_1, st_2, st_3, st_4, st_5, st_6, st_7, st_8, st_9, st_10, st_11, st_12, st_13, st_14, st_15, st_16, st_17, st_18, st_19, st_20, st_21, st_22, st_23, st_24, st_25, st_26, st_27, st_28, st_29, st_30, st_31, st_32, st_33, st_34, st_34a, st_35, st_36, st_37, st_38, st_39, st_42, st_44, st_45, st_47, st_40, st_41, st_46, st_48, st_49, st_43, go_0, go_s, cut_0, cut_s, get_0, get_s, put_0, put_1, put_s, clr_0, clr_s, unl_i, unl_l, unl_r, unl_n, nth_0, nth_s, sf_0, sf_s, cnd_0, cnd_1, cnd_2, cnd_3, cnd_4, cnd_5, fit_0, fit_1, fit_2, en_0, en_i, en_l, en_r, kb_t, kb_f, kb_n, sw_0, sw_s, ↓reduceIte, Nat.reduceEqDiff, Nat.left_eq_add, Nat.add_eq_left, Nat.add_left_cancel_iff, Nat.reduceAdd, Int.reduceLT, Int.reduceLE, Int.reduceAdd, Int.reduceSub, Int.reduceNeg, Int.reduceMul, Int.reduceToNat, Int.reduceEq, reduceCtorEq, true_and, and_true, true_or, or_true, and_false, false_and, or_false, false_or, not_true_eq_false, not_false_eq_true, Nat.le_refl, and_self, Sum.inl.injEq, Sum.inr.injEq, Option.some.injEq, hS_2, k_isref, pd_0, pd_s, List.cons_append, List.nil_append, Option.toList_none, Option.toList_some, tX12_grammar, rX12_grammar, kO2, f33b, hS_hS]
            exact fin
          · -- a command is too long
            have hM6 : M.1.1 = 6 := by
              obtain ⟨k, w2, w3⟩ := hex
              rcases m4 with w | w
              · have := w.2.2 k (Nat.zero_le k) w2; omega
              · exact w.1
            have hFO : MF (lsH hb L.2 pi) (lsH h5 L.2 pi) tb t' := (yF.up (by decide)).up (by decide)
            have hl := c5'' 6 (Or.inr rfl) hM6 (hS (lsH h5 L.2 pi) 57 (mO (mS (mS t' 33 6) 34 (t' 9)))) (mS (mS t' 33 6) 34 (t' 9)) _ _ (hFO.put (fun i j1 j2 => (mS_n (by omega)).trans (mS_n (by omega)))) j9
            have k7 : (hS (lsH h5 L.2 pi) 57 (mO (mS (mS t' 33 6) 34 (t' 9)))).2 57 = some (mO (mS (mS t' 33 6) 34 (t' 9))) := hS_s _ _ _
            have e5 : mS (mS t' 33 6) 34 (t' 9) 33 = 6 := rfl
            change k_Wp x d 0 0 mX12_grammar P 0 0 149 [some (vR 57), some (vI rc'), some (vI M.1.2), none, none] [] (hS (lsH h5 L.2 pi) 57 (mO (mS (mS t' 33 6) 34 (t' 9))))
            generalize hS (lsH h5 L.2 pi) 57 (mO (mS (mS t' 33 6) 34 (t' 9))) = h7 at k7 hl ⊢
            refine p_go [] 60 ?_
            simp only [st_0, st_1, st_2, st_3, st_4, st_5, st_6, st_7, st_8, st_9, st_10, st_11, st_12, st_13, st_14, st_15, st_16, st_17, st_18, st_19, st_20, st_21, st_22, st_23, st_24, st_25, st_26, st_27, st_28, st_29, st_30, st_31, st_32, st_33, st_34, st_34a, st_35, st_36, st_37, st_38, st_39, st_42, st_44, st_45, st_47, st_40, st_41, st_46, st_48, st_49, st_43, go_0, go_s, cut_0, cut_s, get_0, get_s, put_0, put_1, put_s, clr_0, clr_s, unl_i, unl_l, unl_r, unl_n, nth_0, nth_s, sf_0, sf_s, cnd_0, cnd_1, cnd_2, cnd_3, cnd_4, cnd_5, fit_0, fit_1, fit_2, en_0, en_i, en_l, en_r, kb_t, kb_f, kb_n, sw_0, sw_s, ↓reduceIte, Nat.reduceEqDiff, Nat.left_eq_add, Nat.add_eq_left, Nat.add_left_cancel_iff, Nat.reduceAdd, Int.reduceLT, Int.reduceLE, Int.reduceAdd, Int.reduceSub, Int.reduceNeg, Int.reduceMul, Int.reduceToNat, Int.reduceEq, reduceCtorEq, true_and, and_true, true_or, or_true, and_false, false_and, or_false, false_or, not_true_eq_false, not_false_eq_true, Nat.le_refl, and_self, Sum.inl.injEq, Sum.inr.injEq, Option.some.injEq, hS_2, k_isref, pd_0, pd_s, List.cons_append, List.nil_append, Option.toList_none, Option.toList_some, tX12_grammar, rX12_grammar, k7, e5]
            (repeat (first | exact hl | refine ⟨⟨by omega, by omega⟩, ?_⟩ | refine And.intro (by omega) ?_))
end Mgra87
