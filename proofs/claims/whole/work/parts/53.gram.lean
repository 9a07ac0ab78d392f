/-! SpokenDesk: grammar -/
section Gram53
variable {x : Bool} {d : Nat} {h : PH} {sp : Nat} {pl : Int} {P : PO → PH → Prop} {f : F_} {R E : LxT}
theorem tkSign_b {v : Int} {S : PS} : 0 ≤ (tkSign v S).1 ∧ (tkSign v S).1 ≤ 6 := by
  obtain ⟨⟨o, e⟩, ⟨wc, pc⟩, ⟨wl, ws, wp, wq⟩, ⟨op, oq, pt, ob⟩, ⟨lf, sf⟩⟩ := S
  unfold tkSign tkOpen tkBar tkClose
  (repeat' split) <;> (simp only; omega)
theorem tkSpell_b {rc bh : Nat} {S : PS} : 0 ≤ (tkSpell R E f rc bh S).1 ∧ (tkSpell R E f rc bh S).1 ≤ 6 := by
  obtain ⟨⟨o, e⟩, ⟨wc, pc⟩, ⟨wl, ws, wp, wq⟩, ⟨op, oq, pt, ob⟩, ⟨lf, sf⟩⟩ := S
  unfold tkSpell
  (repeat' split) <;> (simp only; omega)
theorem prT_b {en rc : Nat} {S : PS} : 0 ≤ (prT R E f en rc S).1 ∧ (prT R E f en rc S).1 ≤ 6 := by
  unfold prT
  split
  · exact tkSpell_b
  · exact tkSign_b
theorem prs_b {en : Nat} : ∀ (j rc : Nat) (S : PS), 0 ≤ (prs R E f en j rc S).1 ∧ (prs R E f en j rc S).1 ≤ 6
  | 0, _, _ => by unfold prs; simp only; omega
  | j + 1, rc, S => by
    unfold prs
    split
    · simp only; omega
    · split
      · exact prT_b
      · exact prs_b j _ _
theorem mkc_b {wc pc : Nat} {wl ws wp wq op oq pt ob : F_} : ∀ (j made : Nat) (tl : Int) (nw pk cl cs : F_), 0 ≤ (mkc wc pc wl ws wp wq op oq pt ob j made tl nw pk cl cs).1.1 ∧ (mkc wc pc wl ws wp wq op oq pt ob j made tl nw pk cl cs).1.1 ≤ 6
  | 0, _, _, _, _, _, _ => by unfold mkc; simp only; omega
  | j + 1, made, tl, nw, pk, cl, cs => by
    unfold mkc
    split
    · simp only; split <;> omega
    · exact mkc_b j _ _ _ _ _ _
theorem prF_b {nw pk cl cs : F_} {T : Int × Nat × PS} (hT : 0 ≤ T.1 ∧ T.1 ≤ 6) : 0 ≤ (prF nw pk cl cs T).1 ∧ (prF nw pk cl cs T).1 ≤ 6 := by
  unfold prF
  split
  · exact hT
  · split
    · simp only; omega
    · exact mkc_b _ _ _ _ _ _ _
set_option maxRecDepth 100000 in
set_option maxHeartbeats 4000000 in
theorem e_reached {p rc : Nat} {o e : Int} (h1 : h.2 30 = some (prO p o e rc)) : k_Ev x d 0 0 mX6_reached [vR 30] h (fun o h' => o = rI rc ∧ h' = h) := by
  refine k_enp 0 (Nat.le_of_ble_eq_true rfl) (p_go [] 40 ?_)
  simp only [st_0, st_1, st_2, st_3, st_4, st_5, st_6, st_7, st_8, st_9, st_10, st_11, st_12, st_13, st_14, st_15, st_16, st_17, st_18, st_19, st_20, st_21, st_22, st_23, st_24, st_25, st_26, st_27, st_28, st_29, st_30, st_31, st_32, st_33, st_34, st_34a, st_35, st_36, st_37, st_38, st_39, st_42, st_44, st_45, st_47, st_40, st_41, st_46, st_48, st_49, st_43, go_0, go_s, cut_0, cut_s, get_0, get_s, put_0, put_1, put_s, clr_0, clr_s, unl_i, unl_l, unl_r, unl_n, nth_0, nth_s, sf_0, sf_s, cnd_0, cnd_1, cnd_2, cnd_3, cnd_4, cnd_5, fit_0, fit_1, fit_2, en_0, en_i, en_l, en_r, kb_t, kb_f, kb_n, sw_0, sw_s, ↓reduceIte, Nat.reduceEqDiff, Nat.left_eq_add, Nat.add_eq_left, Nat.add_left_cancel_iff, Nat.reduceAdd, Int.reduceLT, Int.reduceLE, Int.reduceAdd, Int.reduceSub, Int.reduceNeg, Int.reduceMul, Int.reduceToNat, Int.reduceEq, reduceCtorEq, true_and, and_true, true_or, or_true, and_false, false_and, or_false, false_or, not_true_eq_false, not_false_eq_true, Nat.le_refl, and_self, Sum.inl.injEq, Sum.inr.injEq, Option.some.injEq, hS_2, k_isref, pd_0, pd_s, List.cons_append, List.nil_append, Option.toList_none, Option.toList_some, tX6_reached, rX6_reached, h1]
/-- what parsing the tape, and taking the commands, ends with -/
abbrev prA (R E : LxT) (f : F_) (n : Nat) (wl ws wp wq op oq pt ob lf sf nw pk cl cs : F_) := prF nw pk cl cs (prs R E f n (n + 1) 0 ((-1, 1), (0, 0), (wl, ws, wp, wq), (op, oq, pt, ob), (lf, sf)))
theorem prF_n {nw pk cl cs : F_} {T : Int × Nat × PS} (h : prE T ≠ 0) : prF nw pk cl cs T = (prE T, (T.2.1, 0), T.2.2, (nw, pk, cl, cs)) := by
  unfold prE at h ⊢
  unfold prF
  by_cases q : T.1 ≠ 0
  · rw [if_pos q, if_pos q]
  · rw [if_neg q] at h ⊢
    rw [if_neg q]
    by_cases q2 : T.2.2.1.2 = 1 ∨ T.2.2.1.1 ≠ -1
    · rw [if_pos q2, if_pos q2]
    · rw [if_neg q2] at h
      exact absurd rfl h
theorem prF_z {nw pk cl cs : F_} {T : Int × Nat × PS} (h : prE T = 0) : prF nw pk cl cs T = ((mkS T.2.2 nw pk cl cs).1.1, (T.2.1, if (mkS T.2.2 nw pk cl cs).1.1 = 5 then 0 else (mkS T.2.2 nw pk cl cs).1.2), T.2.2, (mkS T.2.2 nw pk cl cs).2) := by
  unfold prE at h
  unfold prF
  by_cases q : T.1 ≠ 0
  · rw [if_pos q] at h
    exact absurd h q
  · rw [if_neg q] at h ⊢
    by_cases q2 : T.2.2.1.2 = 1 ∨ T.2.2.1.1 ≠ -1
    · rw [if_pos q2] at h
      cases h
    · rw [if_neg q2]
theorem Ps.gr {h0 h' : PH} {a p g r sz pn sz' pn' rc : Nat} {nw pk cl cs nw' pk' cl' cs' : F_} {S : PS} (hS1 : Ps h0 h a p g r sz pn rc nw pk cl cs S) (hra : r + 2 < a) (hag : a < g) (hf : Gf h h' g) (hG : Gr h' g S.2.2.1.1 S.2.2.1.2.1 S.2.2.1.2.2.1 S.2.2.1.2.2.2 S.2.2.2.1.1 S.2.2.2.1.2.1 S.2.2.2.1.2.2.1 S.2.2.2.1.2.2.2 nw' pk' cl' cs' S.2.1.1 S.2.1.2 sz' pn') : Ps h0 h' a p g r sz' pn' rc nw' pk' cl' cs' S := by
  obtain ⟨s1, s2, s3, s4, s5, s6⟩ := hS1
  exact ⟨hf.1.trans s1, fun z z1 z2 z3 z4 => (hf.2 z z2).trans (s2 z z1 z2 z3 z4), (hf.2 a (Or.inl hag)).trans s3, hG, (hf.2 _ (by omega)).trans s5, (hf.2 _ (by omega)).trans s6⟩
set_option maxRecDepth 100000 in
set_option maxHeartbeats 4000000 in
theorem e_grammar {z : Int} {nt wc0 pc0 sz pn rc0 ac : Nat} {o0 e0 kn ed : Int} {Sn : Int × Int × Int} {Sh : HS} {wl ws wp wq op oq pt ob lf sf nw pk cl cs : F_} (h1 : h.2 1 = some (sdO sp pl)) (hT : Tp h 12 nt f) (hnt : nt ≤ 400) (hE : Env h 13 26 14 20 27 f R E) (hEI : EnvI R E) (hA : h.2 30 = some (prO 26 o0 e0 rc0)) (hG : Gr h sp wl ws wp wq op oq pt ob nw pk cl cs wc0 pc0 sz pn) (hW : RwW 20 20 wl) (hWc : RwW 40 120 cl) (h5 : h.2 28 = some (cI 1 lf)) (h6 : h.2 29 = some (cI 20 sf)) (h7 : 0 ≤ lf 0 ∧ lf 0 ≤ 20)
    (hN : h.2 31 = some (neO kn ed Sn)) (hH : h.2 32 = some (heO 32 ac Sh)) (hsr : 32 < sp) (hd : 7 ≤ d)
    (c0 : ¬ (0 ≤ z ∧ z ≤ nt) → P (.inr (k_E 0)) h)
    (c1 : 0 ≤ z ∧ z ≤ nt → (prA R E f z.toNat wl ws wp wq op oq pt ob lf sf nw pk cl cs).1 ≠ 0 → ∀ h' nw', Ps (tpZ h) h' 30 26 sp 27 sz pn (prA R E f z.toNat wl ws wp wq op oq pt ob lf sf nw pk cl cs).2.1.1 nw' pk cl cs (prA R E f z.toNat wl ws wp wq op oq pt ob lf sf nw pk cl cs).2.2.1 → P (rI ((prA R E f z.toNat wl ws wp wq op oq pt ob lf sf nw pk cl cs).1 - 10)) (hS h' 1 (sdO sp (prA R E f z.toNat wl ws wp wq op oq pt ob lf sf nw pk cl cs).2.1.1)))
    (c2 : 0 ≤ z ∧ z ≤ nt → (prA R E f z.toNat wl ws wp wq op oq pt ob lf sf nw pk cl cs).1 = 0 → ∀ h', Ps (tpZ h) h' 30 26 sp 27 (prA R E f z.toNat wl ws wp wq op oq pt ob lf sf nw pk cl cs).2.1.2 (prA R E f z.toNat wl ws wp wq op oq pt ob lf sf nw pk cl cs).2.2.1.2.1.2 (prA R E f z.toNat wl ws wp wq op oq pt ob lf sf nw pk cl cs).2.1.1 (prA R E f z.toNat wl ws wp wq op oq pt ob lf sf nw pk cl cs).2.2.2.1 (prA R E f z.toNat wl ws wp wq op oq pt ob lf sf nw pk cl cs).2.2.2.2.1 (prA R E f z.toNat wl ws wp wq op oq pt ob lf sf nw pk cl cs).2.2.2.2.2.1 (prA R E f z.toNat wl ws wp wq op oq pt ob lf sf nw pk cl cs).2.2.2.2.2.2 (prA R E f z.toNat wl ws wp wq op oq pt ob lf sf nw pk cl cs).2.2.1 → P (rI (prA R E f z.toNat wl ws wp wq op oq pt ob lf sf nw pk cl cs).2.1.2) (hS (hS (hS h' 1 (sdO sp (-1))) 31 (neO 0 ed Sn)) 32 (heO 32 0 (-1, -1, -1, -1)))) :
    k_Ev x d 1 6 mX11_grammar [vR 1, vI z] h P := by
  have hTz : Tp (tpZ h) 12 0 f := ⟨hS_s _ _ _, (hS_n (by decide)).trans hT.2⟩
  have hz : ∀ z, z ≠ 12 → (tpZ h).2 z = h.2 z := fun z z1 => hS_n z1
  have k1 := (hz 1 (by decide)).trans h1
  have k30 := (hz 30 (by decide)).trans hA
  have kE : Env (tpZ h) 13 26 14 20 27 f R E := ⟨(hz _ (by decide)).trans hE.1, hE.2.1.fr (fun z _ _ => hz z (by omega)), hE.2.2.1.fr (fun z _ _ => hz z (by omega)), (hz _ (by decide)).trans hE.2.2.2.1, (hz _ (by decide)).trans hE.2.2.2.2⟩
  have k31 := (hz 31 (by decide)).trans hN
  have k32 := (hz 32 (by decide)).trans hH
  have k5 := (hz 28 (by decide)).trans h5
  have k6 := (hz 29 (by decide)).trans h6
  have kG : Gr (tpZ h) sp wl ws wp wq op oq pt ob nw pk cl cs wc0 pc0 sz pn := by
    obtain ⟨g1, gR, g4, g5, g6, g7, g8, g9, g10, g11, gC⟩ := hG
    exact ⟨(hz _ (by omega)).trans g1, gR.off (by omega) (by omega) (by omega), (hz _ (by omega)).trans g4, (hz _ (by omega)).trans g5, (hz _ (by omega)).trans g6, (hz _ (by omega)).trans g7, (hz _ (by omega)).trans g8, (hz _ (by omega)).trans g9, (hz _ (by omega)).trans g10, (hz _ (by omega)).trans g11, gC.off (by omega) (by omega) (by omega)⟩
  refine k_enp 1 (Nat.le_of_ble_eq_true rfl) (p_go [] 40 ?_)
  simp only [st_0, st_1, st_2, st_3, st_4, st_5, st_6, st_7, st_8, st_9, st_10, st_11, st_12, st_13, st_14, st_15, st_16, st_17, st_18, st_19, st_20, st_21, st_22, st_23, st_24, st_25, st_26, st_27, st_28, st_29, st_30, st_31, st_32, st_33, st_34, st_34a, st_35, st_36, st_37, st_38, st_39, st_42, st_44, st_45, st_47, st_40, st_41, st_46, st_48, st_49, st_43, go_0, go_s, cut_0, cut_s, get_0, get_s, put_0, put_1, put_s, clr_0, clr_s, unl_i, unl_l, unl_r, unl_n, nth_0, nth_s, sf_0, sf_s, cnd_0, cnd_1, cnd_2, cnd_3, cnd_4, cnd_5, fit_0, fit_1, fit_2, en_0, en_i, en_l, en_r, kb_t, kb_f, kb_n, sw_0, sw_s, ↓reduceIte, Nat.reduceEqDiff, Nat.left_eq_add, Nat.add_eq_left, Nat.add_left_cancel_iff, Nat.reduceAdd, Int.reduceLT, Int.reduceLE, Int.reduceAdd, Int.reduceSub, Int.reduceNeg, Int.reduceMul, Int.reduceToNat, Int.reduceEq, reduceCtorEq, true_and, and_true, true_or, or_true, and_false, false_and, or_false, false_or, not_true_eq_false, not_false_eq_true, Nat.le_refl, and_self, Sum.inl.injEq, Sum.inr.injEq, Option.some.injEq, hS_2, k_isref, pd_0, pd_s, List.cons_append, List.nil_append, Option.toList_none, Option.toList_some, tX11_grammar, rX11_grammar]
  refine cVT (d' := 6) [vI z] [] l_11_151 h1 (e_needBytes h1 hT (Nat.le_refl 6) z) (by omega) ?_ (fun E h' q => ?_)
  · intro r1 h2 ⟨q1, q2⟩
    subst q1
    rcases q2 with ⟨q2, q3⟩ | ⟨q2, q3⟩
    · cases q3
      obtain ⟨n, en⟩ : ∃ n : Nat, z = (n : Int) := ⟨z.toNat, by omega⟩
      subst en
      simp only [Int.toNat_natCast] at c1 c2
      have hev := e_parse (x := x) (d := 5) (a := 30) (nw := nw) (pk := pk) (cl := cl) (cs := cs) (n := n) kE hEI ⟨by decide, by decide, by decide, by decide⟩ (by omega) (by decide) (by omega) (Nat.le_refl 5) k30 kG hW k5 k6 h7
      have hb : 0 ≤ (prA R E f n wl ws wp wq op oq pt ob lf sf nw pk cl cs).1 ∧ (prA R E f n wl ws wp wq op oq pt ob lf sf nw pk cl cs).1 ≤ 6 := prF_b (prs_b _ _ _)
      have c1' := c1 q2
      have c2' := c2 q2
      clear c1 c2
      unfold prA at c1' c2' hb
      generalize prs R E f n (n + 1) 0 ((-1, 1), (0, 0), (wl, ws, wp, wq), (op, oq, pt, ob), (lf, sf)) = T at hev hb c1' c2'
      refine p_go [] 40 ?_
      simp only [st_0, st_1, st_2, st_3, st_4, st_5, st_6, st_7, st_8, st_9, st_10, st_11, st_12, st_13, st_14, st_15, st_16, st_17, st_18, st_19, st_20, st_21, st_22, st_23, st_24, st_25, st_26, st_27, st_28, st_29, st_30, st_31, st_32, st_33, st_34, st_34a, st_35, st_36, st_37, st_38, st_39, st_42, st_44, st_45, st_47, st_40, st_41, st_46, st_48, st_49, st_43, go_0, go_s, cut_0, cut_s, get_0, get_s, put_0, put_1, put_s, clr_0, clr_s, unl_i, unl_l, unl_r, unl_n, nth_0, nth_s, sf_0, sf_s, cnd_0, cnd_1, cnd_2, cnd_3, cnd_4, cnd_5, fit_0, fit_1, fit_2, en_0, en_i, en_l, en_r, kb_t, kb_f, kb_n, sw_0, sw_s, ↓reduceIte, Nat.reduceEqDiff, Nat.left_eq_add, Nat.add_eq_left, Nat.add_left_cancel_iff, Nat.reduceAdd, Int.reduceLT, Int.reduceLE, Int.reduceAdd, Int.reduceSub, Int.reduceNeg, Int.reduceMul, Int.reduceToNat, Int.reduceEq, reduceCtorEq, true_and, and_true, true_or, or_true, and_false, false_and, or_false, false_or, not_true_eq_false, not_false_eq_true, Nat.le_refl, and_self, Sum.inl.injEq, Sum.inr.injEq, Option.some.injEq, hS_2, k_isref, pd_0, pd_s, List.cons_append, List.nil_append, Option.toList_none, Option.toList_some, tX11_grammar, rX11_grammar, h1]
      refine cV (d' := 0) [] [] l_11_169 hT.1 (e_tclear hT) (by omega) (p_go [] 40 ?_)
      change k_go _ _ _ _ _ _ _ _ _ _ _ _ _ (tpZ h2)
      generalize tpZ h2 = h3 at hTz k1 k30 k31 k32 hev c1' c2' ⊢
      simp only [st_0, st_1, st_2, st_3, st_4, st_5, st_6, st_7, st_8, st_9, st_10, st_11, st_12, st_13, st_14, st_15, st_16, st_17, st_18, st_19, st_20, st_21, st_22, st_23, st_24, st_25, st_26, st_27, st_28, st_29, st_30, st_31, st_32, st_33, st_34, st_34a, st_35, st_36, st_37, st_38, st_39, st_42, st_44, st_45, st_47, st_40, st_41, st_46, st_48, st_49, st_43, go_0, go_s, cut_0, cut_s, get_0, get_s, put_0, put_1, put_s, clr_0, clr_s, unl_i, unl_l, unl_r, unl_n, nth_0, nth_s, sf_0, sf_s, cnd_0, cnd_1, cnd_2, cnd_3, cnd_4, cnd_5, fit_0, fit_1, fit_2, en_0, en_i, en_l, en_r, kb_t, kb_f, kb_n, sw_0, sw_s, ↓reduceIte, Nat.reduceEqDiff, Nat.left_eq_add, Nat.add_eq_left, Nat.add_left_cancel_iff, Nat.reduceAdd, Int.reduceLT, Int.reduceLE, Int.reduceAdd, Int.reduceSub, Int.reduceNeg, Int.reduceMul, Int.reduceToNat, Int.reduceEq, reduceCtorEq, true_and, and_true, true_or, or_true, and_false, false_and, or_false, false_or, not_true_eq_false, not_false_eq_true, Nat.le_refl, and_self, Sum.inl.injEq, Sum.inr.injEq, Option.some.injEq, hS_2, k_isref, pd_0, pd_s, List.cons_append, List.nil_append, Option.toList_none, Option.toList_some, tX11_grammar, rX11_grammar, k1]
      refine cV (d' := 0) [] [vR 30] l_11_171 hTz.1 (e_text hTz) (by omega) (p_go [] 40 ?_)
      simp only [st_0, st_1, st_2, st_3, st_4, st_5, st_6, st_7, st_8, st_9, st_10, st_11, st_12, st_13, st_14, st_15, st_16, st_17, st_18, st_19, st_20, st_21, st_22, st_23, st_24, st_25, st_26, st_27, st_28, st_29, st_30, st_31, st_32, st_33, st_34, st_34a, st_35, st_36, st_37, st_38, st_39, st_42, st_44, st_45, st_47, st_40, st_41, st_46, st_48, st_49, st_43, go_0, go_s, cut_0, cut_s, get_0, get_s, put_0, put_1, put_s, clr_0, clr_s, unl_i, unl_l, unl_r, unl_n, nth_0, nth_s, sf_0, sf_s, cnd_0, cnd_1, cnd_2, cnd_3, cnd_4, cnd_5, fit_0, fit_1, fit_2, en_0, en_i, en_l, en_r, kb_t, kb_f, kb_n, sw_0, sw_s, ↓reduceIte, Nat.reduceEqDiff, Nat.left_eq_add, Nat.add_eq_left, Nat.add_left_cancel_iff, Nat.reduceAdd, Int.reduceLT, Int.reduceLE, Int.reduceAdd, Int.reduceSub, Int.reduceNeg, Int.reduceMul, Int.reduceToNat, Int.reduceEq, reduceCtorEq, true_and, and_true, true_or, or_true, and_false, false_and, or_false, false_or, not_true_eq_false, not_false_eq_true, Nat.le_refl, and_self, Sum.inl.injEq, Sum.inr.injEq, Option.some.injEq, hS_2, k_isref, pd_0, pd_s, List.cons_append, List.nil_append, Option.toList_none, Option.toList_some, tX11_grammar, rX11_grammar, k1]
      refine cVT (d' := 5) (K' := 0) (N' := 0) [vR 13, vI n, vR sp] [] l_11_175 k30 hev (by omega) ?_ (fun E h' q => by cases q.1)
      intro r4 h4 hp
      obtain ⟨hp1, hp2, hpI⟩ := hp
      cases hp1
      have tl : ∀ (h5 : PH) (r : Int) (o e : Int), r ≠ 0 → (0 ≤ r ∧ r ≤ 6) → h5.2 1 = some (sdO sp pl) → h5.2 30 = some (prO 26 o e T.2.1) → P (rI (r - 10)) (hS h5 1 (sdO sp T.2.1)) → k_Wp x d 1 6 mX11_grammar P 1 6 44 [some (vR 1), some (vI n), some (vI r)] [] h5 := by
        intro h5 r o e hr hr2 m1 s3 hc
        refine p_go [] 40 ?_
        simp only [st_0, st_1, st_2, st_3, st_4, st_5, st_6, st_7, st_8, st_9, st_10, st_11, st_12, st_13, st_14, st_15, st_16, st_17, st_18, st_19, st_20, st_21, st_22, st_23, st_24, st_25, st_26, st_27, st_28, st_29, st_30, st_31, st_32, st_33, st_34, st_34a, st_35, st_36, st_37, st_38, st_39, st_42, st_44, st_45, st_47, st_40, st_41, st_46, st_48, st_49, st_43, go_0, go_s, cut_0, cut_s, get_0, get_s, put_0, put_1, put_s, clr_0, clr_s, unl_i, unl_l, unl_r, unl_n, nth_0, nth_s, sf_0, sf_s, cnd_0, cnd_1, cnd_2, cnd_3, cnd_4, cnd_5, fit_0, fit_1, fit_2, en_0, en_i, en_l, en_r, kb_t, kb_f, kb_n, sw_0, sw_s, ↓reduceIte, Nat.reduceEqDiff, Nat.left_eq_add, Nat.add_eq_left, Nat.add_left_cancel_iff, Nat.reduceAdd, Int.reduceLT, Int.reduceLE, Int.reduceAdd, Int.reduceSub, Int.reduceNeg, Int.reduceMul, Int.reduceToNat, Int.reduceEq, reduceCtorEq, true_and, and_true, true_or, or_true, and_false, false_and, or_false, false_or, not_true_eq_false, not_false_eq_true, Nat.le_refl, and_self, Sum.inl.injEq, Sum.inr.injEq, Option.some.injEq, hS_2, k_isref, pd_0, pd_s, List.cons_append, List.nil_append, Option.toList_none, Option.toList_some, tX11_grammar, rX11_grammar, hr, m1]
        refine cV (d' := 0) [] [vR 1] l_11_182 s3 (e_reached s3) (by omega) (p_go [] 40 ?_)
        simp only [st_0, st_1, st_2, st_3, st_4, st_5, st_6, st_7, st_8, st_9, st_10, st_11, st_12, st_13, st_14, st_15, st_16, st_17, st_18, st_19, st_20, st_21, st_22, st_23, st_24, st_25, st_26, st_27, st_28, st_29, st_30, st_31, st_32, st_33, st_34, st_34a, st_35, st_36, st_37, st_38, st_39, st_42, st_44, st_45, st_47, st_40, st_41, st_46, st_48, st_49, st_43, go_0, go_s, cut_0, cut_s, get_0, get_s, put_0, put_1, put_s, clr_0, clr_s, unl_i, unl_l, unl_r, unl_n, nth_0, nth_s, sf_0, sf_s, cnd_0, cnd_1, cnd_2, cnd_3, cnd_4, cnd_5, fit_0, fit_1, fit_2, en_0, en_i, en_l, en_r, kb_t, kb_f, kb_n, sw_0, sw_s, ↓reduceIte, Nat.reduceEqDiff, Nat.left_eq_add, Nat.add_eq_left, Nat.add_left_cancel_iff, Nat.reduceAdd, Int.reduceLT, Int.reduceLE, Int.reduceAdd, Int.reduceSub, Int.reduceNeg, Int.reduceMul, Int.reduceToNat, Int.reduceEq, reduceCtorEq, true_and, and_true, true_or, or_true, and_false, false_and, or_false, false_or, not_true_eq_false, not_false_eq_true, Nat.le_refl, and_self, Sum.inl.injEq, Sum.inr.injEq, Option.some.injEq, hS_2, k_isref, pd_0, pd_s, List.cons_append, List.nil_append, Option.toList_none, Option.toList_some, tX11_grammar, rX11_grammar, m1]
        exact ⟨⟨by omega, by omega⟩, hc⟩
      have m1 := (hp2.2.1 1 (by decide) (by omega) (by decide) (by decide)).trans k1
      refine p_go [44] 40 ?_
      by_cases hz : prE T = 0
      · rw [prF_z hz] at c1' c2' hb
        dsimp only at c1' c2' hb
        obtain ⟨i1, i2, i3, i4, i5, i6, i7, i8, i9⟩ := id hpI
        simp only [st_0, st_1, st_2, st_3, st_4, st_5, st_6, st_7, st_8, st_9, st_10, st_11, st_12, st_13, st_14, st_15, st_16, st_17, st_18, st_19, st_20, st_21, st_22, st_23, st_24, st_25, st_26, st_27, st_28, st_29, st_30, st_31, st_32, st_33, st_34, st_34a, st_35, st_36, st_37, st_38, st_39, st_42, st_44, st_45, st_47, st_40, st_41, st_46, st_48, st_49, st_43, go_0, go_s, cut_0, cut_s, get_0, get_s, put_0, put_1, put_s, clr_0, clr_s, unl_i, unl_l, unl_r, unl_n, nth_0, nth_s, sf_0, sf_s, cnd_0, cnd_1, cnd_2, cnd_3, cnd_4, cnd_5, fit_0, fit_1, fit_2, en_0, en_i, en_l, en_r, kb_t, kb_f, kb_n, sw_0, sw_s, ↓reduceIte, Nat.reduceEqDiff, Nat.left_eq_add, Nat.add_eq_left, Nat.add_left_cancel_iff, Nat.reduceAdd, Int.reduceLT, Int.reduceLE, Int.reduceAdd, Int.reduceSub, Int.reduceNeg, Int.reduceMul, Int.reduceToNat, Int.reduceEq, reduceCtorEq, true_and, and_true, true_or, or_true, and_false, false_and, or_false, false_or, not_true_eq_false, not_false_eq_true, Nat.le_refl, and_self, Sum.inl.injEq, Sum.inr.injEq, Option.some.injEq, hS_2, k_isref, pd_0, pd_s, List.cons_append, List.nil_append, Option.toList_none, Option.toList_some, tX11_grammar, rX11_grammar, hz, m1]
        refine cVT (d' := 5) (K' := 0) (N' := 0) (P' := fun o h' => ((mkS T.2.2 nw pk cl cs).1.1 ≠ 0 ∧ o = rI (mkS T.2.2 nw pk cl cs).1.1 ∧ ∃ nw', Ps h3 h' 30 26 sp 27 sz pn T.2.1 nw' pk cl cs T.2.2) ∨ ((mkS T.2.2 nw pk cl cs).1.1 = 0 ∧ o = rI 0 ∧ Ps h3 h' 30 26 sp 27 (mkS T.2.2 nw pk cl cs).1.2 T.2.2.2.1.2 T.2.1 (mkS T.2.2 nw pk cl cs).2.1 (mkS T.2.2 nw pk cl cs).2.2.1 (mkS T.2.2 nw pk cl cs).2.2.2.1 (mkS T.2.2 nw pk cl cs).2.2.2.2 T.2.2)) [] [] l_11_179 hp2.2.2.2.1.1 (e_gtake hp2.2.2.2.1 i5 hWc i3 i4 (Nat.le_refl 5) (fun k hk => ⟨(i7 k hk).1, by have := (i7 k hk).2; omega⟩) (fun k hk => (i8 k hk).2) (fun c h' nw' a b => Or.inl ⟨c, rfl, nw', hp2.gr (by decide) (by omega) a b⟩) (fun c h' a b => Or.inr ⟨c, rfl, hp2.gr (by decide) (by omega) a b⟩)) (by omega) ?_ (fun E h' q => by rcases q with ⟨_, q, _⟩ | ⟨_, q, _⟩ <;> cases q)
        intro r5 h5 q
        rcases q with ⟨qn, q3, nw', q4⟩ | ⟨qn, q3, q4⟩
        · cases q3
          refine p_go [44] 40 ?_
          simp only [st_0, st_1, st_2, st_3, st_4, st_5, st_6, st_7, st_8, st_9, st_10, st_11, st_12, st_13, st_14, st_15, st_16, st_17, st_18, st_19, st_20, st_21, st_22, st_23, st_24, st_25, st_26, st_27, st_28, st_29, st_30, st_31, st_32, st_33, st_34, st_34a, st_35, st_36, st_37, st_38, st_39, st_42, st_44, st_45, st_47, st_40, st_41, st_46, st_48, st_49, st_43, go_0, go_s, cut_0, cut_s, get_0, get_s, put_0, put_1, put_s, clr_0, clr_s, unl_i, unl_l, unl_r, unl_n, nth_0, nth_s, sf_0, sf_s, cnd_0, cnd_1, cnd_2, cnd_3, cnd_4, cnd_5, fit_0, fit_1, fit_2, en_0, en_i, en_l, en_r, kb_t, kb_f, kb_n, sw_0, sw_s, ↓reduceIte, Nat.reduceEqDiff, Nat.left_eq_add, Nat.add_eq_left, Nat.add_left_cancel_iff, Nat.reduceAdd, Int.reduceLT, Int.reduceLE, Int.reduceAdd, Int.reduceSub, Int.reduceNeg, Int.reduceMul, Int.reduceToNat, Int.reduceEq, reduceCtorEq, true_and, and_true, true_or, or_true, and_false, false_and, or_false, false_or, not_true_eq_false, not_false_eq_true, Nat.le_refl, and_self, Sum.inl.injEq, Sum.inr.injEq, Option.some.injEq, hS_2, k_isref, pd_0, pd_s, List.cons_append, List.nil_append, Option.toList_none, Option.toList_some, tX11_grammar, rX11_grammar]
          exact tl h5 _ _ _ qn hb ((q4.2.1 1 (by decide) (by omega) (by decide) (by decide)).trans k1) q4.2.2.1 (c1' qn h5 nw' q4)
        · cases q3
          rw [qn] at c2'
          rw [if_neg (by decide)] at c2'
          have hc := c2' rfl h5 q4
          have m5 := (q4.2.1 1 (by decide) (by omega) (by decide) (by decide)).trans k1
          have n1 : (hS h5 1 (sdO sp (-1))).2 1 = some (sdO sp (-1)) := hS_s _ _ _
          have n31 : (hS h5 1 (sdO sp (-1))).2 31 = some (neO kn ed Sn) := (hS_n (by decide)).trans ((q4.2.1 31 (by decide) (by omega) (by decide) (by decide)).trans k31)
          have n32 : (hS h5 1 (sdO sp (-1))).2 32 = some (heO 32 ac Sh) := (hS_n (by decide)).trans ((q4.2.1 32 (by decide) (by omega) (by decide) (by decide)).trans k32)
          have nG := (hS_n (h := h5) (c := sdO sp (-1)) (show sp ≠ 1 by omega)).trans q4.2.2.2.1.1
          refine p_go [] 60 ?_
          simp only [st_0, st_1, st_2, st_3, st_4, st_5, st_6, st_7, st_8, st_9, st_10, st_11, st_12, st_13, st_14, st_15, st_16, st_17, st_18, st_19, st_20, st_21, st_22, st_23, st_24, st_25, st_26, st_27, st_28, st_29, st_30, st_31, st_32, st_33, st_34, st_34a, st_35, st_36, st_37, st_38, st_39, st_42, st_44, st_45, st_47, st_40, st_41, st_46, st_48, st_49, st_43, go_0, go_s, cut_0, cut_s, get_0, get_s, put_0, put_1, put_s, clr_0, clr_s, unl_i, unl_l, unl_r, unl_n, nth_0, nth_s, sf_0, sf_s, cnd_0, cnd_1, cnd_2, cnd_3, cnd_4, cnd_5, fit_0, fit_1, fit_2, en_0, en_i, en_l, en_r, kb_t, kb_f, kb_n, sw_0, sw_s, ↓reduceIte, Nat.reduceEqDiff, Nat.left_eq_add, Nat.add_eq_left, Nat.add_left_cancel_iff, Nat.reduceAdd, Int.reduceLT, Int.reduceLE, Int.reduceAdd, Int.reduceSub, Int.reduceNeg, Int.reduceMul, Int.reduceToNat, Int.reduceEq, reduceCtorEq, true_and, and_true, true_or, or_true, and_false, false_and, or_false, false_or, not_true_eq_false, not_false_eq_true, Nat.le_refl, and_self, Sum.inl.injEq, Sum.inr.injEq, Option.some.injEq, hS_2, k_isref, pd_0, pd_s, List.cons_append, List.nil_append, Option.toList_none, Option.toList_some, tX11_grammar, rX11_grammar, m5]
          change k_Wp _ _ _ _ _ _ _ _ _ _ _ (hS h5 1 (sdO sp (-1)))
          generalize hS h5 1 (sdO sp (-1)) = h6' at n1 n31 n32 nG hc ⊢
          refine cV (d' := 0) [] [] l_11_185 n31 (e_nforget n31) (by omega) (p_go [] 40 ?_)
          have o1 := (hS_n (h := h6') (c := neO 0 ed Sn) (show 1 ≠ 31 by decide)).trans n1
          have o32 := (hS_n (h := h6') (c := neO 0 ed Sn) (show 32 ≠ 31 by decide)).trans n32
          have oG := (hS_n (h := h6') (c := neO 0 ed Sn) (show sp ≠ 31 by omega)).trans nG
          generalize hS h6' 31 (neO 0 ed Sn) = h7' at o1 o32 oG hc ⊢
          simp only [st_0, st_1, st_2, st_3, st_4, st_5, st_6, st_7, st_8, st_9, st_10, st_11, st_12, st_13, st_14, st_15, st_16, st_17, st_18, st_19, st_20, st_21, st_22, st_23, st_24, st_25, st_26, st_27, st_28, st_29, st_30, st_31, st_32, st_33, st_34, st_34a, st_35, st_36, st_37, st_38, st_39, st_42, st_44, st_45, st_47, st_40, st_41, st_46, st_48, st_49, st_43, go_0, go_s, cut_0, cut_s, get_0, get_s, put_0, put_1, put_s, clr_0, clr_s, unl_i, unl_l, unl_r, unl_n, nth_0, nth_s, sf_0, sf_s, cnd_0, cnd_1, cnd_2, cnd_3, cnd_4, cnd_5, fit_0, fit_1, fit_2, en_0, en_i, en_l, en_r, kb_t, kb_f, kb_n, sw_0, sw_s, ↓reduceIte, Nat.reduceEqDiff, Nat.left_eq_add, Nat.add_eq_left, Nat.add_left_cancel_iff, Nat.reduceAdd, Int.reduceLT, Int.reduceLE, Int.reduceAdd, Int.reduceSub, Int.reduceNeg, Int.reduceMul, Int.reduceToNat, Int.reduceEq, reduceCtorEq, true_and, and_true, true_or, or_true, and_false, false_and, or_false, false_or, not_true_eq_false, not_false_eq_true, Nat.le_refl, and_self, Sum.inl.injEq, Sum.inr.injEq, Option.some.injEq, hS_2, k_isref, pd_0, pd_s, List.cons_append, List.nil_append, Option.toList_none, Option.toList_some, tX11_grammar, rX11_grammar, o1]
          refine cV (d' := 0) [] [] l_11_188 o32 (e_hforget o32) (by omega) (p_go [] 40 ?_)
          have p1 := (hS_n (h := h7') (c := heO 32 0 (-1, -1, -1, -1)) (show 1 ≠ 32 by decide)).trans o1
          have pG := (hS_n (h := h7') (c := heO 32 0 (-1, -1, -1, -1)) (show sp ≠ 32 by omega)).trans oG
          generalize hS h7' 32 (heO 32 0 (-1, -1, -1, -1)) = h8' at p1 pG hc ⊢
          simp only [st_0, st_1, st_2, st_3, st_4, st_5, st_6, st_7, st_8, st_9, st_10, st_11, st_12, st_13, st_14, st_15, st_16, st_17, st_18, st_19, st_20, st_21, st_22, st_23, st_24, st_25, st_26, st_27, st_28, st_29, st_30, st_31, st_32, st_33, st_34, st_34a, st_35, st_36, st_37, st_38, st_39, st_42, st_44, st_45, st_47, st_40, st_41, st_46, st_48, st_49, st_43, go_0, go_s, cut_0, cut_s, get_0, get_s, put_0, put_1, put_s, clr_0, clr_s, unl_i, unl_l, unl_r, unl_n, nth_0, nth_s, sf_0, sf_s, cnd_0, cnd_1, cnd_2, cnd_3, cnd_4, cnd_5, fit_0, fit_1, fit_2, en_0, en_i, en_l, en_r, kb_t, kb_f, kb_n, sw_0, sw_s, ↓reduceIte, Nat.reduceEqDiff, Nat.left_eq_add, Nat.add_eq_left, Nat.add_left_cancel_iff, Nat.reduceAdd, Int.reduceLT, Int.reduceLE, Int.reduceAdd, Int.reduceSub, Int.reduceNeg, Int.reduceMul, Int.reduceToNat, Int.reduceEq, reduceCtorEq, true_and, and_true, true_or, or_true, and_false, false_and, or_false, false_or, not_true_eq_false, not_false_eq_true, Nat.le_refl, and_self, Sum.inl.injEq, Sum.inr.injEq, Option.some.injEq, hS_2, k_isref, pd_0, pd_s, List.cons_append, List.nil_append, Option.toList_none, Option.toList_some, tX11_grammar, rX11_grammar, p1]
          refine cV (d' := 0) [] [] l_11_189 pG (e_gsize pG) (by omega) (p_go [] 40 ?_)
          simp only [st_0, st_1, st_2, st_3, st_4, st_5, st_6, st_7, st_8, st_9, st_10, st_11, st_12, st_13, st_14, st_15, st_16, st_17, st_18, st_19, st_20, st_21, st_22, st_23, st_24, st_25, st_26, st_27, st_28, st_29, st_30, st_31, st_32, st_33, st_34, st_34a, st_35, st_36, st_37, st_38, st_39, st_42, st_44, st_45, st_47, st_40, st_41, st_46, st_48, st_49, st_43, go_0, go_s, cut_0, cut_s, get_0, get_s, put_0, put_1, put_s, clr_0, clr_s, unl_i, unl_l, unl_r, unl_n, nth_0, nth_s, sf_0, sf_s, cnd_0, cnd_1, cnd_2, cnd_3, cnd_4, cnd_5, fit_0, fit_1, fit_2, en_0, en_i, en_l, en_r, kb_t, kb_f, kb_n, sw_0, sw_s, ↓reduceIte, Nat.reduceEqDiff, Nat.left_eq_add, Nat.add_eq_left, Nat.add_left_cancel_iff, Nat.reduceAdd, Int.reduceLT, Int.reduceLE, Int.reduceAdd, Int.reduceSub, Int.reduceNeg, Int.reduceMul, Int.reduceToNat, Int.reduceEq, reduceCtorEq, true_and, and_true, true_or, or_true, and_false, false_and, or_false, false_or, not_true_eq_false, not_false_eq_true, Nat.le_refl, and_self, Sum.inl.injEq, Sum.inr.injEq, Option.some.injEq, hS_2, k_isref, pd_0, pd_s, List.cons_append, List.nil_append, Option.toList_none, Option.toList_some, tX11_grammar, rX11_grammar]
          exact hc
      · rw [prF_n hz] at c1' c2' hb
        dsimp only at c1' c2' hb
        simp only [st_0, st_1, st_2, st_3, st_4, st_5, st_6, st_7, st_8, st_9, st_10, st_11, st_12, st_13, st_14, st_15, st_16, st_17, st_18, st_19, st_20, st_21, st_22, st_23, st_24, st_25, st_26, st_27, st_28, st_29, st_30, st_31, st_32, st_33, st_34, st_34a, st_35, st_36, st_37, st_38, st_39, st_42, st_44, st_45, st_47, st_40, st_41, st_46, st_48, st_49, st_43, go_0, go_s, cut_0, cut_s, get_0, get_s, put_0, put_1, put_s, clr_0, clr_s, unl_i, unl_l, unl_r, unl_n, nth_0, nth_s, sf_0, sf_s, cnd_0, cnd_1, cnd_2, cnd_3, cnd_4, cnd_5, fit_0, fit_1, fit_2, en_0, en_i, en_l, en_r, kb_t, kb_f, kb_n, sw_0, sw_s, ↓reduceIte, Nat.reduceEqDiff, Nat.left_eq_add, Nat.add_eq_left, Nat.add_left_cancel_iff, Nat.reduceAdd, Int.reduceLT, Int.reduceLE, Int.reduceAdd, Int.reduceSub, Int.reduceNeg, Int.reduceMul, Int.reduceToNat, Int.reduceEq, reduceCtorEq, true_and, and_true, true_or, or_true, and_false, false_and, or_false, false_or, not_true_eq_false, not_false_eq_true, Nat.le_refl, and_self, Sum.inl.injEq, Sum.inr.injEq, Option.some.injEq, hS_2, k_isref, pd_0, pd_s, List.cons_append, List.nil_append, Option.toList_none, Option.toList_some, tX11_grammar, rX11_grammar, hz]
        exact tl h4 _ _ _ hz hb m1 hp2.2.2.1 (c1' hz h4 nw hp2)
    · cases q3
  · obtain ⟨rfl, ⟨_, q⟩ | ⟨q1, q⟩⟩ := q
    · cases q
    · cases q
      exact c0 q1
end Gram53
