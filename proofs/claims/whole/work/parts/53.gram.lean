/-! SpokenDesk: grammar -/
section Gram53
variable {x : Bool} {d : Nat} {h : PH} {sp sr : Nat} {pl : Int} {P : PO → PH → Prop} {f : F_} {R E : LxT}
theorem tkSign_b {v : Int} {S : PS} : 0 ≤ (tkSign v S).1 ∧ (tkSign v S).1 ≤ 6 := by
  obtain ⟨⟨o, e⟩, ⟨wc, pc⟩, ⟨wl, ws, wp, wq⟩, ⟨op, oq, pt, ob⟩, ⟨lf, sf⟩⟩ := S
  unfold tkSign tkOpen tkBar tkClose
  (repeat' split) <;> (simp only; omega)
theorem tkSpell_b {rc bh : Nat} {S : PS} : 0 ≤ (tkSpell R E f rc bh S).1 ∧ (tkSpell R E f rc bh S).1 ≤ 6 := by
  obtain ⟨⟨o, e⟩, ⟨wc, pc⟩, ⟨wl, ws, wp, wq⟩, ⟨op, oq, pt, ob⟩, ⟨lf, sf⟩⟩ := S
  unfold tkSpell
  (repeat' split) <;> (simp only; omega)
theorem prT_b {en rc : Nat} {S : PS} : 0 ≤ (prT R E f en rc S).1 ∧ (prT R E f en rc S).1 ≤ 6 := by
  unfold prT
  split
  · exact tkSpell_b
  · exact tkSign_b
theorem prs_b {en : Nat} : ∀ (j rc : Nat) (S : PS), 0 ≤ (prs R E f en j rc S).1 ∧ (prs R E f en j rc S).1 ≤ 6
  | 0, _, _ => by unfold prs; simp only; omega
  | j + 1, rc, S => by
    unfold prs
    split
    · simp only; omega
    · split
      · exact prT_b
      · exact prs_b j _ _
theorem mkc_b {wc pc : Nat} {wl ws wp wq op oq pt ob : F_} : ∀ (j made : Nat) (tl : Int) (nw pk cl cs : F_), 0 ≤ (mkc wc pc wl ws wp wq op oq pt ob j made tl nw pk cl cs).1.1 ∧ (mkc wc pc wl ws wp wq op oq pt ob j made tl nw pk cl cs).1.1 ≤ 6
  | 0, _, _, _, _, _, _ => by unfold mkc; simp only; omega
  | j + 1, made, tl, nw, pk, cl, cs => by
    unfold mkc
    split
    · simp only; split <;> omega
    · exact mkc_b j _ _ _ _ _ _
theorem prF_b {nw pk cl cs : F_} {T : Int × Nat × PS} (hT : 0 ≤ T.1 ∧ T.1 ≤ 6) : 0 ≤ (prF nw pk cl cs T).1 ∧ (prF nw pk cl cs T).1 ≤ 6 := by
  unfold prF
  split
  · exact hT
  · split
    · simp only; omega
    · exact mkc_b _ _ _ _ _ _ _
set_option maxRecDepth 100000 in
set_option maxHeartbeats 4000000 in
theorem e_reached {p rc : Nat} {o e : Int} (h1 : h.2 30 = some (prO p o e rc)) : k_Ev x d 0 0 mX6_reached [vR 30] h (fun o h' => o = rI rc ∧ h' = h) := by
  refine k_enp 0 (Nat.le_of_ble_eq_true rfl) (p_go [] 40 ?_)
  simp only [st_0, st_1, st_2, st_3, st_4, st_5, st_6, st_7, st_8, st_9, st_10, st_11, st_12, st_13, st_14, st_15, st_16, st_17, st_18, st_19, st_20, st_21, st_22, st_23, st_24, st_25, st_26, st_27, st_28, st_29, st_30, st_31, st_32, st_33, st_34, st_34a, st_35, st_36, st_37, st_38, st_39, st_42, st_44, st_45, st_47, st_40, st_41, st_46, st_48, st_49, st_43, go_0, go_s, cut_0, cut_s, get_0, get_s, put_0, put_1, put_s, clr_0, clr_s, unl_i, unl_l, unl_r, unl_n, nth_0, nth_s, sf_0, sf_s, cnd_0, cnd_1, cnd_2, cnd_3, cnd_4, cnd_5, fit_0, fit_1, fit_2, en_0, en_i, en_l, en_r, kb_t, kb_f, kb_n, sw_0, sw_s, ↓reduceIte, Nat.reduceEqDiff, Nat.left_eq_add, Nat.add_eq_left, Nat.add_left_cancel_iff, Nat.reduceAdd, Int.reduceLT, Int.reduceLE, Int.reduceAdd, Int.reduceSub, Int.reduceNeg, Int.reduceMul, Int.reduceToNat, Int.reduceEq, reduceCtorEq, true_and, and_true, true_or, or_true, and_false, false_and, or_false, false_or, not_true_eq_false, not_false_eq_true, Nat.le_refl, and_self, Sum.inl.injEq, Sum.inr.injEq, Option.some.injEq, hS_2, k_isref, pd_0, pd_s, List.cons_append, List.nil_append, Option.toList_none, Option.toList_some, tX6_reached, rX6_reached, h1]
/-- what parsing the tape into the spare grammar ends with -/
abbrev prA (R E : LxT) (f : F_) (n : Nat) (wl ws wp wq op oq pt ob lf sf nw pk cl cs : F_) := prF nw pk cl cs (prs R E f n (n + 1) 0 ((-1, 1), (0, 0), (wl, ws, wp, wq), (op, oq, pt, ob), (lf, sf)))
set_option maxRecDepth 100000 in
set_option maxHeartbeats 4000000 in
theorem e_grammar {z : Int} {nt wcs pcs szs wc0 pc0 sz0 rc0 ac : Nat} {o0 e0 kn ed : Int} {Sn : Int × Int × Int} {Sh : HS} {wl ws wp wq op oq pt ob lf sf nw pk cl cs : F_} (h1 : h.2 1 = some (sdO sp sr pl)) (hT : Tp h 12 nt f) (hnt : nt ≤ 400) (hE : Env h 13 26 14 20 27 f R E) (hEI : EnvI R E) (hA : h.2 30 = some (prO 26 o0 e0 rc0)) (hG : Gr h sr wl ws wp wq op oq pt ob nw pk cl cs wc0 pc0 sz0) (hW : RwW 20 20 wl) (hWc : RwW 40 120 cl) (h5 : h.2 28 = some (cI 1 lf)) (h6 : h.2 29 = some (cI 20 sf)) (h7 : 0 ≤ lf 0 ∧ lf 0 ≤ 20)
    (hN : h.2 31 = some (neO kn ed Sn)) (hH : h.2 32 = some (heO 32 ac Sh)) (hsr : 32 < sr) (hd : 7 ≤ d)
    (c0 : ¬ (0 ≤ z ∧ z ≤ nt) → P (.inr (k_E 0)) h)
    (c1 : 0 ≤ z ∧ z ≤ nt → (prA R E f z.toNat wl ws wp wq op oq pt ob lf sf nw pk cl cs).1 ≠ 0 → ∀ h', PrP (tpZ h) 30 26 sr 27 (prA R E f z.toNat wl ws wp wq op oq pt ob lf sf nw pk cl cs) (rI (prA R E f z.toNat wl ws wp wq op oq pt ob lf sf nw pk cl cs).1) h' → P (rI ((prA R E f z.toNat wl ws wp wq op oq pt ob lf sf nw pk cl cs).1 - 10)) (hS h' 1 (sdO sp sr (prA R E f z.toNat wl ws wp wq op oq pt ob lf sf nw pk cl cs).2.1.1)))
    (c2 : 0 ≤ z ∧ z ≤ nt → (prA R E f z.toNat wl ws wp wq op oq pt ob lf sf nw pk cl cs).1 = 0 → ∀ h', PrP (tpZ h) 30 26 sr 27 (prA R E f z.toNat wl ws wp wq op oq pt ob lf sf nw pk cl cs) (rI (prA R E f z.toNat wl ws wp wq op oq pt ob lf sf nw pk cl cs).1) h' → P (rI (prA R E f z.toNat wl ws wp wq op oq pt ob lf sf nw pk cl cs).2.1.2) (hS (hS (hS h' 1 (sdO sr sp (-1))) 31 (neO 0 ed Sn)) 32 (heO 32 0 (-1, -1, -1, -1)))) :
    k_Ev x d 1 6 mX11_grammar [vR 1, vI z] h P := by
  have hTz : Tp (tpZ h) 12 0 f := ⟨hS_s _ _ _, (hS_n (by decide)).trans hT.2⟩
  have hz : ∀ z, z ≠ 12 → (tpZ h).2 z = h.2 z := fun z z1 => hS_n z1
  have k1 := (hz 1 (by decide)).trans h1
  have k30 := (hz 30 (by decide)).trans hA
  have kE : Env (tpZ h) 13 26 14 20 27 f R E := ⟨(hz _ (by decide)).trans hE.1, hE.2.1.fr (fun z _ _ => hz z (by omega)), hE.2.2.1.fr (fun z _ _ => hz z (by omega)), (hz _ (by decide)).trans hE.2.2.2.1, (hz _ (by decide)).trans hE.2.2.2.2⟩
  have k31 := (hz 31 (by decide)).trans hN
  have k32 := (hz 32 (by decide)).trans hH
  have k5 := (hz 28 (by decide)).trans h5
  have k6 := (hz 29 (by decide)).trans h6
  have kG : Gr (tpZ h) sr wl ws wp wq op oq pt ob nw pk cl cs wc0 pc0 sz0 := by
    obtain ⟨g1, gR, g4, g5, g6, g7, g8, g9, g10, g11, gC⟩ := hG
    exact ⟨(hz _ (by omega)).trans g1, gR.off (by omega) (by omega) (by omega), (hz _ (by omega)).trans g4, (hz _ (by omega)).trans g5, (hz _ (by omega)).trans g6, (hz _ (by omega)).trans g7, (hz _ (by omega)).trans g8, (hz _ (by omega)).trans g9, (hz _ (by omega)).trans g10, (hz _ (by omega)).trans g11, gC.off (by omega) (by omega) (by omega)⟩
  refine k_enp 2 (Nat.le_of_ble_eq_true rfl) (p_go [] 40 ?_)
  simp only [st_0, st_1, st_2, st_3, st_4, st_5, st_6, st_7, st_8, st_9, st_10, st_11, st_12, st_13, st_14, st_15, st_16, st_17, st_18, st_19, st_20, st_21, st_22, st_23, st_24, st_25, st_26, st_27, st_28, st_29, st_30, st_31, st_32, st_33, st_34, st_34a, st_35, st_36, st_37, st_38, st_39, st_42, st_44, st_45, st_47, st_40, st_41, st_46, st_48, st_49, st_43, go_0, go_s, cut_0, cut_s, get_0, get_s, put_0, put_1, put_s, clr_0, clr_s, unl_i, unl_l, unl_r, unl_n, nth_0, nth_s, sf_0, sf_s, cnd_0, cnd_1, cnd_2, cnd_3, cnd_4, cnd_5, fit_0, fit_1, fit_2, en_0, en_i, en_l, en_r, kb_t, kb_f, kb_n, sw_0, sw_s, ↓reduceIte, Nat.reduceEqDiff, Nat.left_eq_add, Nat.add_eq_left, Nat.add_left_cancel_iff, Nat.reduceAdd, Int.reduceLT, Int.reduceLE, Int.reduceAdd, Int.reduceSub, Int.reduceNeg, Int.reduceMul, Int.reduceToNat, Int.reduceEq, reduceCtorEq, true_and, and_true, true_or, or_true, and_false, false_and, or_false, false_or, not_true_eq_false, not_false_eq_true, Nat.le_refl, and_self, Sum.inl.injEq, Sum.inr.injEq, Option.some.injEq, hS_2, k_isref, pd_0, pd_s, List.cons_append, List.nil_append, Option.toList_none, Option.toList_some, tX11_grammar, rX11_grammar]
  refine cVT (d' := 6) [vI z] [] l_11_154 h1 (e_needBytes h1 hT (Nat.le_refl 6) z) (by omega) ?_ (fun E h' q => ?_)
  · intro r1 h2 ⟨q1, q2⟩
    subst q1
    rcases q2 with ⟨q2, q3⟩ | ⟨q2, q3⟩
    · cases q3
      obtain ⟨n, en⟩ : ∃ n : Nat, z = (n : Int) := ⟨z.toNat, by omega⟩
      subst en
      simp only [Int.toNat_natCast] at c1 c2
      have hev := e_parse (x := x) (d := 5) (a := 30) (nw := nw) (pk := pk) (cs := cs) (n := n) kE hEI ⟨by decide, by decide, by decide, by decide⟩ (by omega) (by decide) (by omega) (Nat.le_refl 5) k30 kG hW hWc k5 k6 h7
      have hb : 0 ≤ (prA R E f n wl ws wp wq op oq pt ob lf sf nw pk cl cs).1 ∧ (prA R E f n wl ws wp wq op oq pt ob lf sf nw pk cl cs).1 ≤ 6 := prF_b (prs_b _ _ _)
      have c1' := c1 q2
      have c2' := c2 q2
      clear c1 c2
      change k_Ev x 5 0 0 mX6_parse [vR 30, vR 13, vI n, vR sr] (tpZ h2) (PrP (tpZ h2) 30 26 sr 27 (prA R E f n wl ws wp wq op oq pt ob lf sf nw pk cl cs)) at hev
      generalize (prA R E f n wl ws wp wq op oq pt ob lf sf nw pk cl cs) = F at hev hb c1' c2'
      refine p_go [] 40 ?_
      simp only [st_0, st_1, st_2, st_3, st_4, st_5, st_6, st_7, st_8, st_9, st_10, st_11, st_12, st_13, st_14, st_15, st_16, st_17, st_18, st_19, st_20, st_21, st_22, st_23, st_24, st_25, st_26, st_27, st_28, st_29, st_30, st_31, st_32, st_33, st_34, st_34a, st_35, st_36, st_37, st_38, st_39, st_42, st_44, st_45, st_47, st_40, st_41, st_46, st_48, st_49, st_43, go_0, go_s, cut_0, cut_s, get_0, get_s, put_0, put_1, put_s, clr_0, clr_s, unl_i, unl_l, unl_r, unl_n, nth_0, nth_s, sf_0, sf_s, cnd_0, cnd_1, cnd_2, cnd_3, cnd_4, cnd_5, fit_0, fit_1, fit_2, en_0, en_i, en_l, en_r, kb_t, kb_f, kb_n, sw_0, sw_s, ↓reduceIte, Nat.reduceEqDiff, Nat.left_eq_add, Nat.add_eq_left, Nat.add_left_cancel_iff, Nat.reduceAdd, Int.reduceLT, Int.reduceLE, Int.reduceAdd, Int.reduceSub, Int.reduceNeg, Int.reduceMul, Int.reduceToNat, Int.reduceEq, reduceCtorEq, true_and, and_true, true_or, or_true, and_false, false_and, or_false, false_or, not_true_eq_false, not_false_eq_true, Nat.le_refl, and_self, Sum.inl.injEq, Sum.inr.injEq, Option.some.injEq, hS_2, k_isref, pd_0, pd_s, List.cons_append, List.nil_append, Option.toList_none, Option.toList_some, tX11_grammar, rX11_grammar, h1]
      refine cV (d' := 0) [] [] l_11_172 hT.1 (e_tclear hT) (by omega) (p_go [] 40 ?_)
      change k_go _ _ _ _ _ _ _ _ _ _ _ _ _ (tpZ h2)
      generalize tpZ h2 = h3 at hTz k1 k30 k31 k32 hev c1' c2' ⊢
      simp only [st_0, st_1, st_2, st_3, st_4, st_5, st_6, st_7, st_8, st_9, st_10, st_11, st_12, st_13, st_14, st_15, st_16, st_17, st_18, st_19, st_20, st_21, st_22, st_23, st_24, st_25, st_26, st_27, st_28, st_29, st_30, st_31, st_32, st_33, st_34, st_34a, st_35, st_36, st_37, st_38, st_39, st_42, st_44, st_45, st_47, st_40, st_41, st_46, st_48, st_49, st_43, go_0, go_s, cut_0, cut_s, get_0, get_s, put_0, put_1, put_s, clr_0, clr_s, unl_i, unl_l, unl_r, unl_n, nth_0, nth_s, sf_0, sf_s, cnd_0, cnd_1, cnd_2, cnd_3, cnd_4, cnd_5, fit_0, fit_1, fit_2, en_0, en_i, en_l, en_r, kb_t, kb_f, kb_n, sw_0, sw_s, ↓reduceIte, Nat.reduceEqDiff, Nat.left_eq_add, Nat.add_eq_left, Nat.add_left_cancel_iff, Nat.reduceAdd, Int.reduceLT, Int.reduceLE, Int.reduceAdd, Int.reduceSub, Int.reduceNeg, Int.reduceMul, Int.reduceToNat, Int.reduceEq, reduceCtorEq, true_and, and_true, true_or, or_true, and_false, false_and, or_false, false_or, not_true_eq_false, not_false_eq_true, Nat.le_refl, and_self, Sum.inl.injEq, Sum.inr.injEq, Option.some.injEq, hS_2, k_isref, pd_0, pd_s, List.cons_append, List.nil_append, Option.toList_none, Option.toList_some, tX11_grammar, rX11_grammar, k1]
      refine cV (d' := 0) [] [vR 30] l_11_174 hTz.1 (e_text hTz) (by omega) (p_go [] 40 ?_)
      simp only [st_0, st_1, st_2, st_3, st_4, st_5, st_6, st_7, st_8, st_9, st_10, st_11, st_12, st_13, st_14, st_15, st_16, st_17, st_18, st_19, st_20, st_21, st_22, st_23, st_24, st_25, st_26, st_27, st_28, st_29, st_30, st_31, st_32, st_33, st_34, st_34a, st_35, st_36, st_37, st_38, st_39, st_42, st_44, st_45, st_47, st_40, st_41, st_46, st_48, st_49, st_43, go_0, go_s, cut_0, cut_s, get_0, get_s, put_0, put_1, put_s, clr_0, clr_s, unl_i, unl_l, unl_r, unl_n, nth_0, nth_s, sf_0, sf_s, cnd_0, cnd_1, cnd_2, cnd_3, cnd_4, cnd_5, fit_0, fit_1, fit_2, en_0, en_i, en_l, en_r, kb_t, kb_f, kb_n, sw_0, sw_s, ↓reduceIte, Nat.reduceEqDiff, Nat.left_eq_add, Nat.add_eq_left, Nat.add_left_cancel_iff, Nat.reduceAdd, Int.reduceLT, Int.reduceLE, Int.reduceAdd, Int.reduceSub, Int.reduceNeg, Int.reduceMul, Int.reduceToNat, Int.reduceEq, reduceCtorEq, true_and, and_true, true_or, or_true, and_false, false_and, or_false, false_or, not_true_eq_false, not_false_eq_true, Nat.le_refl, and_self, Sum.inl.injEq, Sum.inr.injEq, Option.some.injEq, hS_2, k_isref, pd_0, pd_s, List.cons_append, List.nil_append, Option.toList_none, Option.toList_some, tX11_grammar, rX11_grammar, k1]
      refine cVT (d' := 5) (K' := 0) (N' := 0) [vR 13, vI n, vR sr] [] l_11_178 k30 hev (by omega) ?_ (fun E h' q => by cases q.1)
      intro r4 h4 hp
      have hp1 := hp.1
      cases hp1
      obtain ⟨s1, s2, s3, s4, s5, s6⟩ := id hp.2
      have m1 := (s2 1 (by decide) (by omega) (by decide) (by decide)).trans k1
      by_cases hF : F.1 = 0
      · have hc := c2' hF h4 hp
        have n1 : (hS h4 1 (sdO sr sp (-1))).2 1 = some (sdO sr sp (-1)) := hS_s _ _ _
        have n31 : (hS h4 1 (sdO sr sp (-1))).2 31 = some (neO kn ed Sn) := (hS_n (by decide)).trans ((s2 31 (by decide) (by omega) (by decide) (by decide)).trans k31)
        have n32 : (hS h4 1 (sdO sr sp (-1))).2 32 = some (heO 32 ac Sh) := (hS_n (by decide)).trans ((s2 32 (by decide) (by omega) (by decide) (by decide)).trans k32)
        have nG := (hS_n (h := h4) (c := sdO sr sp (-1)) (show sr ≠ 1 by omega)).trans s4.1
        refine p_go [] 60 ?_
        simp only [st_0, st_1, st_2, st_3, st_4, st_5, st_6, st_7, st_8, st_9, st_10, st_11, st_12, st_13, st_14, st_15, st_16, st_17, st_18, st_19, st_20, st_21, st_22, st_23, st_24, st_25, st_26, st_27, st_28, st_29, st_30, st_31, st_32, st_33, st_34, st_34a, st_35, st_36, st_37, st_38, st_39, st_42, st_44, st_45, st_47, st_40, st_41, st_46, st_48, st_49, st_43, go_0, go_s, cut_0, cut_s, get_0, get_s, put_0, put_1, put_s, clr_0, clr_s, unl_i, unl_l, unl_r, unl_n, nth_0, nth_s, sf_0, sf_s, cnd_0, cnd_1, cnd_2, cnd_3, cnd_4, cnd_5, fit_0, fit_1, fit_2, en_0, en_i, en_l, en_r, kb_t, kb_f, kb_n, sw_0, sw_s, ↓reduceIte, Nat.reduceEqDiff, Nat.left_eq_add, Nat.add_eq_left, Nat.add_left_cancel_iff, Nat.reduceAdd, Int.reduceLT, Int.reduceLE, Int.reduceAdd, Int.reduceSub, Int.reduceNeg, Int.reduceMul, Int.reduceToNat, Int.reduceEq, reduceCtorEq, true_and, and_true, true_or, or_true, and_false, false_and, or_false, false_or, not_true_eq_false, not_false_eq_true, Nat.le_refl, and_self, Sum.inl.injEq, Sum.inr.injEq, Option.some.injEq, hS_2, k_isref, pd_0, pd_s, List.cons_append, List.nil_append, Option.toList_none, Option.toList_some, tX11_grammar, rX11_grammar, hF, m1, hS_hS]
        generalize hS h4 1 (sdO sr sp (-1)) = h5 at n1 n31 n32 nG hc ⊢
        refine cV (d' := 0) [] [] l_11_185 n31 (e_nforget n31) (by omega) (p_go [] 40 ?_)
        have o1 := (hS_n (h := h5) (c := neO 0 ed Sn) (show 1 ≠ 31 by decide)).trans n1
        have o32 := (hS_n (h := h5) (c := neO 0 ed Sn) (show 32 ≠ 31 by decide)).trans n32
        have oG := (hS_n (h := h5) (c := neO 0 ed Sn) (show sr ≠ 31 by omega)).trans nG
        generalize hS h5 31 (neO 0 ed Sn) = h6' at o1 o32 oG hc ⊢
        simp only [st_0, st_1, st_2, st_3, st_4, st_5, st_6, st_7, st_8, st_9, st_10, st_11, st_12, st_13, st_14, st_15, st_16, st_17, st_18, st_19, st_20, st_21, st_22, st_23, st_24, st_25, st_26, st_27, st_28, st_29, st_30, st_31, st_32, st_33, st_34, st_34a, st_35, st_36, st_37, st_38, st_39, st_42, st_44, st_45, st_47, st_40, st_41, st_46, st_48, st_49, st_43, go_0, go_s, cut_0, cut_s, get_0, get_s, put_0, put_1, put_s, clr_0, clr_s, unl_i, unl_l, unl_r, unl_n, nth_0, nth_s, sf_0, sf_s, cnd_0, cnd_1, cnd_2, cnd_3, cnd_4, cnd_5, fit_0, fit_1, fit_2, en_0, en_i, en_l, en_r, kb_t, kb_f, kb_n, sw_0, sw_s, ↓reduceIte, Nat.reduceEqDiff, Nat.left_eq_add, Nat.add_eq_left, Nat.add_left_cancel_iff, Nat.reduceAdd, Int.reduceLT, Int.reduceLE, Int.reduceAdd, Int.reduceSub, Int.reduceNeg, Int.reduceMul, Int.reduceToNat, Int.reduceEq, reduceCtorEq, true_and, and_true, true_or, or_true, and_false, false_and, or_false, false_or, not_true_eq_false, not_false_eq_true, Nat.le_refl, and_self, Sum.inl.injEq, Sum.inr.injEq, Option.some.injEq, hS_2, k_isref, pd_0, pd_s, List.cons_append, List.nil_append, Option.toList_none, Option.toList_some, tX11_grammar, rX11_grammar, o1]
        refine cV (d' := 0) [] [] l_11_188 o32 (e_hforget o32) (by omega) (p_go [] 40 ?_)
        have p1 := (hS_n (h := h6') (c := heO 32 0 (-1, -1, -1, -1)) (show 1 ≠ 32 by decide)).trans o1
        have pG := (hS_n (h := h6') (c := heO 32 0 (-1, -1, -1, -1)) (show sr ≠ 32 by omega)).trans oG
        generalize hS h6' 32 (heO 32 0 (-1, -1, -1, -1)) = h7' at p1 pG hc ⊢
        simp only [st_0, st_1, st_2, st_3, st_4, st_5, st_6, st_7, st_8, st_9, st_10, st_11, st_12, st_13, st_14, st_15, st_16, st_17, st_18, st_19, st_20, st_21, st_22, st_23, st_24, st_25, st_26, st_27, st_28, st_29, st_30, st_31, st_32, st_33, st_34, st_34a, st_35, st_36, st_37, st_38, st_39, st_42, st_44, st_45, st_47, st_40, st_41, st_46, st_48, st_49, st_43, go_0, go_s, cut_0, cut_s, get_0, get_s, put_0, put_1, put_s, clr_0, clr_s, unl_i, unl_l, unl_r, unl_n, nth_0, nth_s, sf_0, sf_s, cnd_0, cnd_1, cnd_2, cnd_3, cnd_4, cnd_5, fit_0, fit_1, fit_2, en_0, en_i, en_l, en_r, kb_t, kb_f, kb_n, sw_0, sw_s, ↓reduceIte, Nat.reduceEqDiff, Nat.left_eq_add, Nat.add_eq_left, Nat.add_left_cancel_iff, Nat.reduceAdd, Int.reduceLT, Int.reduceLE, Int.reduceAdd, Int.reduceSub, Int.reduceNeg, Int.reduceMul, Int.reduceToNat, Int.reduceEq, reduceCtorEq, true_and, and_true, true_or, or_true, and_false, false_and, or_false, false_or, not_true_eq_false, not_false_eq_true, Nat.le_refl, and_self, Sum.inl.injEq, Sum.inr.injEq, Option.some.injEq, hS_2, k_isref, pd_0, pd_s, List.cons_append, List.nil_append, Option.toList_none, Option.toList_some, tX11_grammar, rX11_grammar, p1]
        refine cV (d' := 0) [] [] l_11_189 pG (e_gsize pG) (by omega) (p_go [] 40 ?_)
        simp only [st_0, st_1, st_2, st_3, st_4, st_5, st_6, st_7, st_8, st_9, st_10, st_11, st_12, st_13, st_14, st_15, st_16, st_17, st_18, st_19, st_20, st_21, st_22, st_23, st_24, st_25, st_26, st_27, st_28, st_29, st_30, st_31, st_32, st_33, st_34, st_34a, st_35, st_36, st_37, st_38, st_39, st_42, st_44, st_45, st_47, st_40, st_41, st_46, st_48, st_49, st_43, go_0, go_s, cut_0, cut_s, get_0, get_s, put_0, put_1, put_s, clr_0, clr_s, unl_i, unl_l, unl_r, unl_n, nth_0, nth_s, sf_0, sf_s, cnd_0, cnd_1, cnd_2, cnd_3, cnd_4, cnd_5, fit_0, fit_1, fit_2, en_0, en_i, en_l, en_r, kb_t, kb_f, kb_n, sw_0, sw_s, ↓reduceIte, Nat.reduceEqDiff, Nat.left_eq_add, Nat.add_eq_left, Nat.add_left_cancel_iff, Nat.reduceAdd, Int.reduceLT, Int.reduceLE, Int.reduceAdd, Int.reduceSub, Int.reduceNeg, Int.reduceMul, Int.reduceToNat, Int.reduceEq, reduceCtorEq, true_and, and_true, true_or, or_true, and_false, false_and, or_false, false_or, not_true_eq_false, not_false_eq_true, Nat.le_refl, and_self, Sum.inl.injEq, Sum.inr.injEq, Option.some.injEq, hS_2, k_isref, pd_0, pd_s, List.cons_append, List.nil_append, Option.toList_none, Option.toList_some, tX11_grammar, rX11_grammar]
        exact hc
      · have hc := c1' hF h4 hp
        refine p_go [] 40 ?_
        simp only [st_0, st_1, st_2, st_3, st_4, st_5, st_6, st_7, st_8, st_9, st_10, st_11, st_12, st_13, st_14, st_15, st_16, st_17, st_18, st_19, st_20, st_21, st_22, st_23, st_24, st_25, st_26, st_27, st_28, st_29, st_30, st_31, st_32, st_33, st_34, st_34a, st_35, st_36, st_37, st_38, st_39, st_42, st_44, st_45, st_47, st_40, st_41, st_46, st_48, st_49, st_43, go_0, go_s, cut_0, cut_s, get_0, get_s, put_0, put_1, put_s, clr_0, clr_s, unl_i, unl_l, unl_r, unl_n, nth_0, nth_s, sf_0, sf_s, cnd_0, cnd_1, cnd_2, cnd_3, cnd_4, cnd_5, fit_0, fit_1, fit_2, en_0, en_i, en_l, en_r, kb_t, kb_f, kb_n, sw_0, sw_s, ↓reduceIte, Nat.reduceEqDiff, Nat.left_eq_add, Nat.add_eq_left, Nat.add_left_cancel_iff, Nat.reduceAdd, Int.reduceLT, Int.reduceLE, Int.reduceAdd, Int.reduceSub, Int.reduceNeg, Int.reduceMul, Int.reduceToNat, Int.reduceEq, reduceCtorEq, true_and, and_true, true_or, or_true, and_false, false_and, or_false, false_or, not_true_eq_false, not_false_eq_true, Nat.le_refl, and_self, Sum.inl.injEq, Sum.inr.injEq, Option.some.injEq, hS_2, k_isref, pd_0, pd_s, List.cons_append, List.nil_append, Option.toList_none, Option.toList_some, tX11_grammar, rX11_grammar, hF, m1]
        refine cV (d' := 0) [] [vR 1] l_11_182 s3 (e_reached s3) (by omega) (p_go [] 40 ?_)
        simp only [st_0, st_1, st_2, st_3, st_4, st_5, st_6, st_7, st_8, st_9, st_10, st_11, st_12, st_13, st_14, st_15, st_16, st_17, st_18, st_19, st_20, st_21, st_22, st_23, st_24, st_25, st_26, st_27, st_28, st_29, st_30, st_31, st_32, st_33, st_34, st_34a, st_35, st_36, st_37, st_38, st_39, st_42, st_44, st_45, st_47, st_40, st_41, st_46, st_48, st_49, st_43, go_0, go_s, cut_0, cut_s, get_0, get_s, put_0, put_1, put_s, clr_0, clr_s, unl_i, unl_l, unl_r, unl_n, nth_0, nth_s, sf_0, sf_s, cnd_0, cnd_1, cnd_2, cnd_3, cnd_4, cnd_5, fit_0, fit_1, fit_2, en_0, en_i, en_l, en_r, kb_t, kb_f, kb_n, sw_0, sw_s, ↓reduceIte, Nat.reduceEqDiff, Nat.left_eq_add, Nat.add_eq_left, Nat.add_left_cancel_iff, Nat.reduceAdd, Int.reduceLT, Int.reduceLE, Int.reduceAdd, Int.reduceSub, Int.reduceNeg, Int.reduceMul, Int.reduceToNat, Int.reduceEq, reduceCtorEq, true_and, and_true, true_or, or_true, and_false, false_and, or_false, false_or, not_true_eq_false, not_false_eq_true, Nat.le_refl, and_self, Sum.inl.injEq, Sum.inr.injEq, Option.some.injEq, hS_2, k_isref, pd_0, pd_s, List.cons_append, List.nil_append, Option.toList_none, Option.toList_some, tX11_grammar, rX11_grammar, m1]
        exact ⟨⟨by omega, by omega⟩, hc⟩
    · cases q3
  · obtain ⟨rfl, ⟨_, q⟩ | ⟨q1, q⟩⟩ := q
    · cases q
    · cases q
      exact c0 q1
end Gram53
