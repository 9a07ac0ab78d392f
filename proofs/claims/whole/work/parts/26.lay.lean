/-! Measure.lay, reach as a distance of two rows -/
def acf (a : Nat → Nat) : F_
  | 0 => 0
  | c + 1 => (a c : Int)
def flf (N : F_) (a : Nat → Nat) : F_
  | 0 => 0
  | c + 1 => flf N a c + N (a c)
/-- the distance of two rows: la of a, lb of b -/
def ds (N : F_) (a : Nat → Nat) (la : Nat) (b : Nat → Nat) (lb : Nat) : Int := lns N (acf a) (flf N a) b lb la
theorem nxl_congr {e e' : F_} {al : Int} {nb nb' n0 n0' : F_} {w : Nat} (h1 : ∀ c, c ≤ w → e c = e' c) (h2 : ∀ c, c ≤ w → nb c = nb' c) (h3 : ∀ c, c ≤ w → n0 c = n0' c) : ∀ c, c ≤ w → nxl e al nb n0 c = nxl e' al nb' n0' c
  | 0, hc => by simp only [nxl]; rw [h1 0 hc]
  | c + 1, hc => by simp only [nxl]; rw [h1 (c + 1) hc, h1 c (by omega), h2 (c + 1) hc, h3 (c + 1) hc, nxl_congr h1 h2 h3 c (by omega)]
theorem lns_congr {N ac ac' fl fl' : F_} {sd : Nat → Nat} {w : Nat} (h1 : ∀ c, c ≤ w → ac c = ac' c) (h2 : ∀ c, c ≤ w → fl c = fl' c) : ∀ (i c : Nat), c ≤ w → lns N ac fl sd i c = lns N ac' fl' sd i c
  | 0, c, hc => h2 c hc
  | i + 1, c, hc => by
    simp only [lns, nl]
    exact nxl_congr (fun c hc => lns_congr h1 h2 i c hc) (fun c hc => by rw [h1 c hc]) (fun c hc => by rw [h1 c hc]) c hc
theorem flf_b {N : F_} {a : Nat → Nat} (hN : cOk N) : ∀ (c : Nat), (∀ i, i < c → a i < 17) → 0 ≤ flf N a c ∧ flf N a c ≤ 100 * c
  | 0, _ => by simp [flf]
  | c + 1, h => by
    have := flf_b hN c (fun i hi => h i (by omega))
    have := hN.2 (a c) (by have := h c (by omega); omega)
    simp only [flf]; omega
/-- a row is laid down: w sounds a -/
def MsA (h : PH) (N : F_) (w : Nat) (a : Nat → Nat) : Prop := ∃ (lo hi : Int) (ac fl ln : F_), h.2 5 = some (mo w lo hi) ∧ h.2 6 = some (cI 41 ac) ∧ h.2 7 = some (cI 41 fl) ∧ h.2 8 = some (cI 41 ln) ∧ (∀ c, c ≤ w → ac c = acf a c ∧ fl c = flf N a c) ∧ w ≤ 40 ∧ ∀ c, c < w → a c < 17
/-- the measure is there -/
def MsZ (h : PH) : Prop := ∃ (w lo hi : Int) (ac fl ln : F_), h.2 5 = some (mo w lo hi) ∧ h.2 6 = some (cI 41 ac) ∧ h.2 7 = some (cI 41 fl) ∧ h.2 8 = some (cI 41 ln) ∧ ac 0 = 0 ∧ fl 0 = 0
theorem MsA.Z {h : PH} {N : F_} {w : Nat} {a : Nat → Nat} (hA : MsA h N w a) : MsZ h := by
  obtain ⟨lo, hi, ac, fl, ln, h5, h6, h7, h8, hh, -⟩ := hA
  exact ⟨w, lo, hi, ac, fl, ln, h5, h6, h7, h8, (hh 0 (Nat.zero_le _)).1, (hh 0 (Nat.zero_le _)).2⟩
section Lay26
variable {x : Bool} {d : Nat} {h : PH} {N : F_} {w : Nat} {a : Nat → Nat}
set_option maxRecDepth 100000 in
set_option maxHeartbeats 4000000 in
theorem e_reach {q' w' n' r m : Nat} {lf sf : F_} {L : Int} {sd : Nat → Nat} (hA : MsA h N w a) (hN : h.2 4 = some (cI 289 N)) (hR : Rw h q' w' n' lf sf) (hW : RwW w' n' lf) (hr : r < n') (hm : lf r = m) (hm40 : m ≤ 40) (hq : 8 < q')
    (hs : ∀ i, i < m → sf (r * w' + i) = (sd i : Int) - 1 ∧ sd i < 17) (hNo : cOk N) (hL : 0 ≤ L ∧ L ≤ 1000000) (hd : 2 ≤ d) :
    k_Ev x d 0 0 mX4_reach [vR 5, vR q', vI r, vI L] h (fun o h' => o = rI (rch L (ds N a w sd m)) ∧ ∃ (g : F_) (lo hi : Int), h' = hS (hS h 8 (cI 41 g)) 5 (mo w lo hi)) := by
  obtain ⟨lo, hi, ac, fl, ln, h5, h6, h7, h8, hh, hw, ha⟩ := hA
  have hac : acOk ac w := ⟨(hh 0 (Nat.zero_le _)).1, fun c hc => by
    rw [(hh c hc).1]
    cases c with
    | zero => simp [acf]
    | succ c => have := ha c (by omega); simp only [acf]; omega⟩
  have hfb : ∀ k, k ≤ w → 0 ≤ fl k ∧ fl k ≤ 1000000 := fun k hk => by
    have := flf_b hNo k (fun i hi => ha i (by omega))
    rw [(hh k hk).2]; omega
  have hds : ds N a w sd m = lns N ac fl sd m w := (lns_congr (fun c hc => (hh c hc).1) (fun c hc => (hh c hc).2) m w (Nat.le_refl w)).symm
  rw [hds]
  have hwr := w_reach (x := x) (d := d) h6 h7 hN hR hW hr hm hm40 hq hs hNo hac hw hL (by omega) m 0 ln 0 w (by omega) (by omega) (by omega) (fun k q1 q2 => by omega) (fun k q1 q2 => ⟨Or.inl rfl, hfb k q2⟩)
  rw [hS_id h8] at hwr
  refine k_enp 3 (Nat.le_of_ble_eq_true rfl) (p_go [] 40 ?_)
  simp only [st_0, st_1, st_2, st_3, st_4, st_5, st_6, st_7, st_8, st_9, st_10, st_11, st_12, st_13, st_14, st_15, st_16, st_17, st_18, st_19, st_20, st_21, st_22, st_23, st_24, st_25, st_26, st_27, st_28, st_29, st_30, st_31, st_32, st_33, st_34, st_34a, st_35, st_36, st_37, st_38, st_39, st_42, st_44, st_45, st_47, st_40, st_41, st_46, st_48, st_49, st_43, go_0, go_s, cut_0, cut_s, get_0, get_s, put_0, put_1, put_s, clr_0, clr_s, unl_i, unl_l, unl_r, unl_n, nth_0, nth_s, sf_0, sf_s, cnd_0, cnd_1, cnd_2, cnd_3, cnd_4, cnd_5, fit_0, fit_1, fit_2, en_0, en_i, en_l, en_r, kb_t, kb_f, kb_n, sw_0, sw_s, ↓reduceIte, Nat.reduceEqDiff, Nat.left_eq_add, Nat.add_eq_left, Nat.add_left_cancel_iff, Nat.reduceAdd, Int.reduceLT, Int.reduceLE, Int.reduceAdd, Int.reduceSub, Int.reduceNeg, Int.reduceMul, Int.reduceToNat, Int.reduceEq, reduceCtorEq, true_and, and_true, true_or, or_true, and_false, false_and, or_false, false_or, not_true_eq_false, not_false_eq_true, Nat.le_refl, and_self, Sum.inl.injEq, Sum.inr.injEq, Option.some.injEq, hS_2, k_isref, pd_0, pd_s, List.cons_append, List.nil_append, Option.toList_none, Option.toList_some, tX4_reach, rX4_reach]
  refine cV (d' := 0) [vI r] [] l_4_41 hR.1 (e_length hR hr) (by omega) (p_go [29] 40 ?_)
  rw [hm]
  simp only [st_0, st_1, st_2, st_3, st_4, st_5, st_6, st_7, st_8, st_9, st_10, st_11, st_12, st_13, st_14, st_15, st_16, st_17, st_18, st_19, st_20, st_21, st_22, st_23, st_24, st_25, st_26, st_27, st_28, st_29, st_30, st_31, st_32, st_33, st_34, st_34a, st_35, st_36, st_37, st_38, st_39, st_42, st_44, st_45, st_47, st_40, st_41, st_46, st_48, st_49, st_43, go_0, go_s, cut_0, cut_s, get_0, get_s, put_0, put_1, put_s, clr_0, clr_s, unl_i, unl_l, unl_r, unl_n, nth_0, nth_s, sf_0, sf_s, cnd_0, cnd_1, cnd_2, cnd_3, cnd_4, cnd_5, fit_0, fit_1, fit_2, en_0, en_i, en_l, en_r, kb_t, kb_f, kb_n, sw_0, sw_s, ↓reduceIte, Nat.reduceEqDiff, Nat.left_eq_add, Nat.add_eq_left, Nat.add_left_cancel_iff, Nat.reduceAdd, Int.reduceLT, Int.reduceLE, Int.reduceAdd, Int.reduceSub, Int.reduceNeg, Int.reduceMul, Int.reduceToNat, Int.reduceEq, reduceCtorEq, true_and, and_true, true_or, or_true, and_false, false_and, or_false, false_or, not_true_eq_false, not_false_eq_true, Nat.le_refl, and_self, Sum.inl.injEq, Sum.inr.injEq, Option.some.injEq, hS_2, k_isref, pd_0, pd_s, List.cons_append, List.nil_append, Option.toList_none, Option.toList_some, tX4_reach, rX4_reach, h5, hS_hS]
  exact hwr
set_option maxRecDepth 100000 in
set_option maxHeartbeats 4000000 in
theorem w_lay {q' w' n' r m : Nat} {lf sf : F_} {ln : F_} {lo hi : Int} (h5 : h.2 5 = some (mo m lo hi)) (h8 : h.2 8 = some (cI 41 ln)) (hN : h.2 4 = some (cI 289 N)) (hR : Rw h q' w' n' lf sf) (hW : RwW w' n' lf) (hr : r < n') (hm : lf r = m) (hm40 : m ≤ 40) (hq : 8 < q')
    (hs : ∀ i, i < m → sf (r * w' + i) = (a i : Int) - 1 ∧ a i < 17) (hNo : cOk N) (hd : 1 ≤ d) (P : PO → PH → Prop) :
    ∀ (j i : Nat) (ac fl : F_), i + j = m → (∀ c, c ≤ i → ac c = acf a c ∧ fl c = flf N a c) → (∀ ac fl, (∀ c, c ≤ m → ac c = acf a c ∧ fl c = flf N a c) → P rV (hS (hS h 6 (cI 41 ac)) 7 (cI 41 fl))) →
    k_Wp x d 0 0 mX4_lay P 0 0 23 [some (vR 5), some (vR q'), some (vI r), some (vI ((i + 1 : Nat) : Int))] [] (hS (hS h 6 (cI 41 ac)) 7 (cI 41 fl)) := by
  intro j
  induction j with
  | zero =>
    intro i ac fl hj hh hP
    have e1 : (m : Int) < ((i + 1 : Nat) : Int) := by omega
    refine p_go [] 40 ?_
    simp only [st_0, st_1, st_2, st_3, st_4, st_5, st_6, st_7, st_8, st_9, st_10, st_11, st_12, st_13, st_14, st_15, st_16, st_17, st_18, st_19, st_20, st_21, st_22, st_23, st_24, st_25, st_26, st_27, st_28, st_29, st_30, st_31, st_32, st_33, st_34, st_34a, st_35, st_36, st_37, st_38, st_39, st_42, st_44, st_45, st_47, st_40, st_41, st_46, st_48, st_49, st_43, go_0, go_s, cut_0, cut_s, get_0, get_s, put_0, put_1, put_s, clr_0, clr_s, unl_i, unl_l, unl_r, unl_n, nth_0, nth_s, sf_0, sf_s, cnd_0, cnd_1, cnd_2, cnd_3, cnd_4, cnd_5, fit_0, fit_1, fit_2, en_0, en_i, en_l, en_r, kb_t, kb_f, kb_n, sw_0, sw_s, ↓reduceIte, Nat.reduceEqDiff, Nat.left_eq_add, Nat.add_eq_left, Nat.add_left_cancel_iff, Nat.reduceAdd, Int.reduceLT, Int.reduceLE, Int.reduceAdd, Int.reduceSub, Int.reduceNeg, Int.reduceMul, Int.reduceToNat, Int.reduceEq, reduceCtorEq, true_and, and_true, true_or, or_true, and_false, false_and, or_false, false_or, not_true_eq_false, not_false_eq_true, Nat.le_refl, and_self, Sum.inl.injEq, Sum.inr.injEq, Option.some.injEq, hS_2, k_isref, pd_0, pd_s, List.cons_append, List.nil_append, Option.toList_none, Option.toList_some, tX4_lay, rX4_lay, h5, e1]
    exact hP ac fl (fun c hc => hh c (by omega))
  | succ j ih =>
    intro i ac fl hj hh hP
    have e1 : ¬ (m : Int) < ((i + 1 : Nat) : Int) := by omega
    have e2 : ((i + 1 : Nat) : Int) - 1 = (i : Int) := by omega
    obtain ⟨hs1, hs2⟩ := hs i (by omega)
    have hR1 : Rw (hS (hS h 6 (cI 41 ac)) 7 (cI 41 fl)) q' w' n' lf sf := (hR.off (by omega) (by omega) (by omega)).off (by omega) (by omega) (by omega)
    refine p_go [] 40 ?_
    simp only [st_0, st_1, st_2, st_3, st_4, st_5, st_6, st_7, st_8, st_9, st_10, st_11, st_12, st_13, st_14, st_15, st_16, st_17, st_18, st_19, st_20, st_21, st_22, st_23, st_24, st_25, st_26, st_27, st_28, st_29, st_30, st_31, st_32, st_33, st_34, st_34a, st_35, st_36, st_37, st_38, st_39, st_42, st_44, st_45, st_47, st_40, st_41, st_46, st_48, st_49, st_43, go_0, go_s, cut_0, cut_s, get_0, get_s, put_0, put_1, put_s, clr_0, clr_s, unl_i, unl_l, unl_r, unl_n, nth_0, nth_s, sf_0, sf_s, cnd_0, cnd_1, cnd_2, cnd_3, cnd_4, cnd_5, fit_0, fit_1, fit_2, en_0, en_i, en_l, en_r, kb_t, kb_f, kb_n, sw_0, sw_s, ↓reduceIte, Nat.reduceEqDiff, Nat.left_eq_add, Nat.add_eq_left, Nat.add_left_cancel_iff, Nat.reduceAdd, Int.reduceLT, Int.reduceLE, Int.reduceAdd, Int.reduceSub, Int.reduceNeg, Int.reduceMul, Int.reduceToNat, Int.reduceEq, reduceCtorEq, true_and, and_true, true_or, or_true, and_false, false_and, or_false, false_or, not_true_eq_false, not_false_eq_true, Nat.le_refl, and_self, Sum.inl.injEq, Sum.inr.injEq, Option.some.injEq, hS_2, k_isref, pd_0, pd_s, List.cons_append, List.nil_append, Option.toList_none, Option.toList_some, tX4_lay, rX4_lay, h5, e1, e2]
    refine ⟨⟨by omega, by omega⟩, ?_⟩
    have eat := e_at (x := x) (d := 0) hR1 hW hr (i : Int)
    rw [if_pos (by omega), Int.toNat_natCast, hs1] at eat
    refine cV (d' := 0) [vI r, vI i] [vI ((i + 1 : Nat) : Int), vR 6] l_4_57 hR1.1 eat hd (p_go [23] 60 ?_)
    have e3 : (a i : Int) - 1 + 1 = (a i : Int) := by omega
    have hfb := flf_b hNo i (fun z hz => (hs z (by omega)).2)
    have hnb := hNo.2 (a i) (by omega)
    have hfi := (hh i (Nat.le_refl i)).2
    simp only [st_0, st_1, st_2, st_3, st_4, st_5, st_6, st_7, st_8, st_9, st_10, st_11, st_12, st_13, st_14, st_15, st_16, st_17, st_18, st_19, st_20, st_21, st_22, st_23, st_24, st_25, st_26, st_27, st_28, st_29, st_30, st_31, st_32, st_33, st_34, st_34a, st_35, st_36, st_37, st_38, st_39, st_42, st_44, st_45, st_47, st_40, st_41, st_46, st_48, st_49, st_43, go_0, go_s, cut_0, cut_s, get_0, get_s, put_0, put_1, put_s, clr_0, clr_s, unl_i, unl_l, unl_r, unl_n, nth_0, nth_s, sf_0, sf_s, cnd_0, cnd_1, cnd_2, cnd_3, cnd_4, cnd_5, fit_0, fit_1, fit_2, en_0, en_i, en_l, en_r, kb_t, kb_f, kb_n, sw_0, sw_s, ↓reduceIte, Nat.reduceEqDiff, Nat.left_eq_add, Nat.add_eq_left, Nat.add_left_cancel_iff, Nat.reduceAdd, Int.reduceLT, Int.reduceLE, Int.reduceAdd, Int.reduceSub, Int.reduceNeg, Int.reduceMul, Int.reduceToNat, Int.reduceEq, reduceCtorEq, true_and, and_true, true_or, or_true, and_false, false_and, or_false, false_or, not_true_eq_false, not_false_eq_true, Nat.le_refl, and_self, Sum.inl.injEq, Sum.inr.injEq, Option.some.injEq, hS_2, k_isref, pd_0, pd_s, List.cons_append, List.nil_append, Option.toList_none, Option.toList_some, tX4_lay, rX4_lay, h5, hN, e2, e3, Int.toNat_natCast, fS_s, nat1, hfi]
    (repeat' (first | refine k_brI (fun _ => ?_) (fun _ => ?_) | refine And.intro ?_ ?_))
    all_goals try omega
    have ehp : hS (hS (hS (hS h 6 (cI 41 ac)) 7 (cI 41 fl)) 6 (cI 41 (fS ac (i + 1) (a i)))) 7 (cI 41 (fS fl (i + 1) (flf N a i + N (a i)))) = hS (hS h 6 (cI 41 (fS ac (i + 1) (a i)))) 7 (cI 41 (fS fl (i + 1) (flf N a i + N (a i)))) := by
      rw [hS_c (a := 7) (b := 6) (by decide), hS_hS, hS_hS]
    rw [ehp]
    refine ih (i + 1) _ _ (by omega) (fun c hc => ?_) hP
    by_cases e : c = i + 1
    · subst e; rw [fS_s, fS_s]; exact ⟨rfl, rfl⟩
    · rw [fS_n e, fS_n e]; exact hh c (by omega)
set_option maxRecDepth 100000 in
set_option maxHeartbeats 4000000 in
theorem e_lay {C Nr : F_} {e s : Int} {q' w' n' r m : Nat} {lf sf : F_} (hC : Cs h 2 C Nr e s) (hc : cOk C) (hs0 : s = 0 ∨ s = 1) (hN0 : s = 0 → Nr = fw C) (hZ : MsZ h) (hR : Rw h q' w' n' lf sf) (hW : RwW w' n' lf) (hr : r < n') (hm : lf r = m) (hm40 : m ≤ 40) (hq : 8 < q')
    (hs : ∀ i, i < m → sf (r * w' + i) = (a i : Int) - 1 ∧ a i < 17) (hd : 2 ≤ d) :
    k_Ev x d 0 0 mX4_lay [vR 5, vR q', vI r] h (fun o h' => o = rV ∧ ∃ (lo hi : Int) (ac fl : F_), h' = hS (hS (hS (hS (hS h 4 (cI 289 (fw C))) 2 (cO 0 [vR 3, vR 4, vI e, vI 0])) 5 (mo m lo hi)) 6 (cI 41 ac)) 7 (cI 41 fl) ∧ (∀ c, c ≤ m → ac c = acf a c ∧ fl c = flf (fw C) a c)) := by
  obtain ⟨w0, lo, hi, ac, fl, ln, h5, h6, h7, h8, ha0, hf0⟩ := hZ
  have hC1 := hC.1
  refine k_enp 1 (Nat.le_of_ble_eq_true rfl) (p_go [] 40 ?_)
  simp only [st_0, st_1, st_2, st_3, st_4, st_5, st_6, st_7, st_8, st_9, st_10, st_11, st_12, st_13, st_14, st_15, st_16, st_17, st_18, st_19, st_20, st_21, st_22, st_23, st_24, st_25, st_26, st_27, st_28, st_29, st_30, st_31, st_32, st_33, st_34, st_34a, st_35, st_36, st_37, st_38, st_39, st_42, st_44, st_45, st_47, st_40, st_41, st_46, st_48, st_49, st_43, go_0, go_s, cut_0, cut_s, get_0, get_s, put_0, put_1, put_s, clr_0, clr_s, unl_i, unl_l, unl_r, unl_n, nth_0, nth_s, sf_0, sf_s, cnd_0, cnd_1, cnd_2, cnd_3, cnd_4, cnd_5, fit_0, fit_1, fit_2, en_0, en_i, en_l, en_r, kb_t, kb_f, kb_n, sw_0, sw_s, ↓reduceIte, Nat.reduceEqDiff, Nat.left_eq_add, Nat.add_eq_left, Nat.add_left_cancel_iff, Nat.reduceAdd, Int.reduceLT, Int.reduceLE, Int.reduceAdd, Int.reduceSub, Int.reduceNeg, Int.reduceMul, Int.reduceToNat, Int.reduceEq, reduceCtorEq, true_and, and_true, true_or, or_true, and_false, false_and, or_false, false_or, not_true_eq_false, not_false_eq_true, Nat.le_refl, and_self, Sum.inl.injEq, Sum.inr.injEq, Option.some.injEq, hS_2, k_isref, pd_0, pd_s, List.cons_append, List.nil_append, Option.toList_none, Option.toList_some, tX4_lay, rX4_lay, h5]
  refine cV (d' := 1) [] [] l_4_38 hC1 (e_refresh hC hc (by decide) hs0 hN0) hd (p_go [] 40 ?_)
  have hR1 : Rw (hS (hS h 4 (cI 289 (fw C))) 2 (cO 0 [vR 3, vR 4, vI e, vI 0])) q' w' n' lf sf := (hR.off (by omega) (by omega) (by omega)).off (by omega) (by omega) (by omega)
  simp only [st_0, st_1, st_2, st_3, st_4, st_5, st_6, st_7, st_8, st_9, st_10, st_11, st_12, st_13, st_14, st_15, st_16, st_17, st_18, st_19, st_20, st_21, st_22, st_23, st_24, st_25, st_26, st_27, st_28, st_29, st_30, st_31, st_32, st_33, st_34, st_34a, st_35, st_36, st_37, st_38, st_39, st_42, st_44, st_45, st_47, st_40, st_41, st_46, st_48, st_49, st_43, go_0, go_s, cut_0, cut_s, get_0, get_s, put_0, put_1, put_s, clr_0, clr_s, unl_i, unl_l, unl_r, unl_n, nth_0, nth_s, sf_0, sf_s, cnd_0, cnd_1, cnd_2, cnd_3, cnd_4, cnd_5, fit_0, fit_1, fit_2, en_0, en_i, en_l, en_r, kb_t, kb_f, kb_n, sw_0, sw_s, ↓reduceIte, Nat.reduceEqDiff, Nat.left_eq_add, Nat.add_eq_left, Nat.add_left_cancel_iff, Nat.reduceAdd, Int.reduceLT, Int.reduceLE, Int.reduceAdd, Int.reduceSub, Int.reduceNeg, Int.reduceMul, Int.reduceToNat, Int.reduceEq, reduceCtorEq, true_and, and_true, true_or, or_true, and_false, false_and, or_false, false_or, not_true_eq_false, not_false_eq_true, Nat.le_refl, and_self, Sum.inl.injEq, Sum.inr.injEq, Option.some.injEq, hS_2, k_isref, pd_0, pd_s, List.cons_append, List.nil_append, Option.toList_none, Option.toList_some, tX4_lay, rX4_lay]
  refine cV (d' := 0) [vI r] [vR 5] l_4_41 hR1.1 (e_length hR1 hr) (by omega) (p_go [23] 40 ?_)
  rw [hm]
  have e1 : (if (40 : Int) < m then (40 : Int) else m) = m := by rw [if_neg (by omega)]
  simp only [st_0, st_1, st_2, st_3, st_4, st_5, st_6, st_7, st_8, st_9, st_10, st_11, st_12, st_13, st_14, st_15, st_16, st_17, st_18, st_19, st_20, st_21, st_22, st_23, st_24, st_25, st_26, st_27, st_28, st_29, st_30, st_31, st_32, st_33, st_34, st_34a, st_35, st_36, st_37, st_38, st_39, st_42, st_44, st_45, st_47, st_40, st_41, st_46, st_48, st_49, st_43, go_0, go_s, cut_0, cut_s, get_0, get_s, put_0, put_1, put_s, clr_0, clr_s, unl_i, unl_l, unl_r, unl_n, nth_0, nth_s, sf_0, sf_s, cnd_0, cnd_1, cnd_2, cnd_3, cnd_4, cnd_5, fit_0, fit_1, fit_2, en_0, en_i, en_l, en_r, kb_t, kb_f, kb_n, sw_0, sw_s, ↓reduceIte, Nat.reduceEqDiff, Nat.left_eq_add, Nat.add_eq_left, Nat.add_left_cancel_iff, Nat.reduceAdd, Int.reduceLT, Int.reduceLE, Int.reduceAdd, Int.reduceSub, Int.reduceNeg, Int.reduceMul, Int.reduceToNat, Int.reduceEq, reduceCtorEq, true_and, and_true, true_or, or_true, and_false, false_and, or_false, false_or, not_true_eq_false, not_false_eq_true, Nat.le_refl, and_self, Sum.inl.injEq, Sum.inr.injEq, Option.some.injEq, hS_2, k_isref, pd_0, pd_s, List.cons_append, List.nil_append, Option.toList_none, Option.toList_some, tX4_lay, rX4_lay, h5, e1]
  have hh := w_lay (x := x) (d := d) (h := hS (hS (hS h 4 (cI 289 (fw C))) 2 (cO 0 [vR 3, vR 4, vI e, vI 0])) 5 (mo m lo hi)) (N := fw C) (a := a) (ln := ln) (hS_s _ _ _) (by simp [hS_2, h8]) (by simp [hS_2]) (hR1.off (by omega) (by omega) (by omega)) hW hr hm hm40 hq hs (fw_ok hc) (by omega) (fun o h' => o = rV ∧ ∃ (lo hi : Int) (ac fl : F_), h' = hS (hS (hS (hS (hS h 4 (cI 289 (fw C))) 2 (cO 0 [vR 3, vR 4, vI e, vI 0])) 5 (mo m lo hi)) 6 (cI 41 ac)) 7 (cI 41 fl) ∧ (∀ c, c ≤ m → ac c = acf a c ∧ fl c = flf (fw C) a c)) m 0 ac fl (by omega) (fun c hc => by rw [show c = 0 by omega]; exact ⟨ha0, hf0⟩) (fun ac fl q => ⟨rfl, lo, hi, ac, fl, rfl, q⟩)
  rw [hS_id (a := 6) (by simp [hS_2, h6]), hS_id (a := 7) (by simp [hS_2, h7])] at hh
  exact ⟨⟨by omega, by decide⟩, hh⟩
end Lay26
