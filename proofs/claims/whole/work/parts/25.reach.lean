/-! Measure.reach and lay -/
abbrev mo (w lo hi : Int) : PC := cO 4 [vR 6, vR 7, vR 8, vR 2, vR 4, vI w, vI lo, vI hi]
def nl (N ac e : F_) (s : Nat) : F_ := nxl e (N (17 * s)) (fun c => N (17 * s + (ac c).toNat)) (fun c => N (ac c).toNat)
def lns (N ac fl : F_) (sd : Nat → Nat) : Nat → F_
  | 0 => fl
  | i + 1 => nl N ac (lns N ac fl sd i) (sd i)
section Reach25
variable {x : Bool} {d : Nat} {h : PH} {ac fl ln N : F_} {w : Nat}
set_option maxRecDepth 100000 in
set_option maxHeartbeats 4000000 in
theorem e_fill {u : F_} {lo hi sd : Nat} {L B : Int} {e0 : F_} {ua : Nat}
    (h0 : h.2 5 = some (mo w lo hi)) (h1 : h.2 6 = some (cI 41 ac)) (hN : h.2 4 = some (cI 289 N)) (h8 : h.2 8 = some (cI 41 ln))
    (hua : (ua = 7 ∧ h.2 7 = some (cI 41 u)) ∨ (ua = 8 ∧ ln = u)) (hNo : cOk N) (hac : acOk ac w) (hw : w ≤ 40) (hsd : sd < 17) (hL : 0 ≤ L ∧ L ≤ 1000000) (hB : 1000000 ≤ B ∧ B ≤ 1010000) (hlh : lo ≤ hi) (hhi : hi ≤ w) (hu : ∀ j, lo ≤ j → j ≤ hi → te L (u j) (e0 j) ∧ 0 ≤ u j ∧ u j ≤ B) (hout : ∀ j, j < lo ∨ hi < j → j ≤ w → L ≤ e0 j) :
    k_Ev x d 0 0 mX4_fillLine [vR 5, vR ua, vI sd, vI L] h (fun o h' => o = rV ∧ ∃ (g : F_) (fr to : Int), h' = hS (hS h 8 (cI 41 g)) 5 (mo w fr to) ∧ Ln L w (nl N ac e0 sd) g fr to ∧ (∀ j : Nat, fr ≤ j → (j : Int) ≤ to → 0 ≤ g j ∧ g j ≤ B + 100)) := by
  have hal := hNo.2 (17 * sd) (by omega)
  have hn : ∀ c, c ≤ w → 0 ≤ N (ac c).toNat := fun c hc => (hNo.2 _ (by have := hac.2 c hc; omega)).1
  have hb : ∀ c, c ≤ w → 0 ≤ N (17 * sd + (ac c).toNat) := fun c hc => (hNo.2 _ (by have := hac.2 c hc; omega)).1
  have hlow := nxl_low (L := L) (e0 := e0) hal.1 hb hn lo (fun j q1 q2 => hout j (Or.inl q1) q2)
  have e1 : ((sd : Int) * 17).toNat = 17 * sd := by omega
  have e2 : (sd : Int) * 17 = ((17 * sd : Nat) : Int) := by omega
  have hw2 := w_fill (x := x) (d := d) (fun o h' => o = rV ∧ ∃ (g : F_) (fr to : Int), h' = hS (hS h 8 (cI 41 g)) 5 (mo w fr to) ∧ Ln L w (nl N ac e0 sd) g fr to ∧ (∀ j : Nat, fr ≤ j → (j : Int) ≤ to → 0 ≤ g j ∧ g j ≤ B + 100)) h0 h1 hN (u := u) (ua := ua) (by rcases hua with q | q; exact Or.inl q; exact Or.inr q.1) hNo hac hw hsd hL hB hhi hu (fun j q1 q2 => hout j (Or.inr q1) q2) (fun g fr to q1 q2 => ⟨rfl, g, fr, to, rfl, q1, q2⟩) (w + 1 - lo) lo 1000000 1000000 (-1) (-1) ln (by omega) (Nat.le_refl lo) (fun q i _ => by rcases hua with ⟨q2, _⟩ | ⟨_, q2⟩; omega; rw [q2])
    ⟨by omega, by omega, fun _ => ⟨rfl, rfl⟩, fun q => ⟨Or.inr ⟨by omega, hout _ (by omega) (by omega)⟩, Or.inr ⟨by omega, hlow _ (by omega) (by omega)⟩⟩, fun j q1 q2 => by omega, Or.inl ⟨rfl, rfl, fun j q1 => hlow j q1 (by omega)⟩⟩
  rw [hS_id h8] at hw2
  refine k_enp 11 (Nat.le_of_ble_eq_true rfl) (p_go [35] 40 ?_)
  simp only [st_0, st_1, st_2, st_3, st_4, st_5, st_6, st_7, st_8, st_9, st_10, st_11, st_12, st_13, st_14, st_15, st_16, st_17, st_18, st_19, st_20, st_21, st_22, st_23, st_24, st_25, st_26, st_27, st_28, st_29, st_30, st_31, st_32, st_33, st_34, st_34a, st_35, st_36, st_37, st_38, st_39, st_42, st_44, st_45, st_47, st_40, st_41, st_46, st_48, st_49, st_43, go_0, go_s, cut_0, cut_s, get_0, get_s, put_0, put_1, put_s, clr_0, clr_s, unl_i, unl_l, unl_r, unl_n, nth_0, nth_s, sf_0, sf_s, cnd_0, cnd_1, cnd_2, cnd_3, cnd_4, cnd_5, fit_0, fit_1, fit_2, en_0, en_i, en_l, en_r, kb_t, kb_f, kb_n, sw_0, sw_s, ↓reduceIte, Nat.reduceEqDiff, Nat.left_eq_add, Nat.add_eq_left, Nat.add_left_cancel_iff, Nat.reduceAdd, Int.reduceLT, Int.reduceLE, Int.reduceAdd, Int.reduceSub, Int.reduceNeg, Int.reduceMul, Int.reduceToNat, Int.reduceEq, reduceCtorEq, true_and, and_true, true_or, or_true, and_false, false_and, or_false, false_or, not_true_eq_false, not_false_eq_true, Nat.le_refl, and_self, Sum.inl.injEq, Sum.inr.injEq, Option.some.injEq, hS_2, k_isref, pd_0, pd_s, List.cons_append, List.nil_append, Option.toList_none, Option.toList_some, tX4_fillLine, rX4_fillLine, h0, h1, hN, e1, e2]
  (repeat' (first | refine k_brI (fun _ => ?_) (fun _ => ?_) | refine And.intro ?_ ?_))
  all_goals first | omega | exact hw2
theorem nl_up {L : Int} {e : F_} {s : Nat} (hNo : cOk N) (hac : acOk ac w) (hs : s < 17) (he : ∀ j, j ≤ w → L ≤ e j) : ∀ j, j ≤ w → L ≤ nl N ac e s j := by
  have hal := hNo.2 (17 * s) (by omega)
  have hn : ∀ c, c ≤ w → 0 ≤ N (ac c).toNat := fun c hc => (hNo.2 _ (by have := hac.2 c hc; omega)).1
  have hb : ∀ c, c ≤ w → 0 ≤ N (17 * s + (ac c).toNat) := fun c hc => (hNo.2 _ (by have := hac.2 c hc; omega)).1
  intro j hj
  exact nxl_up hal.1 hb hn 0 (by have := he 0 (by omega); show L ≤ e 0 + _; omega) (fun i _ q => he i q) j (Nat.zero_le j) hj
theorem lns_up {L : Int} {sd : Nat → Nat} (hNo : cOk N) (hac : acOk ac w) (i : Nat) (he : ∀ j, j ≤ w → L ≤ lns N ac fl sd i j) : ∀ (k : Nat), (∀ z, z < i + k → sd z < 17) → ∀ j, j ≤ w → L ≤ lns N ac fl sd (i + k) j
  | 0, _ => he
  | k + 1, hs => nl_up hNo hac (hs (i + k) (by omega)) (lns_up hNo hac i he k (fun z hz => hs z (by omega)))
/-- the answer of reach -/
def rch (L v : Int) : Int := if v < L then v else L
set_option maxRecDepth 100000 in
set_option maxHeartbeats 4000000 in
theorem w_reach {q' w' n' r m : Nat} {lf sf : F_} {L : Int} {sd : Nat → Nat} (h1 : h.2 6 = some (cI 41 ac)) (h7 : h.2 7 = some (cI 41 fl)) (hN : h.2 4 = some (cI 289 N)) (hR : Rw h q' w' n' lf sf) (hW : RwW w' n' lf) (hr : r < n') (hm : lf r = m) (hm40 : m ≤ 40) (hq : 8 < q')
    (hs : ∀ i, i < m → sf (r * w' + i) = (sd i : Int) - 1 ∧ sd i < 17) (hNo : cOk N) (hac : acOk ac w) (hw : w ≤ 40) (hL : 0 ≤ L ∧ L ≤ 1000000) (hd : 1 ≤ d) :
    ∀ (j i : Nat) (g : F_) (lo hi : Nat), i + j = m → lo ≤ hi → hi ≤ w → (∀ k, k < lo ∨ hi < k → k ≤ w → L ≤ lns N ac fl sd i k) → (∀ k, lo ≤ k → k ≤ hi → te L ((if i = 0 then fl else g) k) (lns N ac fl sd i k) ∧ 0 ≤ (if i = 0 then fl else g) k ∧ (if i = 0 then fl else g) k ≤ 1000000 + 100 * i) →
    k_Wp x d 0 0 mX4_reach (fun o h' => o = rI (rch L (lns N ac fl sd m w)) ∧ ∃ (g : F_) (lo hi : Int), h' = hS (hS h 8 (cI 41 g)) 5 (mo w lo hi)) 0 0 29 [some (vR 5), some (vR q'), some (vI r), some (vI L), some (vI m), some (vR (if i = 0 then 7 else 8)), some (vI i)] [] (hS (hS h 8 (cI 41 g)) 5 (mo w lo hi)) := by
  intro j
  induction j with
  | zero =>
    intro i g lo hi hj hlh hhw hout hin
    have him : i = m := by omega
    subst him
    have e1 : (i : Int) ≤ i := by omega
    have hua : ((if i = 0 then 7 else 8) = 7 ∧ (if i = 0 then fl else g) = fl) ∨ ((if i = 0 then 7 else 8) = 8 ∧ (if i = 0 then fl else g) = g) := by
      by_cases e : i = 0
      · left; simp [e]
      · right; simp [e]
    generalize (if i = 0 then fl else g) = u at hua hin
    generalize (if i = 0 then 7 else 8) = ua at hua ⊢
    have fin : ∀ (hi0 : hi = w), rch L (lns N ac fl sd i w) = (if L < u w then L else u w) := by
      intro hi0
      subst hi0
      obtain ⟨q1, q2, q3⟩ := hin hi hlh (Nat.le_refl hi)
      unfold rch
      split <;> split <;> omega
    have fin2 : hi ≠ w → rch L (lns N ac fl sd i w) = L := by
      intro hne
      have := hout w (Or.inr (by omega)) (Nat.le_refl w)
      unfold rch
      rw [if_neg (by omega)]
    refine p_go [] 40 ?_
    rcases hua with ⟨rfl, rfl⟩ | ⟨rfl, rfl⟩
    · simp only [st_0, st_1, st_2, st_3, st_4, st_5, st_6, st_7, st_8, st_9, st_10, st_11, st_12, st_13, st_14, st_15, st_16, st_17, st_18, st_19, st_20, st_21, st_22, st_23, st_24, st_25, st_26, st_27, st_28, st_29, st_30, st_31, st_32, st_33, st_34, st_34a, st_35, st_36, st_37, st_38, st_39, st_42, st_44, st_45, st_47, st_40, st_41, st_46, st_48, st_49, st_43, go_0, go_s, cut_0, cut_s, get_0, get_s, put_0, put_1, put_s, clr_0, clr_s, unl_i, unl_l, unl_r, unl_n, nth_0, nth_s, sf_0, sf_s, cnd_0, cnd_1, cnd_2, cnd_3, cnd_4, cnd_5, fit_0, fit_1, fit_2, en_0, en_i, en_l, en_r, kb_t, kb_f, kb_n, sw_0, sw_s, ↓reduceIte, Nat.reduceEqDiff, Nat.left_eq_add, Nat.add_eq_left, Nat.add_left_cancel_iff, Nat.reduceAdd, Int.reduceLT, Int.reduceLE, Int.reduceAdd, Int.reduceSub, Int.reduceNeg, Int.reduceMul, Int.reduceToNat, Int.reduceEq, reduceCtorEq, true_and, and_true, true_or, or_true, and_false, false_and, or_false, false_or, not_true_eq_false, not_false_eq_true, Nat.le_refl, and_self, Sum.inl.injEq, Sum.inr.injEq, Option.some.injEq, hS_2, k_isref, pd_0, pd_s, List.cons_append, List.nil_append, Option.toList_none, Option.toList_some, tX4_reach, rX4_reach, e1, h7, Int.toNat_natCast, Int.le_refl]
      refine k_brI (fun heq => ⟨⟨by omega, by omega⟩, ⟨hd, by decide⟩, (fin (by omega)).symm, g, lo, hi, rfl⟩) (fun hne => ⟨(fin2 (by omega)).symm, g, lo, hi, rfl⟩)
    · simp only [st_0, st_1, st_2, st_3, st_4, st_5, st_6, st_7, st_8, st_9, st_10, st_11, st_12, st_13, st_14, st_15, st_16, st_17, st_18, st_19, st_20, st_21, st_22, st_23, st_24, st_25, st_26, st_27, st_28, st_29, st_30, st_31, st_32, st_33, st_34, st_34a, st_35, st_36, st_37, st_38, st_39, st_42, st_44, st_45, st_47, st_40, st_41, st_46, st_48, st_49, st_43, go_0, go_s, cut_0, cut_s, get_0, get_s, put_0, put_1, put_s, clr_0, clr_s, unl_i, unl_l, unl_r, unl_n, nth_0, nth_s, sf_0, sf_s, cnd_0, cnd_1, cnd_2, cnd_3, cnd_4, cnd_5, fit_0, fit_1, fit_2, en_0, en_i, en_l, en_r, kb_t, kb_f, kb_n, sw_0, sw_s, ↓reduceIte, Nat.reduceEqDiff, Nat.left_eq_add, Nat.add_eq_left, Nat.add_left_cancel_iff, Nat.reduceAdd, Int.reduceLT, Int.reduceLE, Int.reduceAdd, Int.reduceSub, Int.reduceNeg, Int.reduceMul, Int.reduceToNat, Int.reduceEq, reduceCtorEq, true_and, and_true, true_or, or_true, and_false, false_and, or_false, false_or, not_true_eq_false, not_false_eq_true, Nat.le_refl, and_self, Sum.inl.injEq, Sum.inr.injEq, Option.some.injEq, hS_2, k_isref, pd_0, pd_s, List.cons_append, List.nil_append, Option.toList_none, Option.toList_some, tX4_reach, rX4_reach, e1, h7, Int.toNat_natCast, Int.le_refl]
      refine k_brI (fun heq => ⟨⟨by omega, by omega⟩, ⟨hd, by decide⟩, (fin (by omega)).symm, u, lo, hi, rfl⟩) (fun hne => ⟨(fin2 (by omega)).symm, u, lo, hi, rfl⟩)
  | succ j ih =>
    intro i g lo hi hj hlh hhw hout hin
    have e1 : ¬ (m : Int) ≤ i := by omega
    obtain ⟨hs1, hs2⟩ := hs i (by omega)
    have hR1 : Rw (hS (hS h 8 (cI 41 g)) 5 (mo w lo hi)) q' w' n' lf sf := (hR.off (by omega) (by omega) (by omega)).off (by omega) (by omega) (by omega)
    have c6 : (hS (hS h 8 (cI 41 g)) 5 (mo w lo hi)).2 6 = some (cI 41 ac) := by simp [hS_2, h1]
    have c4 : (hS (hS h 8 (cI 41 g)) 5 (mo w lo hi)).2 4 = some (cI 289 N) := by simp [hS_2, hN]
    have c5 : (hS (hS h 8 (cI 41 g)) 5 (mo w lo hi)).2 5 = some (mo w lo hi) := hS_s _ _ _
    have c8 : (hS (hS h 8 (cI 41 g)) 5 (mo w lo hi)).2 8 = some (cI 41 g) := by simp [hS_2]
    have hab : ((if i = 0 then 7 else 8) = 7 ∧ (hS (hS h 8 (cI 41 g)) 5 (mo w lo hi)).2 7 = some (cI 41 (if i = 0 then fl else g))) ∨ ((if i = 0 then 7 else 8) = 8 ∧ g = (if i = 0 then fl else g)) := by
      by_cases e : i = 0
      · left; simp [e, hS_2, h7]
      · right; simp [e]
    refine p_go [] 40 ?_
    generalize hug : (if i = 0 then fl else g) = u at hab hin
    generalize (if i = 0 then 7 else 8) = ua at hab ⊢
    simp only [st_0, st_1, st_2, st_3, st_4, st_5, st_6, st_7, st_8, st_9, st_10, st_11, st_12, st_13, st_14, st_15, st_16, st_17, st_18, st_19, st_20, st_21, st_22, st_23, st_24, st_25, st_26, st_27, st_28, st_29, st_30, st_31, st_32, st_33, st_34, st_34a, st_35, st_36, st_37, st_38, st_39, st_42, st_44, st_45, st_47, st_40, st_41, st_46, st_48, st_49, st_43, go_0, go_s, cut_0, cut_s, get_0, get_s, put_0, put_1, put_s, clr_0, clr_s, unl_i, unl_l, unl_r, unl_n, nth_0, nth_s, sf_0, sf_s, cnd_0, cnd_1, cnd_2, cnd_3, cnd_4, cnd_5, fit_0, fit_1, fit_2, en_0, en_i, en_l, en_r, kb_t, kb_f, kb_n, sw_0, sw_s, ↓reduceIte, Nat.reduceEqDiff, Nat.left_eq_add, Nat.add_eq_left, Nat.add_left_cancel_iff, Nat.reduceAdd, Int.reduceLT, Int.reduceLE, Int.reduceAdd, Int.reduceSub, Int.reduceNeg, Int.reduceMul, Int.reduceToNat, Int.reduceEq, reduceCtorEq, true_and, and_true, true_or, or_true, and_false, false_and, or_false, false_or, not_true_eq_false, not_false_eq_true, Nat.le_refl, and_self, Sum.inl.injEq, Sum.inr.injEq, Option.some.injEq, hS_2, k_isref, pd_0, pd_s, List.cons_append, List.nil_append, Option.toList_none, Option.toList_some, tX4_reach, rX4_reach, e1]
    have eat := e_at (x := x) (d := 0) hR1 hW hr (i : Int)
    rw [if_pos (by omega), Int.toNat_natCast, hs1] at eat
    refine cV (d' := 0) [vI r, vI i] [vR ua, vR 5] l_4_57 hR1.1 eat hd (p_go [] 40 ?_)
    have e2 : (sd i : Int) - 1 + 1 = (sd i : Int) := by omega
    simp only [st_0, st_1, st_2, st_3, st_4, st_5, st_6, st_7, st_8, st_9, st_10, st_11, st_12, st_13, st_14, st_15, st_16, st_17, st_18, st_19, st_20, st_21, st_22, st_23, st_24, st_25, st_26, st_27, st_28, st_29, st_30, st_31, st_32, st_33, st_34, st_34a, st_35, st_36, st_37, st_38, st_39, st_42, st_44, st_45, st_47, st_40, st_41, st_46, st_48, st_49, st_43, go_0, go_s, cut_0, cut_s, get_0, get_s, put_0, put_1, put_s, clr_0, clr_s, unl_i, unl_l, unl_r, unl_n, nth_0, nth_s, sf_0, sf_s, cnd_0, cnd_1, cnd_2, cnd_3, cnd_4, cnd_5, fit_0, fit_1, fit_2, en_0, en_i, en_l, en_r, kb_t, kb_f, kb_n, sw_0, sw_s, ↓reduceIte, Nat.reduceEqDiff, Nat.left_eq_add, Nat.add_eq_left, Nat.add_left_cancel_iff, Nat.reduceAdd, Int.reduceLT, Int.reduceLE, Int.reduceAdd, Int.reduceSub, Int.reduceNeg, Int.reduceMul, Int.reduceToNat, Int.reduceEq, reduceCtorEq, true_and, and_true, true_or, or_true, and_false, false_and, or_false, false_or, not_true_eq_false, not_false_eq_true, Nat.le_refl, and_self, Sum.inl.injEq, Sum.inr.injEq, Option.some.injEq, hS_2, k_isref, pd_0, pd_s, List.cons_append, List.nil_append, Option.toList_none, Option.toList_some, tX4_reach, rX4_reach, e2]
    refine ⟨⟨by omega, by omega⟩, ?_⟩
    refine cVQ (d' := 0) [vR ua, vI (sd i), vI L] [] l_4_66 c5 (e_fill c5 c6 c4 c8 hab hNo hac hw hs2 hL (B := 1000000 + 100 * i) (by omega) hlh hhw hin hout) hd ?_ (fun E h' q => by cases q.1)
    rintro r0 h' ⟨e3, g', fr, to, rfl, hLn, hbd⟩
    cases e3
    refine p_go [29] 40 ?_
    have ehp : hS (hS (hS (hS h 8 (cI 41 g)) 5 (mo w lo hi)) 8 (cI 41 g')) 5 (mo w fr to) = hS (hS h 8 (cI 41 g')) 5 (mo w fr to) := by
      rw [hS_c (a := 5) (b := 8) (by decide), hS_hS, hS_hS]
    rw [ehp]
    simp only [st_0, st_1, st_2, st_3, st_4, st_5, st_6, st_7, st_8, st_9, st_10, st_11, st_12, st_13, st_14, st_15, st_16, st_17, st_18, st_19, st_20, st_21, st_22, st_23, st_24, st_25, st_26, st_27, st_28, st_29, st_30, st_31, st_32, st_33, st_34, st_34a, st_35, st_36, st_37, st_38, st_39, st_42, st_44, st_45, st_47, st_40, st_41, st_46, st_48, st_49, st_43, go_0, go_s, cut_0, cut_s, get_0, get_s, put_0, put_1, put_s, clr_0, clr_s, unl_i, unl_l, unl_r, unl_n, nth_0, nth_s, sf_0, sf_s, cnd_0, cnd_1, cnd_2, cnd_3, cnd_4, cnd_5, fit_0, fit_1, fit_2, en_0, en_i, en_l, en_r, kb_t, kb_f, kb_n, sw_0, sw_s, ↓reduceIte, Nat.reduceEqDiff, Nat.left_eq_add, Nat.add_eq_left, Nat.add_left_cancel_iff, Nat.reduceAdd, Int.reduceLT, Int.reduceLE, Int.reduceAdd, Int.reduceSub, Int.reduceNeg, Int.reduceMul, Int.reduceToNat, Int.reduceEq, reduceCtorEq, true_and, and_true, true_or, or_true, and_false, false_and, or_false, false_or, not_true_eq_false, not_false_eq_true, Nat.le_refl, and_self, Sum.inl.injEq, Sum.inr.injEq, Option.some.injEq, hS_2, k_isref, pd_0, pd_s, List.cons_append, List.nil_append, Option.toList_none, Option.toList_some, tX4_reach, rX4_reach, nat1]
    rcases hLn with ⟨rfl, rfl, hall⟩ | ⟨f1, f2, f3, f4⟩
    · refine k_brT rfl ⟨?_, g', -1, -1, rfl⟩
      have hup := lns_up hNo hac (i + 1) hall j (fun z hz => (hs z (by omega)).2) w (Nat.le_refl w)
      rw [show i + 1 + j = m by omega] at hup
      unfold rch
      rw [if_neg (by omega)]
    · refine k_brF (by omega) ⟨⟨by omega, by omega⟩, ?_⟩
      obtain ⟨fr', rfl⟩ := Int.eq_ofNat_of_zero_le f1
      obtain ⟨to', rfl⟩ := Int.eq_ofNat_of_zero_le (show 0 ≤ to by omega)
      have := ih (i + 1) g' fr' to' (by omega) (by omega) (by omega) (fun k q1 q2 => (f4 k q2).1 (by omega)) (fun k q1 q2 => by
        rw [if_neg (by omega)]
        exact ⟨(f4 k (by omega)).2 (by omega), by have := hbd k (by omega) (by omega); omega⟩)
      rw [if_neg (by omega)] at this
      exact this
end Reach25
