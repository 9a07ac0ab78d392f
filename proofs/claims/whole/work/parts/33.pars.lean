/-! Parser: what it takes -/
section Pars33
abbrev PS : Type := (Int × Int) × (Nat × Nat) × (F_ × F_ × F_ × F_) × (F_ × F_ × F_ × F_) × (F_ × F_)
variable {x : Bool} {d : Nat} {h0 h : PH} {a p g r sz pn rc : Nat} {nw pk cl cs : F_}
abbrev prO (p : Nat) (o e : Int) (rc : Nat) : PC := cO 6 [vR p, vI o, vI e, vI rc]
/-- the heap while a Parser at a takes a text into the Grammar at g; else it is as it was -/
def Ps (h0 h : PH) (a p g r sz pn rc : Nat) (nw pk cl cs : F_) (S : PS) : Prop :=
  h.1 = h0.1 ∧ (∀ z, z ≠ a → (z < g ∨ g + 14 < z) → z ≠ r + 1 → z ≠ r + 2 → h.2 z = h0.2 z) ∧ h.2 a = some (prO p S.1.1 S.1.2 rc) ∧ Gr h g S.2.2.1.1 S.2.2.1.2.1 S.2.2.1.2.2.1 S.2.2.1.2.2.2 S.2.2.2.1.1 S.2.2.2.1.2.1 S.2.2.2.1.2.2.1 S.2.2.2.1.2.2.2 nw pk cl cs S.2.1.1 S.2.1.2 sz pn ∧ h.2 (r + 1) = some (cI 1 S.2.2.2.2.1) ∧ h.2 (r + 2) = some (cI 20 S.2.2.2.2.2)
/-- what holds of it at a place -/
def psI (rc : Nat) (S : PS) : Prop := (-1 ≤ S.1.1 ∧ S.1.1 < S.2.1.2) ∧ (S.1.2 = 0 ∨ S.1.2 = 1) ∧ S.2.1.1 ≤ 20 ∧ S.2.1.2 ≤ 8 ∧ RwW 20 20 S.2.2.1.1 ∧ (0 ≤ S.2.2.2.2.1 0 ∧ S.2.2.2.2.1 0 ≤ 20) ∧ (∀ k : Nat, k < S.2.1.2 → 1 ≤ S.2.2.2.1.2.2.1 k ∧ S.2.2.2.1.2.2.1 k ≤ rc) ∧ (∀ k : Nat, k < S.2.1.2 → -1 ≤ S.2.2.2.1.1 k ∧ S.2.2.2.1.1 k < k) ∧ (∀ k : Nat, k < S.2.1.2 → S.2.2.2.1.2.2.2 k = 0 ∨ S.2.2.2.1.2.2.2 k = 1)
def tkOpen (mb : Int) : PS → Int × PS
  | ⟨⟨o, e⟩, ⟨wc, pc⟩, W, ⟨op, oq, pt, ob⟩, R⟩ => if pc = 8 then (4, ⟨⟨o, e⟩, ⟨wc, pc⟩, W, ⟨op, oq, pt, ob⟩, R⟩) else (0, ⟨⟨pc, 1⟩, ⟨wc, pc + 1⟩, W, ⟨fS op pc o, fS oq pc (lpt pc pt o), fS pt pc 1, fS ob pc mb⟩, R⟩)
def tkBar : PS → Int × PS
  | ⟨⟨o, e⟩, N, W, ⟨op, oq, pt, ob⟩, R⟩ => if o = -1 ∨ e = 1 then (1, ⟨⟨o, e⟩, N, W, ⟨op, oq, pt, ob⟩, R⟩) else (0, ⟨⟨o, 1⟩, N, W, ⟨op, oq, fS pt o.toNat (pt o.toNat + 1), ob⟩, R⟩)
def tkClose (mb : Int) : PS → Int × PS
  | ⟨⟨o, e⟩, N, W, ⟨op, oq, pt, ob⟩, R⟩ => if o = -1 ∨ e = 1 ∨ ob o.toNat ≠ mb then (1, ⟨⟨o, e⟩, N, W, ⟨op, oq, pt, ob⟩, R⟩) else (0, ⟨⟨op o.toNat, e⟩, N, W, ⟨op, oq, pt, ob⟩, R⟩)
def tkSign (v : Int) (S : PS) : Int × PS := if v = 32 then (0, S) else if v = 40 then tkOpen 0 S else if v = 91 then tkOpen 1 S else if v = 124 then tkBar S else if v = 41 then tkClose 0 S else if v = 93 then tkClose 1 S else (1, S)
abbrev PsP (h0 : PH) (a p g r sz pn rc : Nat) (nw pk cl cs : F_) (T : Int × PS) : PO → PH → Prop := fun o h' => o = rI T.1 ∧ Ps h0 h' a p g r sz pn rc nw pk cl cs T.2
set_option maxRecDepth 100000 in
set_option maxHeartbeats 4000000 in
theorem e_takeOpening {mb : Int} {S : PS} (hS1 : Ps h0 h a p g r sz pn rc nw pk cl cs S) (hI : psI rc S) (hrc : rc ≤ 400) (hra : r + 2 < a) (hag : a < g) (hd : 3 ≤ d) (hmb : mb = 0 ∨ mb = 1) : k_Ev x d 0 0 mX6_takeOpening [vR a, vI mb, vR g] h (PsP h0 a p g r sz pn rc nw pk cl cs (tkOpen mb S)) := by
  obtain ⟨⟨o, e⟩, ⟨wc, pc⟩, ⟨wl, ws, wp, wq⟩, ⟨op, oq, pt, ob⟩, ⟨lf, sf⟩⟩ := S
  obtain ⟨s1, s2, s3, ⟨g1, gR, g4, g5, g6, g7, g8, g9, g10, g11, gC⟩, s5, s6⟩ := hS1
  obtain ⟨i1, i2, i3, i4, i5, i6, i7, i8, i9⟩ := hI
  simp only at s3 g1 gR g4 g5 g6 g7 g8 g9 g10 g11 gC s5 s6 i1 i2 i3 i4 i5 i6 i7 i8 i9
  unfold tkOpen
  refine k_enp 1 (Nat.le_of_ble_eq_true rfl) (p_go [] 40 ?_)
  simp only [st_0, st_1, st_2, st_3, st_4, st_5, st_6, st_7, st_8, st_9, st_10, st_11, st_12, st_13, st_14, st_15, st_16, st_17, st_18, st_19, st_20, st_21, st_22, st_23, st_24, st_25, st_26, st_27, st_28, st_29, st_30, st_31, st_32, st_33, st_34, st_34a, st_35, st_36, st_37, st_38, st_39, st_42, st_44, st_45, st_47, st_40, st_41, st_46, st_48, st_49, st_43, go_0, go_s, cut_0, cut_s, get_0, get_s, put_0, put_1, put_s, clr_0, clr_s, unl_i, unl_l, unl_r, unl_n, nth_0, nth_s, sf_0, sf_s, cnd_0, cnd_1, cnd_2, cnd_3, cnd_4, cnd_5, fit_0, fit_1, fit_2, en_0, en_i, en_l, en_r, kb_t, kb_f, kb_n, sw_0, sw_s, ↓reduceIte, Nat.reduceEqDiff, Nat.left_eq_add, Nat.add_eq_left, Nat.add_left_cancel_iff, Nat.reduceAdd, Int.reduceLT, Int.reduceLE, Int.reduceAdd, Int.reduceSub, Int.reduceNeg, Int.reduceMul, Int.reduceToNat, Int.reduceEq, reduceCtorEq, true_and, and_true, true_or, or_true, and_false, false_and, or_false, false_or, not_true_eq_false, not_false_eq_true, Nat.le_refl, and_self, Sum.inl.injEq, Sum.inr.injEq, Option.some.injEq, hS_2, k_isref, pd_0, pd_s, List.cons_append, List.nil_append, Option.toList_none, Option.toList_some, tX6_takeOpening, rX6_takeOpening, s3]
  refine cVQ (d' := 2) (P' := fun o' h' => (pc = 8 ∧ o' = rI (-1) ∧ h' = h) ∨ (pc < 8 ∧ o' = rI pc ∧ h' = apH h g wc pc sz pn op oq pt ob o mb)) [vI mb, vI o] [] l_6_80 g1 (e_addPoint g1 g6 g7 g8 g9 i4 (Nat.le_refl 2) (fun k hk => ⟨(i7 k hk).1, by have := (i7 k hk).2; omega⟩) hmb (fun c => Or.inl ⟨c, rfl, rfl⟩) (fun c => Or.inr ⟨c, rfl, rfl⟩)) (by omega) ?_ (fun E h' q => by rcases q with ⟨_, q, _⟩ | ⟨_, q, _⟩ <;> cases q)
  intro r1 hr1 q
  rcases q with ⟨c, q1, q2⟩ | ⟨c, q1, q2⟩
  · cases q1
    subst q2
    refine p_go [] 40 ?_
    simp only [st_0, st_1, st_2, st_3, st_4, st_5, st_6, st_7, st_8, st_9, st_10, st_11, st_12, st_13, st_14, st_15, st_16, st_17, st_18, st_19, st_20, st_21, st_22, st_23, st_24, st_25, st_26, st_27, st_28, st_29, st_30, st_31, st_32, st_33, st_34, st_34a, st_35, st_36, st_37, st_38, st_39, st_42, st_44, st_45, st_47, st_40, st_41, st_46, st_48, st_49, st_43, go_0, go_s, cut_0, cut_s, get_0, get_s, put_0, put_1, put_s, clr_0, clr_s, unl_i, unl_l, unl_r, unl_n, nth_0, nth_s, sf_0, sf_s, cnd_0, cnd_1, cnd_2, cnd_3, cnd_4, cnd_5, fit_0, fit_1, fit_2, en_0, en_i, en_l, en_r, kb_t, kb_f, kb_n, sw_0, sw_s, ↓reduceIte, Nat.reduceEqDiff, Nat.left_eq_add, Nat.add_eq_left, Nat.add_left_cancel_iff, Nat.reduceAdd, Int.reduceLT, Int.reduceLE, Int.reduceAdd, Int.reduceSub, Int.reduceNeg, Int.reduceMul, Int.reduceToNat, Int.reduceEq, reduceCtorEq, true_and, and_true, true_or, or_true, and_false, false_and, or_false, false_or, not_true_eq_false, not_false_eq_true, Nat.le_refl, and_self, Sum.inl.injEq, Sum.inr.injEq, Option.some.injEq, hS_2, k_isref, pd_0, pd_s, List.cons_append, List.nil_append, Option.toList_none, Option.toList_some, tX6_takeOpening, rX6_takeOpening, s3]
    rw [if_pos c]
    exact ⟨rfl, s1, s2, s3, ⟨g1, gR, g4, g5, g6, g7, g8, g9, g10, g11, gC⟩, s5, s6⟩
  · cases q1
    subst q2
    have e1 : ((pc : Int) = -1) = False := eq_false (by omega)
    have k3 : (apH h g wc pc sz pn op oq pt ob o mb).2 a = some (prO p o e rc) := by unfold apH; (repeat (first | exact hS_s _ _ _ | refine (hS_n (by omega)).trans ?_)); exact s3
    refine p_go [] 40 ?_
    simp only [st_0, st_1, st_2, st_3, st_4, st_5, st_6, st_7, st_8, st_9, st_10, st_11, st_12, st_13, st_14, st_15, st_16, st_17, st_18, st_19, st_20, st_21, st_22, st_23, st_24, st_25, st_26, st_27, st_28, st_29, st_30, st_31, st_32, st_33, st_34, st_34a, st_35, st_36, st_37, st_38, st_39, st_42, st_44, st_45, st_47, st_40, st_41, st_46, st_48, st_49, st_43, go_0, go_s, cut_0, cut_s, get_0, get_s, put_0, put_1, put_s, clr_0, clr_s, unl_i, unl_l, unl_r, unl_n, nth_0, nth_s, sf_0, sf_s, cnd_0, cnd_1, cnd_2, cnd_3, cnd_4, cnd_5, fit_0, fit_1, fit_2, en_0, en_i, en_l, en_r, kb_t, kb_f, kb_n, sw_0, sw_s, ↓reduceIte, Nat.reduceEqDiff, Nat.left_eq_add, Nat.add_eq_left, Nat.add_left_cancel_iff, Nat.reduceAdd, Int.reduceLT, Int.reduceLE, Int.reduceAdd, Int.reduceSub, Int.reduceNeg, Int.reduceMul, Int.reduceToNat, Int.reduceEq, reduceCtorEq, true_and, and_true, true_or, or_true, and_false, false_and, or_false, false_or, not_true_eq_false, not_false_eq_true, Nat.le_refl, and_self, Sum.inl.injEq, Sum.inr.injEq, Option.some.injEq, hS_2, k_isref, pd_0, pd_s, List.cons_append, List.nil_append, Option.toList_none, Option.toList_some, tX6_takeOpening, rX6_takeOpening, k3, e1, hS_hS]
    rw [if_neg (by omega)]
    refine ⟨rfl, s1, fun z z1 z2 z3 z4 => ?_, ?_, ⟨?_, ?_, ?_, ?_, ?_, ?_, ?_, ?_, ?_, ?_, ?_⟩, ?_, ?_⟩
    all_goals unfold apH
    · (repeat (first | exact hS_s _ _ _ | refine (hS_n (by omega)).trans ?_)); exact s2 z z1 z2 z3 z4
    · (repeat (first | exact hS_s _ _ _ | refine (hS_n (by omega)).trans ?_))
    · (repeat (first | exact hS_s _ _ _ | refine (hS_n (by omega)).trans ?_))
    · exact ⟨by (repeat (first | exact hS_s _ _ _ | refine (hS_n (by omega)).trans ?_)); exact gR.1, by (repeat (first | exact hS_s _ _ _ | refine (hS_n (by omega)).trans ?_)); exact gR.2.1, by (repeat (first | exact hS_s _ _ _ | refine (hS_n (by omega)).trans ?_)); exact gR.2.2⟩
    · (repeat (first | exact hS_s _ _ _ | refine (hS_n (by omega)).trans ?_)); exact g4
    · (repeat (first | exact hS_s _ _ _ | refine (hS_n (by omega)).trans ?_)); exact g5
    · (repeat (first | exact hS_s _ _ _ | refine (hS_n (by omega)).trans ?_))
    · (repeat (first | exact hS_s _ _ _ | refine (hS_n (by omega)).trans ?_))
    · (repeat (first | exact hS_s _ _ _ | refine (hS_n (by omega)).trans ?_))
    · (repeat (first | exact hS_s _ _ _ | refine (hS_n (by omega)).trans ?_))
    · (repeat (first | exact hS_s _ _ _ | refine (hS_n (by omega)).trans ?_)); exact g10
    · (repeat (first | exact hS_s _ _ _ | refine (hS_n (by omega)).trans ?_)); exact g11
    · exact ⟨by (repeat (first | exact hS_s _ _ _ | refine (hS_n (by omega)).trans ?_)); exact gC.1, by (repeat (first | exact hS_s _ _ _ | refine (hS_n (by omega)).trans ?_)); exact gC.2.1, by (repeat (first | exact hS_s _ _ _ | refine (hS_n (by omega)).trans ?_)); exact gC.2.2⟩
    · (repeat (first | exact hS_s _ _ _ | refine (hS_n (by omega)).trans ?_)); exact s5
    · (repeat (first | exact hS_s _ _ _ | refine (hS_n (by omega)).trans ?_)); exact s6
end Pars33
