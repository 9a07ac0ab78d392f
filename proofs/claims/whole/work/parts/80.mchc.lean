/-! the reference: parsing; choice and row, whole -/
section Mchc80
variable {x : Bool} {d : Nat} {h h0 : PH} {s t : F_} {P : PO → PH → Prop} {R E : LxT} {f g : F_} {en : Nat}
theorem prT_open {rc : Nat} {S : PS} {mb : Int} (hc : (f rc = 40 ∧ mb = 0) ∨ (f rc = 91 ∧ mb = 1)) : prT R E f en rc S = tkOpen mb S ∧ bhd f (en - rc) rc = rc := by
  have hb : bhd f (en - rc) rc = rc := bhd_no (by rcases hc with q | q <;> rw [q.1] <;> decide)
  refine ⟨?_, hb⟩
  unfold prT
  rw [hb, if_neg (by omega)]
  rcases hc with ⟨q1, q2⟩ | ⟨q1, q2⟩
  · rw [q1, q2]; rfl
  · rw [q1, q2]; rfl
set_option maxRecDepth 100000 in
set_option maxHeartbeats 4000000 in
theorem e_choiceN {n8 : Nat} (hM : MLx h0 s g R E) (h9 : s 9 = en) (hen : en ≤ 400) (hfg : ∀ k, k < en → f k = g k % 256) (hRw : ∀ m, n8 = m + 1 → RwC x R E f en h0 s m) : ChC x R E f en h0 s n8 := by
  intro h t rc S pl alt hn hP hI hrc hop ha
  obtain ⟨mb, hmb⟩ : ∃ mb : Int, (f rc = 40 ∧ mb = 0) ∨ (f rc = 91 ∧ mb = 1) := by
    rcases hop with q | q
    · exact ⟨0, Or.inl ⟨q, rfl⟩⟩
    · exact ⟨1, Or.inr ⟨q, rfl⟩⟩
  obtain ⟨hT, hb⟩ := prT_open (R := R) (E := E) (en := en) (S := S) hmb
  have hIo := tkOpen_I hI (mb := mb) (by omega)
  obtain ⟨hF, p1, p2, p3, p4, hW, hQ⟩ := id hP
  have h1 := hF.2.1
  have pc8 := hI.2.2.2.1
  by_cases h8 : S.2.1.2 = 8
  · have hwr := e_wrong (x := x) (d := 0) (w := 4) (p := rc) h1
    rw [p4, if_neg (by decide)] at hwr
    have e8 : (((S.2.1.2 : Nat) : Int) = 8) = True := eq_true (by omega)
    have hX : prX (PX R E f en rc S) = (4, (rc : Int)) := by
      have ht : (prT R E f en rc S).1 = 4 := by
        rw [hT]
        obtain ⟨⟨o, e⟩, ⟨wc, pc⟩, ⟨wl, ws, wp, wq⟩, ⟨op, oq, pt, ob⟩, ⟨lf, sf⟩⟩ := S
        unfold tkOpen
        simp only at h8 ⊢
        rw [if_pos h8]
      rw [PX_err hrc (by rw [ht]; decide)]
      unfold prX
      simp only
      rw [ht, if_pos (by decide)]
    refine k_enp 3 (Nat.le_of_ble_eq_true rfl) (p_go [] 60 ?_)
    simp only [st_0, st_1, st_2, st_3, st_4, st_5, st_6, st_7, st_8, st_9, st_10, st_11, st_12, st_13, st_14, st_15, st_16, st_17, st_18, st_19, st_20, st_21, st_22, st_23, st_24, st_25, st_26, st_27, st_28, st_29, st_30, st_31, st_32, st_33, st_34, st_34a, st_35, st_36, st_37, st_38, st_39, st_42, st_44, st_45, st_47, st_40, st_41, st_46, st_48, st_49, st_43, go_0, go_s, cut_0, cut_s, get_0, get_s, put_0, put_1, put_s, clr_0, clr_s, unl_i, unl_l, unl_r, unl_n, nth_0, nth_s, sf_0, sf_s, cnd_0, cnd_1, cnd_2, cnd_3, cnd_4, cnd_5, fit_0, fit_1, fit_2, en_0, en_i, en_l, en_r, kb_t, kb_f, kb_n, sw_0, sw_s, ↓reduceIte, Nat.reduceEqDiff, Nat.left_eq_add, Nat.add_eq_left, Nat.add_left_cancel_iff, Nat.reduceAdd, Int.reduceLT, Int.reduceLE, Int.reduceAdd, Int.reduceSub, Int.reduceNeg, Int.reduceMul, Int.reduceToNat, Int.reduceEq, reduceCtorEq, true_and, and_true, true_or, or_true, and_false, false_and, or_false, false_or, not_true_eq_false, not_false_eq_true, Nat.le_refl, and_self, Sum.inl.injEq, Sum.inr.injEq, Option.some.injEq, hS_2, k_isref, pd_0, pd_s, List.cons_append, List.nil_append, Option.toList_none, Option.toList_some, tX12_choice, rX12_choice, h1, p3, e8, p1]
    refine cV (d' := 0) [vI 4, vI rc] [] l_12_192 h1 hwr (by omega) (p_go [] 40 ?_)
    simp only [st_0, st_1, st_2, st_3, st_4, st_5, st_6, st_7, st_8, st_9, st_10, st_11, st_12, st_13, st_14, st_15, st_16, st_17, st_18, st_19, st_20, st_21, st_22, st_23, st_24, st_25, st_26, st_27, st_28, st_29, st_30, st_31, st_32, st_33, st_34, st_34a, st_35, st_36, st_37, st_38, st_39, st_42, st_44, st_45, st_47, st_40, st_41, st_46, st_48, st_49, st_43, go_0, go_s, cut_0, cut_s, get_0, get_s, put_0, put_1, put_s, clr_0, clr_s, unl_i, unl_l, unl_r, unl_n, nth_0, nth_s, sf_0, sf_s, cnd_0, cnd_1, cnd_2, cnd_3, cnd_4, cnd_5, fit_0, fit_1, fit_2, en_0, en_i, en_l, en_r, kb_t, kb_f, kb_n, sw_0, sw_s, ↓reduceIte, Nat.reduceEqDiff, Nat.left_eq_add, Nat.add_eq_left, Nat.add_left_cancel_iff, Nat.reduceAdd, Int.reduceLT, Int.reduceLE, Int.reduceAdd, Int.reduceSub, Int.reduceNeg, Int.reduceMul, Int.reduceToNat, Int.reduceEq, reduceCtorEq, true_and, and_true, true_or, or_true, and_false, false_and, or_false, false_or, not_true_eq_false, not_false_eq_true, Nat.le_refl, and_self, Sum.inl.injEq, Sum.inr.injEq, Option.some.injEq, hS_2, k_isref, pd_0, pd_s, List.cons_append, List.nil_append, Option.toList_none, Option.toList_some, tX12_choice, rX12_choice]
    exact ⟨rfl, Or.inl ⟨mS (mS t 33 4) 34 rc, hF.put (fun i j1 j2 => (mS_n (by omega)).trans (mS_n (by omega))), (show 0 ≤ t 32 ∧ t 32 ≤ s 9 by omega), (show (0 : Int) < 4 by decide), hX⟩⟩
  · obtain ⟨m, hm⟩ : ∃ m, n8 = m + 1 := ⟨n8 - 1, by omega⟩
    have hRm := hRw m hm
    obtain ⟨k93, pp, pa, pm, k91, k92, k94, hpk⟩ := id hQ
    have e8 : (t 31 = 8) = False := eq_false (by omega)
    have t31 : (t 31).toNat = S.2.1.2 := by omega
    have hT2 : tkOpen mb S = (0, (((S.2.1.2 : Int), 1), (S.2.1.1, S.2.1.2 + 1), S.2.2.1, (fS S.2.2.2.1.1 S.2.1.2 S.1.1, fS S.2.2.2.1.2.1 S.2.1.2 (lpt S.2.1.2 S.2.2.2.1.2.2.1 S.1.1), fS S.2.2.2.1.2.2.1 S.2.1.2 1, fS S.2.2.2.1.2.2.2 S.2.1.2 mb), S.2.2.2.2)) := by
      obtain ⟨⟨o, e⟩, ⟨wc, pc⟩, ⟨wl, ws, wp, wq⟩, ⟨op, oq, pt, ob⟩, ⟨lf, sf⟩⟩ := S
      unfold tkOpen
      simp only at h8 ⊢
      rw [if_neg h8]
    rw [hT2] at hIo
    have hpx := PX_go (R := R) (E := E) (f := f) (en := en) (rc := rc) (S := S) hrc (by rw [hT, hT2])
    rw [hT, hT2, hb, show max rc (rc + 1) = rc + 1 by omega] at hpx
    simp only at hpx hIo
    have hMP1 : MP h0 (hS (hS (hS (hS (hS h 57 (mO (mS t 31 (t 31 + 1)))) 76 (cI 8 (fS pp S.2.1.2 S.1.1))) 77 (cI 8 (fS pa S.2.1.2 alt))) 79 (.inl (2, 8, fS pm S.2.1.2 mb))) 57 (mO (mS (mS t 31 (t 31 + 1)) 32 (t 32 + 1)))) s (mS (mS t 31 (t 31 + 1)) 32 (t 32 + 1)) (rc + 1) (((S.2.1.2 : Int), 1), (S.2.1.1, S.2.1.2 + 1), S.2.2.1, (fS S.2.2.2.1.1 S.2.1.2 S.1.1, fS S.2.2.2.1.2.1 S.2.1.2 (lpt S.2.1.2 S.2.2.2.1.2.2.1 S.1.1), fS S.2.2.2.1.2.2.1 S.2.1.2 1, fS S.2.2.2.1.2.2.2 S.2.1.2 mb), S.2.2.2.2) pl := by
      refine ⟨?_, ?_, p2, ?_, p4, hW.fr (fun z z1 z2 => ?_), ?_, fS pp S.2.1.2 S.1.1, fS pa S.2.1.2 alt, fS pm S.2.1.2 mb, ?_, ?_, ?_, fun k hk => ?_⟩
      · obtain ⟨m1, m2, m3, ⟨a6, m4⟩, ⟨a7, m5⟩, ⟨a8, m6⟩, ⟨a9, m7⟩, ⟨a10, m8⟩, ⟨a11, m9⟩, ⟨a12, m10⟩, ⟨a13, m11⟩, ⟨a14, m12⟩, m13⟩ := hF
        refine ⟨m1, hS_s _ _ _, fun i i1 i2 => (mS_n (by omega)).trans ((mS_n (by omega)).trans (m3 i i1 i2)), ⟨a6, ?_⟩, ⟨a7, ?_⟩, ⟨a8, ?_⟩, ⟨a9, ?_⟩, ⟨a10, ?_⟩, ⟨fS pp S.2.1.2 S.1.1, ?_⟩, ⟨fS pa S.2.1.2 alt, ?_⟩, ⟨a13, ?_⟩, ⟨fS pm S.2.1.2 mb, ?_⟩, fun z z1 z2 => ?_⟩
        · (repeat (first | exact hS_s _ _ _ | refine (hS_n (by omega)).trans ?_)); exact m4
        · (repeat (first | exact hS_s _ _ _ | refine (hS_n (by omega)).trans ?_)); exact m5
        · (repeat (first | exact hS_s _ _ _ | refine (hS_n (by omega)).trans ?_)); exact m6
        · (repeat (first | exact hS_s _ _ _ | refine (hS_n (by omega)).trans ?_)); exact m7
        · (repeat (first | exact hS_s _ _ _ | refine (hS_n (by omega)).trans ?_)); exact m8
        · exact (hS_n (by decide)).trans ((hS_n (by decide)).trans ((hS_n (by decide)).trans (hS_s _ _ _)))
        · exact (hS_n (by decide)).trans ((hS_n (by decide)).trans (hS_s _ _ _))
        · (repeat (first | exact hS_s _ _ _ | refine (hS_n (by omega)).trans ?_)); exact m11
        · exact (hS_n (by decide)).trans (hS_s _ _ _)
        · (repeat (first | exact hS_s _ _ _ | refine (hS_n (by omega)).trans ?_)); exact m13 z z1 z2
      · show t 32 + 1 = ((rc + 1 : Nat) : Int)
        omega
      · show t 31 + 1 = ((S.2.1.2 + 1 : Nat) : Int)
        omega
      · (repeat (first | exact hS_s _ _ _ | refine (hS_n (by omega)).trans ?_)); rfl
      · (repeat (first | exact hS_s _ _ _ | refine (hS_n (by omega)).trans ?_)); exact k93
      · exact (hS_n (by decide)).trans ((hS_n (by decide)).trans ((hS_n (by decide)).trans (hS_s _ _ _)))
      · exact (hS_n (by decide)).trans ((hS_n (by decide)).trans (hS_s _ _ _))
      · exact (hS_n (by decide)).trans (hS_s _ _ _)
      · show fS pp S.2.1.2 S.1.1 k = fS S.2.2.2.1.1 S.2.1.2 S.1.1 k ∧ fS pa S.2.1.2 alt k = fS S.2.2.2.1.2.1 S.2.1.2 (lpt S.2.1.2 S.2.2.2.1.2.2.1 S.1.1) k ∧ fS pm S.2.1.2 mb k = fS S.2.2.2.1.2.2.2 S.2.1.2 mb k
        have hk2 : k < S.2.1.2 + 1 := hk
        by_cases ek : k = S.2.1.2
        · subst ek
          exact ⟨by rw [fS_s, fS_s], by rw [fS_s, fS_s, ha], by rw [fS_s, fS_s]⟩
        · obtain ⟨b1, b2, b3⟩ := hpk k (by omega)
          exact ⟨by rw [fS_n ek, fS_n ek, b1], by rw [fS_n ek, fS_n ek, b2], by rw [fS_n ek, fS_n ek, b3]⟩
    have hgo := w_cho (x := x) (d := 2 * n8 + 2) (t0 := t) (alt := alt) (cc := f rc) (mb := mb) (pl := pl) (S := S) (rc := rc) hM h9 hen hfg hRm (by omega) (by omega) (by omega) hmb hI (en - (rc + 1) + 1) (rc + 1) 0 _ pl _ _ (by omega) (by omega) ⟨hpx.symm, by omega, hIo, rfl, Nat.le_refl _, ⟨fS_s, fS_s, fS_s⟩, fun k hk => ⟨fS_n (by omega), fS_n (by omega), fS_n (by omega), rfl⟩, fun k q1 q2 => by have q2 : k < S.2.1.2 + 1 := q2; omega⟩ hMP1 rfl rfl
    have hm01 : (mb = 0 ∨ mb = 1) := by omega
    have t31i : t 31 = (S.2.1.2 : Int) := p3
    have fin : k_Wp x (2 * n8 + 2) 0 0 mX12_choice (chcQ R E f en h0 s t rc S pl) 0 0 85 [some (vR 57), some (vI S.1.1), some (vI alt), some (vI (f rc)), some (vI (t 31)), some (vI 0), some (vI 1)] [] (hS (hS (hS (hS (hS h 57 (mO (mS t 31 (t 31 + 1)))) 76 (cI 8 (fS pp S.2.1.2 S.1.1))) 77 (cI 8 (fS pa S.2.1.2 alt))) 79 (.inl (2, 8, fS pm S.2.1.2 mb))) 57 (mO (mS (mS t 31 (t 31 + 1)) 32 (t 32 + 1)))) := by
      rw [show some (vI (t 31)) = some (vI (S.2.1.2 : Int)) by rw [t31i]]
      exact hgo
    refine k_enp 3 (Nat.le_of_ble_eq_true rfl) (p_go [85] 80 ?_)
    rcases hmb with ⟨q1, q2⟩ | ⟨q1, q2⟩
    · have e91 : (f rc = 91) = False := eq_false (by omega)
      rw [q2] at fin
      simp only [st_0, st_1, st_2, st_3, st_4, st_5, st_6, st_7, st_8, st_9, st_10, st_11, st_12, st_13, st_14, st_15, st_16, st_17, st_18, st_19, st_20, st_21, st_22, st_23, st_24, st_25, st_26, st_27, st_28, st_29, st_30, st_31, st_32, st_33, st_34, st_34a, st_35, st_36, st_37, st_38, st_39, st_42, st_44, st_45, st_47, st_40, st_41, st_46, st_48, st_49, st_43, go_0, go_s, cut_0, cut_s, get_0, get_s, put_0, put_1, put_s, clr_0, clr_s, unl_i, unl_l, unl_r, unl_n, nth_0, nth_s, sf_0, sf_s, cnd_0, cnd_1, cnd_2, cnd_3, cnd_4, cnd_5, fit_0, fit_1, fit_2, en_0, en_i, en_l, en_r, kb_t, kb_f, kb_n, sw_0, sw_s, ↓reduceIte, Nat.reduceEqDiff, Nat.left_eq_add, Nat.add_eq_left, Nat.add_left_cancel_iff, Nat.reduceAdd, Int.reduceLT, Int.reduceLE, Int.reduceAdd, Int.reduceSub, Int.reduceNeg, Int.reduceMul, Int.reduceToNat, Int.reduceEq, reduceCtorEq, true_and, and_true, true_or, or_true, and_false, false_and, or_false, false_or, not_true_eq_false, not_false_eq_true, Nat.le_refl, and_self, Sum.inl.injEq, Sum.inr.injEq, Option.some.injEq, hS_2, k_isref, pd_0, pd_s, List.cons_append, List.nil_append, Option.toList_none, Option.toList_some, tX12_choice, rX12_choice, h1, k91, k92, k94, e8, e91, t31]
      repeat (first | exact fin | refine ⟨⟨by omega, by omega⟩, ?_⟩ | refine And.intro (by omega) ?_)
    · have e91 : (f rc = 91) = True := eq_true q1
      rw [q2] at fin
      simp only [st_0, st_1, st_2, st_3, st_4, st_5, st_6, st_7, st_8, st_9, st_10, st_11, st_12, st_13, st_14, st_15, st_16, st_17, st_18, st_19, st_20, st_21, st_22, st_23, st_24, st_25, st_26, st_27, st_28, st_29, st_30, st_31, st_32, st_33, st_34, st_34a, st_35, st_36, st_37, st_38, st_39, st_42, st_44, st_45, st_47, st_40, st_41, st_46, st_48, st_49, st_43, go_0, go_s, cut_0, cut_s, get_0, get_s, put_0, put_1, put_s, clr_0, clr_s, unl_i, unl_l, unl_r, unl_n, nth_0, nth_s, sf_0, sf_s, cnd_0, cnd_1, cnd_2, cnd_3, cnd_4, cnd_5, fit_0, fit_1, fit_2, en_0, en_i, en_l, en_r, kb_t, kb_f, kb_n, sw_0, sw_s, ↓reduceIte, Nat.reduceEqDiff, Nat.left_eq_add, Nat.add_eq_left, Nat.add_left_cancel_iff, Nat.reduceAdd, Int.reduceLT, Int.reduceLE, Int.reduceAdd, Int.reduceSub, Int.reduceNeg, Int.reduceMul, Int.reduceToNat, Int.reduceEq, reduceCtorEq, true_and, and_true, true_or, or_true, and_false, false_and, or_false, false_or, not_true_eq_false, not_false_eq_true, Nat.le_refl, and_self, Sum.inl.injEq, Sum.inr.injEq, Option.some.injEq, hS_2, k_isref, pd_0, pd_s, List.cons_append, List.nil_append, Option.toList_none, Option.toList_some, tX12_choice, rX12_choice, h1, k91, k92, k94, e8, e91, t31]
      repeat (first | exact fin | refine ⟨⟨by omega, by omega⟩, ?_⟩ | refine And.intro (by omega) ?_)
theorem rowAll (hM : MLx h0 s g R E) (hE : EnvI R E) (h9 : s 9 = en) (hen : en ≤ 400) (hfg : ∀ k, k < en → f k = g k % 256) (hgb : ∀ k, k < 400 → -128 ≤ g k ∧ g k ≤ 127) : ∀ n, RwC x R E f en h0 s n
  | 0 => e_row hM hE h9 hen hfg hgb (e_choiceN hM h9 hen hfg (fun m hm => by omega))
  | n + 1 => e_row hM hE h9 hen hfg hgb (e_choiceN hM h9 hen hfg (fun m hm => by
      have : m = n := by omega
      subst this
      exact rowAll hM hE h9 hen hfg hgb m))
end Mchc80
