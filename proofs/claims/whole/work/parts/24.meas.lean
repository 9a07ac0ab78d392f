/-! distances: SpokenDesk$Measure -/
/-- alike below the limit -/
abbrev te (L a b : Int) : Prop := a = b ∨ (L ≤ a ∧ L ≤ b)
/-- a line as it is held: exact below the limit between lo and hi; at the limit or above elsewhere -/
def Ln (L : Int) (w : Nat) (e g : F_) (lo hi : Int) : Prop := (lo = -1 ∧ hi = -1 ∧ ∀ j : Nat, j ≤ w → L ≤ e j) ∨ (0 ≤ lo ∧ lo ≤ hi ∧ hi ≤ w ∧ ∀ j : Nat, j ≤ w → ((j : Int) < lo ∨ hi < j → L ≤ e j) ∧ (lo ≤ j ∧ (j : Int) ≤ hi → te L (g j) (e j)))
/-- the next line out of a line: for a sound that costs al alone, nb beside the others; n0: the others alone -/
def nxl (e0 : F_) (al : Int) (nb n0 : F_) : Nat → Int
  | 0 => e0 0 + al
  | c + 1 => min (e0 (c + 1) + al) (min (nxl e0 al nb n0 c + n0 (c + 1)) (e0 c + nb (c + 1)))
def Ms (h : PH) (q cq : Nat) (ac fl ln : F_) (w lo hi : Int) : Prop := h.2 q = some (cO 4 [vR (q + 1), vR (q + 2), vR (q + 3), vR cq, vR (cq + 2), vI w, vI lo, vI hi]) ∧ h.2 (q + 1) = some (cI 41 ac) ∧ h.2 (q + 2) = some (cI 41 fl) ∧ h.2 (q + 3) = some (cI 41 ln)
theorem nxl_low {L : Int} {w : Nat} {e0 : F_} {al : Int} {nb n0 : F_} (h0 : 0 ≤ al) (hb : ∀ c, c ≤ w → 0 ≤ nb c) (hn : ∀ c, c ≤ w → 0 ≤ n0 c) (lo : Nat) (hlo : ∀ j, j < lo → j ≤ w → L ≤ e0 j) : ∀ c, c < lo → c ≤ w → L ≤ nxl e0 al nb n0 c
  | 0, h1, h2 => by have := hlo 0 h1 h2; simp only [nxl]; omega
  | c + 1, h1, h2 => by
    have a1 := hlo (c + 1) h1 h2
    have a2 := hlo c (by omega) (by omega)
    have a3 := nxl_low h0 hb hn lo hlo c (by omega) (by omega)
    have a4 := hb (c + 1) h2
    have a5 := hn (c + 1) h2
    simp only [nxl]
    omega
theorem nxl_up {L : Int} {w : Nat} {e0 : F_} {al : Int} {nb n0 : F_} (h0 : 0 ≤ al) (hb : ∀ c, c ≤ w → 0 ≤ nb c) (hn : ∀ c, c ≤ w → 0 ≤ n0 c) (c0 : Nat) (h1 : L ≤ nxl e0 al nb n0 c0) (h2 : ∀ j, c0 ≤ j → j ≤ w → L ≤ e0 j) : ∀ c, c0 ≤ c → c ≤ w → L ≤ nxl e0 al nb n0 c
  | 0, a1, a2 => by have : c0 = 0 := by omega
                    rw [← this]; exact h1
  | c + 1, a1, a2 => by
    by_cases e : c0 = c + 1
    · rw [← e]; exact h1
    · have b1 := h2 (c + 1) (by omega) a2
      have b2 := h2 c (by omega) (by omega)
      have b3 := nxl_up h0 hb hn c0 h1 h2 c (by omega) (by omega)
      have b4 := hb (c + 1) a2
      have b5 := hn (c + 1) a2
      simp only [nxl]
      omega
/-- what is known at column c of a line that is being filled -/
def FlI (B L : Int) (w : Nat) (e0 : F_) (al : Int) (nb n0 : F_) (lo c : Nat) (co le fr to : Int) (g : F_) : Prop :=
  (0 ≤ co ∧ co ≤ B) ∧ (0 ≤ le ∧ le ≤ B + 100) ∧ (c = 0 → co = 1000000 ∧ le = 1000000) ∧ (0 < c → te L co (e0 (c - 1)) ∧ te L le (nxl e0 al nb n0 (c - 1))) ∧
  (∀ j, lo ≤ j → j < c → te L (g j) (nxl e0 al nb n0 j) ∧ 0 ≤ g j ∧ g j ≤ B + 100) ∧
  ((fr = -1 ∧ to = -1 ∧ ∀ j, j < c → L ≤ nxl e0 al nb n0 j) ∨ ((lo : Int) ≤ fr ∧ fr ≤ to ∧ to < c ∧ ∀ j : Nat, j < c → ((j : Int) < fr ∨ to < j) → L ≤ nxl e0 al nb n0 j))
/-- one column more -/
theorem FlI_step {B L : Int} {w : Nat} {e0 : F_} {al : Int} {nb n0 : F_} {lo c : Nat} {co le fr to : Int} {g : F_} {up s : Int} (hI : FlI B L w e0 al nb n0 lo c co le fr to g) (hal : 0 ≤ al ∧ al ≤ 100) (hnb : 0 ≤ nb c ∧ nb c ≤ 100) (hn0 : 0 ≤ n0 c ∧ n0 c ≤ 100) (hlo : lo ≤ c) (hL : 0 ≤ L ∧ L ≤ 1000000) (hup : te L up (e0 c)) (hub : 0 ≤ up ∧ up ≤ B)
    (hs : s = min (min (up + al) (co + nb c)) (le + n0 c)) : te L s (nxl e0 al nb n0 c) ∧ 0 ≤ s ∧
    FlI B L w e0 al nb n0 lo (c + 1) up s (if s < L then (if fr = -1 then (c : Int) else fr) else fr) (if s < L then (c : Int) else to) (fS g c s) := by
  obtain ⟨i1, i2, i3, i4, i5, i6⟩ := hI
  have hsu : s ≤ B + 100 := by omega
  have key : te L s (nxl e0 al nb n0 c) := by
    cases c with
    | zero =>
      obtain ⟨a1, a2⟩ := i3 rfl
      simp only [nxl]
      omega
    | succ c =>
      obtain ⟨a1, a2⟩ := i4 (by omega)
      simp only [Nat.add_sub_cancel] at a1 a2
      simp only [nxl]
      omega
  refine ⟨key, by omega, hub, ⟨by omega, hsu⟩, fun h => by omega, fun _ => ⟨by rw [Nat.add_sub_cancel]; exact hup, by rw [Nat.add_sub_cancel]; exact key⟩, fun j h1 h2 => ?_, ?_⟩
  · by_cases e : j = c
    · rw [e, fS_s]; exact ⟨key, by omega, hsu⟩
    · rw [fS_n e]; exact i5 j h1 (by omega)
  · by_cases hsl : s < L
    · rw [if_pos hsl, if_pos hsl]
      right
      rcases i6 with ⟨rfl, rfl, hj⟩ | ⟨b1, b2, b3, hj⟩
      · rw [if_pos rfl]
        exact ⟨by omega, by omega, by omega, fun j h1 h2 => hj j (by omega)⟩
      · rw [if_neg (by omega)]
        exact ⟨by omega, by omega, by omega, fun j h1 h2 => hj j (by omega) (by omega)⟩
    · rw [if_neg hsl, if_neg hsl]
      rcases i6 with ⟨rfl, rfl, hj⟩ | ⟨b1, b2, b3, hj⟩
      · left
        refine ⟨rfl, rfl, fun j h1 => ?_⟩
        by_cases e : j = c
        · rw [e]; omega
        · exact hj j (by omega)
      · right
        refine ⟨b1, b2, by omega, fun j h1 h2 => ?_⟩
        by_cases e : j = c
        · rw [e]; omega
        · exact hj j (by omega) h2
section Meas24
variable {x : Bool} {d : Nat} {h : PH} {q cq : Nat} {ac fl ln : F_}
/-- the sounds of the row that is laid, as places among the nears -/
def acOk (ac : F_) (w : Nat) : Prop := ac 0 = 0 ∧ ∀ c, c ≤ w → 0 ≤ ac c ∧ ac c < 17
set_option maxRecDepth 100000 in
set_option maxHeartbeats 4000000 in
theorem w_fill {N u : F_} {w lo hi sd : Nat} {L B : Int} {e0 : F_} {ua : Nat} (P : PO → PH → Prop)
    (h0 : h.2 5 = some (cO 4 [vR 6, vR 7, vR 8, vR 2, vR 4, vI w, vI lo, vI hi])) (h1 : h.2 6 = some (cI 41 ac)) (hN : h.2 4 = some (cI 289 N))
    (hua : (ua = 7 ∧ h.2 7 = some (cI 41 u)) ∨ ua = 8) (hNo : cOk N) (hac : acOk ac w) (hw : w ≤ 40) (hsd : sd < 17) (hL : 0 ≤ L ∧ L ≤ 1000000) (hB : 1000000 ≤ B ∧ B ≤ 1010000) (hhi : hi ≤ w) (hu : ∀ j, lo ≤ j → j ≤ hi → te L (u j) (e0 j) ∧ 0 ≤ u j ∧ u j ≤ B) (hout : ∀ j, hi < j → j ≤ w → L ≤ e0 j)
    (hP : ∀ (g : F_) (fr to : Int), Ln L w (nxl e0 (N (17 * sd)) (fun c => N (17 * sd + (ac c).toNat)) (fun c => N (ac c).toNat)) g fr to → (∀ j : Nat, fr ≤ j → (j : Int) ≤ to → 0 ≤ g j ∧ g j ≤ B + 100) → P rV (hS (hS h 8 (cI 41 g)) 5 (cO 4 [vR 6, vR 7, vR 8, vR 2, vR 4, vI w, vI fr, vI to]))) :
    ∀ (j c : Nat) (co le fr to : Int) (g : F_), c + j = w + 1 → lo ≤ c → (ua = 8 → ∀ i, c ≤ i → g i = u i) →
    FlI B L w e0 (N (17 * sd)) (fun c => N (17 * sd + (ac c).toNat)) (fun c => N (ac c).toNat) lo c co le fr to g →
    k_Wp x d 0 0 mX4_fillLine P 0 0 35 [some (vR 5), some (vR ua), some (vI sd), some (vI L), some (vI ((17 * sd : Nat) : Int)), some (vI (N (17 * sd))), some (vI co), some (vI le), some (vI fr), some (vI to), some (vI c), none, none, none, none] [] (hS h 8 (cI 41 g)) := by
  have hal := hNo.2 (17 * sd) (by omega)
  have hn : ∀ c, c ≤ w → 0 ≤ N (ac c).toNat ∧ N (ac c).toNat ≤ 100 := fun c hc => hNo.2 _ (by have := hac.2 c hc; omega)
  have hb : ∀ c, c ≤ w → 0 ≤ N (17 * sd + (ac c).toNat) ∧ N (17 * sd + (ac c).toNat) ≤ 100 := fun c hc => hNo.2 _ (by have := hac.2 c hc; omega)
  -- the end, at any place where all behind is at the limit
  have fin : ∀ (c : Nat) (co le fr to : Int) (g : F_), c ≤ w + 1 → lo ≤ c → (∀ i, c ≤ i → i ≤ w → L ≤ nxl e0 (N (17 * sd)) (fun c => N (17 * sd + (ac c).toNat)) (fun c => N (ac c).toNat) i) →
      FlI B L w e0 (N (17 * sd)) (fun c => N (17 * sd + (ac c).toNat)) (fun c => N (ac c).toNat) lo c co le fr to g →
      P rV (hS (hS h 8 (cI 41 g)) 5 (cO 4 [vR 6, vR 7, vR 8, vR 2, vR 4, vI w, vI fr, vI to])) := by
    intro c co le fr to g hc hlo hbe hI
    obtain ⟨-, -, -, -, i5, i6⟩ := hI
    refine hP g fr to ?_ ?_
    · rcases i6 with ⟨f1, f2, f3⟩ | ⟨f1, f2, f3, f4⟩
      · refine Or.inl ⟨f1, f2, fun i hi => ?_⟩
        by_cases e : i < c
        · exact f3 i e
        · exact hbe i (by omega) hi
      · refine Or.inr ⟨by omega, f2, by omega, fun i hi => ⟨fun q => ?_, fun q => ?_⟩⟩
        · by_cases e : i < c
          · exact f4 i e q
          · exact hbe i (by omega) hi
        · exact (i5 i (by omega) (by omega)).1
    · intro i q1 q2
      rcases i6 with ⟨f1, f2, f3⟩ | ⟨f1, f2, f3, f4⟩
      · omega
      · exact (i5 i (by omega) (by omega)).2
  intro j
  induction j with
  | zero =>
    intro c co le fr to g hj hlo hg hI
    have e1 : (w : Int) < c := by omega
    refine p_go [] 40 ?_
    simp only [st_0, st_1, st_2, st_3, st_4, st_5, st_6, st_7, st_8, st_9, st_10, st_11, st_12, st_13, st_14, st_15, st_16, st_17, st_18, st_19, st_20, st_21, st_22, st_23, st_24, st_25, st_26, st_27, st_28, st_29, st_30, st_31, st_32, st_33, st_34, st_34a, st_35, st_36, st_37, st_38, st_39, st_42, st_44, st_45, st_47, st_40, st_41, st_46, st_48, st_49, st_43, go_0, go_s, cut_0, cut_s, get_0, get_s, put_0, put_1, put_s, clr_0, clr_s, unl_i, unl_l, unl_r, unl_n, nth_0, nth_s, sf_0, sf_s, cnd_0, cnd_1, cnd_2, cnd_3, cnd_4, cnd_5, fit_0, fit_1, fit_2, en_0, en_i, en_l, en_r, kb_t, kb_f, kb_n, sw_0, sw_s, ↓reduceIte, Nat.reduceEqDiff, Nat.left_eq_add, Nat.add_eq_left, Nat.add_left_cancel_iff, Nat.reduceAdd, Int.reduceLT, Int.reduceLE, Int.reduceAdd, Int.reduceSub, Int.reduceNeg, Int.reduceMul, Int.reduceToNat, Int.reduceEq, reduceCtorEq, true_and, and_true, true_or, or_true, and_false, false_and, or_false, false_or, not_true_eq_false, not_false_eq_true, Nat.le_refl, and_self, Sum.inl.injEq, Sum.inr.injEq, Option.some.injEq, hS_2, k_isref, pd_0, pd_s, List.cons_append, List.nil_append, Option.toList_none, Option.toList_some, tX4_fillLine, rX4_fillLine, h0, e1, hS_hS]
    exact fin c co le fr to g (by omega) hlo (fun i q1 q2 => by omega) hI
  | succ j ih =>
    intro c co le fr to g hj hlo hg hI
    have e1 : ¬ (w : Int) < c := by omega
    have hacc := hac.2 c (by omega)
    have e2 : (((17 * sd : Nat) : Int) + ac c).toNat = 17 * sd + (ac c).toNat := by omega
    have hnc := hn c (by omega)
    have hbc := hb c (by omega)
    have i1 := hI.1
    have i2 := hI.2.1
    -- stage 3: from where the sum is there
    have s3 : ∀ (up s le' be ot : Int), te L up (e0 c) → 0 ≤ up ∧ up ≤ B → s = min (min (up + N (17 * sd)) (co + N (17 * sd + (ac c).toNat))) (le + N (ac c).toNat) → (c ≤ hi ∨ hi < c) →
        k_Wp x d 0 0 mX4_fillLine P 0 0 138 [some (vR 5), some (vR ua), some (vI sd), some (vI L), some (vI ((17 * sd : Nat) : Int)), some (vI (N (17 * sd))), some (vI co), some (vI le'), some (vI fr), some (vI to), some (vI c), some (vI up), some (vI ot), some (vI be), some (vI s)] [] (hS h 8 (cI 41 g)) := by
      intro up s le' be ot hup hub hs hch
      obtain ⟨st1, st2, st3⟩ := FlI_step hI hal hbc hnc hlo hL hup hub hs
      have hg' : ua = 8 → ∀ i, c + 1 ≤ i → fS g c s i = u i := fun q i hi => by rw [fS_n (by omega)]; exact hg q i (by omega)
      refine p_go [35] 60 ?_
      simp only [st_0, st_1, st_2, st_3, st_4, st_5, st_6, st_7, st_8, st_9, st_10, st_11, st_12, st_13, st_14, st_15, st_16, st_17, st_18, st_19, st_20, st_21, st_22, st_23, st_24, st_25, st_26, st_27, st_28, st_29, st_30, st_31, st_32, st_33, st_34, st_34a, st_35, st_36, st_37, st_38, st_39, st_42, st_44, st_45, st_47, st_40, st_41, st_46, st_48, st_49, st_43, go_0, go_s, cut_0, cut_s, get_0, get_s, put_0, put_1, put_s, clr_0, clr_s, unl_i, unl_l, unl_r, unl_n, nth_0, nth_s, sf_0, sf_s, cnd_0, cnd_1, cnd_2, cnd_3, cnd_4, cnd_5, fit_0, fit_1, fit_2, en_0, en_i, en_l, en_r, kb_t, kb_f, kb_n, sw_0, sw_s, ↓reduceIte, Nat.reduceEqDiff, Nat.left_eq_add, Nat.add_eq_left, Nat.add_left_cancel_iff, Nat.reduceAdd, Int.reduceLT, Int.reduceLE, Int.reduceAdd, Int.reduceSub, Int.reduceNeg, Int.reduceMul, Int.reduceToNat, Int.reduceEq, reduceCtorEq, true_and, and_true, true_or, or_true, and_false, false_and, or_false, false_or, not_true_eq_false, not_false_eq_true, Nat.le_refl, and_self, Sum.inl.injEq, Sum.inr.injEq, Option.some.injEq, hS_2, k_isref, pd_0, pd_s, List.cons_append, List.nil_append, Option.toList_none, Option.toList_some, tX4_fillLine, rX4_fillLine, h0, h1, hN, hS_hS, nat1, Int.toNat_natCast]
      refine ⟨⟨by omega, by omega⟩, ?_⟩
      refine k_brI (fun hC => ?_) (fun hC => ?_)
      · rw [if_neg (show ¬ s < L by omega), if_neg (show ¬ s < L by omega)] at st3
        refine k_brI (fun hE => ⟨⟨by omega, by omega⟩, p_sub (by (repeat (first | exact le_nil | refine le_s ?_ | refine le_n ?_))) (ih (c + 1) _ _ _ _ _ (by omega) (by omega) hg' st3)⟩) (fun hE => ?_)
        refine fin (c + 1) up s fr to (fS g c s) (by omega) (by omega) (fun i q1 q2 => ?_) st3
        exact nxl_up hal.1 (fun c hc => (hb c hc).1) (fun c hc => (hn c hc).1) c (by omega) (fun j q3 q4 => hout j (by omega) q4) i (by omega) q2
      · rw [if_pos (show s < L by omega), if_pos (show s < L by omega)] at st3
        refine k_brI (fun hD => ?_) (fun hD => ?_)
        · rw [if_pos hD] at st3
          exact ⟨⟨by omega, by omega⟩, p_sub (by (repeat (first | exact le_nil | refine le_s ?_ | refine le_n ?_))) (ih (c + 1) _ _ _ _ _ (by omega) (by omega) hg' st3)⟩
        · rw [if_neg hD] at st3
          exact ⟨⟨by omega, by omega⟩, p_sub (by (repeat (first | exact le_nil | refine le_s ?_ | refine le_n ?_))) (ih (c + 1) _ _ _ _ _ (by omega) (by omega) hg' st3)⟩
    -- stage 2: from where what lies above is on the stack
    have s2 : ∀ (up : Int), te L up (e0 c) → 0 ≤ up ∧ up ≤ B → (c ≤ hi ∨ hi < c) →
        k_Wp x d 0 0 mX4_fillLine P 0 0 62 [some (vR 5), some (vR ua), some (vI sd), some (vI L), some (vI ((17 * sd : Nat) : Int)), some (vI (N (17 * sd))), some (vI co), some (vI le), some (vI fr), some (vI to), some (vI c), none, none, none, none] [vI up] (hS h 8 (cI 41 g)) := by
      intro up hup hub hch
      refine p_go [138] 60 ?_
      simp only [st_0, st_1, st_2, st_3, st_4, st_5, st_6, st_7, st_8, st_9, st_10, st_11, st_12, st_13, st_14, st_15, st_16, st_17, st_18, st_19, st_20, st_21, st_22, st_23, st_24, st_25, st_26, st_27, st_28, st_29, st_30, st_31, st_32, st_33, st_34, st_34a, st_35, st_36, st_37, st_38, st_39, st_42, st_44, st_45, st_47, st_40, st_41, st_46, st_48, st_49, st_43, go_0, go_s, cut_0, cut_s, get_0, get_s, put_0, put_1, put_s, clr_0, clr_s, unl_i, unl_l, unl_r, unl_n, nth_0, nth_s, sf_0, sf_s, cnd_0, cnd_1, cnd_2, cnd_3, cnd_4, cnd_5, fit_0, fit_1, fit_2, en_0, en_i, en_l, en_r, kb_t, kb_f, kb_n, sw_0, sw_s, ↓reduceIte, Nat.reduceEqDiff, Nat.left_eq_add, Nat.add_eq_left, Nat.add_left_cancel_iff, Nat.reduceAdd, Int.reduceLT, Int.reduceLE, Int.reduceAdd, Int.reduceSub, Int.reduceNeg, Int.reduceMul, Int.reduceToNat, Int.reduceEq, reduceCtorEq, true_and, and_true, true_or, or_true, and_false, false_and, or_false, false_or, not_true_eq_false, not_false_eq_true, Nat.le_refl, and_self, Sum.inl.injEq, Sum.inr.injEq, Option.some.injEq, hS_2, k_isref, pd_0, pd_s, List.cons_append, List.nil_append, Option.toList_none, Option.toList_some, tX4_fillLine, rX4_fillLine, h0, h1, hN, e2, Int.toNat_natCast]
      (repeat' (first | refine k_brI (fun _ => ?_) (fun _ => ?_) | refine And.intro ?_ ?_))
      all_goals try omega
      all_goals exact s3 _ _ _ _ _ hup hub (by omega) hch
    refine p_go [62] 40 ?_
    rcases hua with ⟨rfl, hua⟩ | rfl
    · simp only [st_0, st_1, st_2, st_3, st_4, st_5, st_6, st_7, st_8, st_9, st_10, st_11, st_12, st_13, st_14, st_15, st_16, st_17, st_18, st_19, st_20, st_21, st_22, st_23, st_24, st_25, st_26, st_27, st_28, st_29, st_30, st_31, st_32, st_33, st_34, st_34a, st_35, st_36, st_37, st_38, st_39, st_42, st_44, st_45, st_47, st_40, st_41, st_46, st_48, st_49, st_43, go_0, go_s, cut_0, cut_s, get_0, get_s, put_0, put_1, put_s, clr_0, clr_s, unl_i, unl_l, unl_r, unl_n, nth_0, nth_s, sf_0, sf_s, cnd_0, cnd_1, cnd_2, cnd_3, cnd_4, cnd_5, fit_0, fit_1, fit_2, en_0, en_i, en_l, en_r, kb_t, kb_f, kb_n, sw_0, sw_s, ↓reduceIte, Nat.reduceEqDiff, Nat.left_eq_add, Nat.add_eq_left, Nat.add_left_cancel_iff, Nat.reduceAdd, Int.reduceLT, Int.reduceLE, Int.reduceAdd, Int.reduceSub, Int.reduceNeg, Int.reduceMul, Int.reduceToNat, Int.reduceEq, reduceCtorEq, true_and, and_true, true_or, or_true, and_false, false_and, or_false, false_or, not_true_eq_false, not_false_eq_true, Nat.le_refl, and_self, Sum.inl.injEq, Sum.inr.injEq, Option.some.injEq, hS_2, k_isref, pd_0, pd_s, List.cons_append, List.nil_append, Option.toList_none, Option.toList_some, tX4_fillLine, rX4_fillLine, h0, h1, hN, e1, hua, Int.toNat_natCast]
      refine k_brI (fun hc => s2 1000000 (Or.inr ⟨by omega, hout c (by omega) (by omega)⟩) (by omega) (by omega)) (fun hc => ⟨⟨by omega, by omega⟩, ?_⟩)
      obtain ⟨u1, u2⟩ := hu c hlo (by omega)
      exact s2 (u c) u1 u2 (by omega)
    · simp only [st_0, st_1, st_2, st_3, st_4, st_5, st_6, st_7, st_8, st_9, st_10, st_11, st_12, st_13, st_14, st_15, st_16, st_17, st_18, st_19, st_20, st_21, st_22, st_23, st_24, st_25, st_26, st_27, st_28, st_29, st_30, st_31, st_32, st_33, st_34, st_34a, st_35, st_36, st_37, st_38, st_39, st_42, st_44, st_45, st_47, st_40, st_41, st_46, st_48, st_49, st_43, go_0, go_s, cut_0, cut_s, get_0, get_s, put_0, put_1, put_s, clr_0, clr_s, unl_i, unl_l, unl_r, unl_n, nth_0, nth_s, sf_0, sf_s, cnd_0, cnd_1, cnd_2, cnd_3, cnd_4, cnd_5, fit_0, fit_1, fit_2, en_0, en_i, en_l, en_r, kb_t, kb_f, kb_n, sw_0, sw_s, ↓reduceIte, Nat.reduceEqDiff, Nat.left_eq_add, Nat.add_eq_left, Nat.add_left_cancel_iff, Nat.reduceAdd, Int.reduceLT, Int.reduceLE, Int.reduceAdd, Int.reduceSub, Int.reduceNeg, Int.reduceMul, Int.reduceToNat, Int.reduceEq, reduceCtorEq, true_and, and_true, true_or, or_true, and_false, false_and, or_false, false_or, not_true_eq_false, not_false_eq_true, Nat.le_refl, and_self, Sum.inl.injEq, Sum.inr.injEq, Option.some.injEq, hS_2, k_isref, pd_0, pd_s, List.cons_append, List.nil_append, Option.toList_none, Option.toList_some, tX4_fillLine, rX4_fillLine, h0, h1, hN, e1, Int.toNat_natCast]
      refine k_brI (fun hc => s2 1000000 (Or.inr ⟨by omega, hout c (by omega) (by omega)⟩) (by omega) (by omega)) (fun hc => ⟨⟨by omega, by omega⟩, ?_⟩)
      obtain ⟨u1, u2⟩ := hu c hlo (by omega)
      rw [hg rfl c (Nat.le_refl c)]
      exact s2 (u c) u1 u2 (by omega)
end Meas24
