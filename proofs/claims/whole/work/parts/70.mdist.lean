/-! the reference: distanceOf -/
section Mdist70
variable {x : Bool} {d : Nat} {h h0 : PH} {s : F_} {P : PO → PH → Prop} {N : F_} {a b : Nat → Nat}
/-- nears are the same both ways -/
def symN (N : F_) : Prop := ∀ i j, i < 17 → j < 17 → N (17 * i + j) = N (17 * j + i)
theorem ds_00 : ds N a 0 b 0 = 0 := rfl
theorem ds_i0 {i : Nat} : ds N a (i + 1) b 0 = ds N a i b 0 + N (a i) := rfl
theorem ds_0j {j : Nat} : ds N a 0 b (j + 1) = ds N a 0 b j + N (17 * b j) := rfl
theorem ds_ij {i j : Nat} : ds N a (i + 1) b (j + 1) = min (ds N a (i + 1) b j + N (17 * b j)) (min (ds N a i b (j + 1) + N (a i)) (ds N a i b j + N (17 * b j + a i))) := rfl
theorem symN_0 {c : Nat} (hN : symN N) (hc : c < 17) : N c = N (17 * c) := by
  have := hN 0 c (by omega) hc
  rw [Nat.mul_zero, Nat.zero_add, Nat.add_zero] at this
  exact this
theorem ds_b (hN : cOk N) (ha : ∀ i, a i < 17) (hb : ∀ i, b i < 17) : ∀ i j, 0 ≤ ds N a i b j ∧ ds N a i b j ≤ 100 * (i + j : Nat)
  | 0, 0 => by rw [ds_00]; omega
  | i + 1, 0 => by
    have h1 := ds_b hN ha hb i 0
    have h2 := hN.2 (a i) (by have := ha i; omega)
    rw [ds_i0]
    omega
  | 0, j + 1 => by
    have h1 := ds_b hN ha hb 0 j
    have h2 := hN.2 (17 * b j) (by have := hb j; omega)
    rw [ds_0j]
    omega
  | i + 1, j + 1 => by
    have h1 := ds_b hN ha hb (i + 1) j
    have h2 := ds_b hN ha hb i (j + 1)
    have h3 := ds_b hN ha hb i j
    have h4 := hN.2 (17 * b j) (by have := hb j; omega)
    have h5 := hN.2 (a i) (by have := ha i; omega)
    have h6 := hN.2 (17 * b j + a i) (by have := ha i; have := hb j; omega)
    rw [ds_ij]
    omega
theorem ds_sym (hN : symN N) (ha : ∀ i, a i < 17) (hb : ∀ i, b i < 17) : ∀ i j, ds N a i b j = ds N b j a i
  | 0, 0 => rfl
  | i + 1, 0 => by
    rw [ds_i0, ds_0j, ds_sym hN ha hb i 0, symN_0 hN (ha i)]
  | 0, j + 1 => by
    rw [ds_0j, ds_i0, ds_sym hN ha hb 0 j, symN_0 hN (hb j)]
  | i + 1, j + 1 => by
    rw [ds_ij, ds_ij, ds_sym hN ha hb (i + 1) j, ds_sym hN ha hb i (j + 1), ds_sym hN ha hb i j, symN_0 hN (ha i), symN_0 hN (hb j), hN (b j) (a i) (hb j) (ha i)]
    omega
/-- the table, filled before line i, column j -/
def tbI (N : F_) (a b : Nat → Nat) (m i j : Nat) (tb : F_) : Prop := ∀ u v, ((u < i ∧ v ≤ m) ∨ (u = i ∧ v < j)) → tb (41 * u + v) = ds N a u b v
theorem tbI_s {m i j : Nat} {tb : F_} {v : Int} (h : tbI N a b m i j tb) (hm : m ≤ 40) (hj : j ≤ 40) (hv : v = ds N a i b j) : tbI N a b m i (j + 1) (fS tb (41 * i + j) v) := by
  intro u w hw
  by_cases e : 41 * u + w = 41 * i + j
  · have e1 : u = i ∧ w = j := by omega
    rw [e, fS_s, hv, e1.1, e1.2]
  · rw [fS_n e]
    exact h u w (by omega)
/-- a row's sounds, made fit -/
abbrev sdg (sf : F_) (o : Nat) (m : Nat) : Nat → Nat := fun i => if i < m then (sf (o + i) + 1).toNat else 0
theorem sdg_17 {sf : F_} {o m : Nat} (hv : rvd sf o m) (i : Nat) : sdg sf o m i < 17 := by
  show (if i < m then (sf (o + i) + 1).toNat else 0) < 17
  split
  · have := hv i (by omega)
    omega
  · omega
theorem ds_congr {a' b' : Nat → Nat} {la lb : Nat} (h1 : ∀ i, i < la → a i = a' i) (h2 : ∀ i, i < lb → b i = b' i) : ∀ i j, i ≤ la → j ≤ lb → ds N a i b j = ds N a' i b' j
  | 0, 0, _, _ => rfl
  | i + 1, 0, hi, hj => by rw [ds_i0, ds_i0, ds_congr h1 h2 i 0 (by omega) hj, h1 i (by omega)]
  | 0, j + 1, hi, hj => by rw [ds_0j, ds_0j, ds_congr h1 h2 0 j hi (by omega), h2 j (by omega)]
  | i + 1, j + 1, hi, hj => by rw [ds_ij, ds_ij, ds_congr h1 h2 (i + 1) j hi (by omega), ds_congr h1 h2 i (j + 1) (by omega) hj, ds_congr h1 h2 i j (by omega) (by omega), h1 i (by omega), h2 j (by omega)]
set_option maxRecDepth 100000 in
set_option maxHeartbeats 4000000 in
theorem w_dj {A B nA nB fr st n m : Nat} {sA sB : F_} (h1 : h.2 57 = some (mO s)) (h74 : h.2 59 = some (cI 289 N)) (hA : h.2 A = some (cI nA sA)) (hB : h.2 B = some (cI nB sB)) (hA75 : (A = 60) = False) (hB75 : (B = 60) = False) (hfr : fr + n ≤ nA) (hst : st + m ≤ nB) (hnA : nA ≤ 4800) (hnB : nB ≤ 4800) (hn : n ≤ 40) (hm : m ≤ 40) (hvA : rvd sA fr n) (hvB : rvd sB st m) (hN : cOk N) (hsy : symN N) {i : Nat} (hi : i ≤ n)
    (kk : ∀ tb, tbI N (sdg sA fr n) (sdg sB st m) m (i + 1) 0 tb → k_Wp x d 0 0 mX12_distanceOf P 0 0 255 [some (vR 57), some (vR A), some (vI fr), some (vI n), some (vR B), some (vI st), some (vI m), some (vI i), none, none, none] [] (hS h 60 (cI 1681 tb))) : ∀ (k j : Nat) (tb : F_), j + k = m + 1 → tbI N (sdg sA fr n) (sdg sB st m) m i j tb →
    k_Wp x d 0 0 mX12_distanceOf P 0 0 16 [some (vR 57), some (vR A), some (vI fr), some (vI n), some (vR B), some (vI st), some (vI m), some (vI i), some (vI j), none, none] [] (hS h 60 (cI 1681 tb)) := by
  have gA : ∀ u, u < n → sA (fr + u) + 1 = (sdg sA fr n u : Int) ∧ sdg sA fr n u < 17 := fun u hu => by
    refine ⟨?_, sdg_17 hvA u⟩
    show sA (fr + u) + 1 = ((if u < n then (sA (fr + u) + 1).toNat else 0 : Nat) : Int)
    rw [if_pos hu]
    have := hvA u (by omega)
    omega
  have gB : ∀ u, u < m → sB (st + u) + 1 = (sdg sB st m u : Int) ∧ sdg sB st m u < 17 := fun u hu => by
    refine ⟨?_, sdg_17 hvB u⟩
    show sB (st + u) + 1 = ((if u < m then (sB (st + u) + 1).toNat else 0 : Nat) : Int)
    rw [if_pos hu]
    have := hvB u (by omega)
    omega
  have gD := fun i j => ds_b (N := N) hN (sdg_17 hvA) (sdg_17 hvB) i j
  generalize sdg sA fr n = a at gA gD kk ⊢
  generalize sdg sB st m = b at gB gD kk ⊢
  intro k
  induction k with
  | zero =>
    intro j tb hj hI
    have e1 : (m : Int) < j := by omega
    refine p_go [255] 40 ?_
    simp only [st_0, st_1, st_2, st_3, st_4, st_5, st_6, st_7, st_8, st_9, st_10, st_11, st_12, st_13, st_14, st_15, st_16, st_17, st_18, st_19, st_20, st_21, st_22, st_23, st_24, st_25, st_26, st_27, st_28, st_29, st_30, st_31, st_32, st_33, st_34, st_34a, st_35, st_36, st_37, st_38, st_39, st_42, st_44, st_45, st_47, st_40, st_41, st_46, st_48, st_49, st_43, go_0, go_s, cut_0, cut_s, get_0, get_s, put_0, put_1, put_s, clr_0, clr_s, unl_i, unl_l, unl_r, unl_n, nth_0, nth_s, sf_0, sf_s, cnd_0, cnd_1, cnd_2, cnd_3, cnd_4, cnd_5, fit_0, fit_1, fit_2, en_0, en_i, en_l, en_r, kb_t, kb_f, kb_n, sw_0, sw_s, ↓reduceIte, Nat.reduceEqDiff, Nat.left_eq_add, Nat.add_eq_left, Nat.add_left_cancel_iff, Nat.reduceAdd, Int.reduceLT, Int.reduceLE, Int.reduceAdd, Int.reduceSub, Int.reduceNeg, Int.reduceMul, Int.reduceToNat, Int.reduceEq, reduceCtorEq, true_and, and_true, true_or, or_true, and_false, false_and, or_false, false_or, not_true_eq_false, not_false_eq_true, Nat.le_refl, and_self, Sum.inl.injEq, Sum.inr.injEq, Option.some.injEq, hS_2, k_isref, pd_0, pd_s, List.cons_append, List.nil_append, Option.toList_none, Option.toList_some, tX12_distanceOf, rX12_distanceOf, e1]
    refine p_sub (by (repeat (first | exact le_nil | refine le_s ?_ | refine le_n ?_))) (kk tb (fun u v hw => hI u v (by omega)))
  | succ k ih =>
    intro j tb hj hI
    have e1 : ¬ (m : Int) < j := by omega
    have hst' := fun v hv => ih (j + 1) (fS tb (41 * i + j) v) (by omega) (tbI_s hI hm (by omega) hv)
    have e2 : ((41 : Int) * i + j).toNat = 41 * i + j := by omega
    have b0 := gD i j
    have hfin : ∀ v : Int, v = ds N a i b j → k_Wp x d 0 0 mX12_distanceOf P 0 0 234 [some (vR 57), some (vR A), some (vI fr), some (vI n), some (vR B), some (vI st), some (vI m), some (vI i), some (vI j), some (vI v), none] [] (hS h 60 (cI 1681 tb)) := by
      intro v hv
      have hl := hst' v hv
      refine p_go [16] 60 ?_
      simp only [st_0, st_1, st_2, st_3, st_4, st_5, st_6, st_7, st_8, st_9, st_10, st_11, st_12, st_13, st_14, st_15, st_16, st_17, st_18, st_19, st_20, st_21, st_22, st_23, st_24, st_25, st_26, st_27, st_28, st_29, st_30, st_31, st_32, st_33, st_34, st_34a, st_35, st_36, st_37, st_38, st_39, st_42, st_44, st_45, st_47, st_40, st_41, st_46, st_48, st_49, st_43, go_0, go_s, cut_0, cut_s, get_0, get_s, put_0, put_1, put_s, clr_0, clr_s, unl_i, unl_l, unl_r, unl_n, nth_0, nth_s, sf_0, sf_s, cnd_0, cnd_1, cnd_2, cnd_3, cnd_4, cnd_5, fit_0, fit_1, fit_2, en_0, en_i, en_l, en_r, kb_t, kb_f, kb_n, sw_0, sw_s, ↓reduceIte, Nat.reduceEqDiff, Nat.left_eq_add, Nat.add_eq_left, Nat.add_left_cancel_iff, Nat.reduceAdd, Int.reduceLT, Int.reduceLE, Int.reduceAdd, Int.reduceSub, Int.reduceNeg, Int.reduceMul, Int.reduceToNat, Int.reduceEq, reduceCtorEq, true_and, and_true, true_or, or_true, and_false, false_and, or_false, false_or, not_true_eq_false, not_false_eq_true, Nat.le_refl, and_self, Sum.inl.injEq, Sum.inr.injEq, Option.some.injEq, hS_2, k_isref, pd_0, pd_s, List.cons_append, List.nil_append, Option.toList_none, Option.toList_some, tX12_distanceOf, rX12_distanceOf, h1, e2, nat1, hS_hS]
      repeat (first | exact p_sub (by (repeat (first | exact le_nil | refine le_s ?_ | refine le_n ?_))) hl | refine ⟨⟨by omega, by omega⟩, ?_⟩)
    by_cases hi0 : i = 0
    · have q1 : ((i : Int) = 0) = True := eq_true (by omega)
      have q2 : ((i : Int) ≤ 0) = True := eq_true (by omega)
      by_cases hj0 : j = 0
      · have q3 : ((j : Int) = 0) = True := eq_true (by omega)
        have q4 : ((j : Int) ≤ 0) = True := eq_true (by omega)
        have hl := hfin 0 (by rw [hi0, hj0]; exact ds_00.symm)
        refine p_go [234] 60 ?_
        simp only [st_0, st_1, st_2, st_3, st_4, st_5, st_6, st_7, st_8, st_9, st_10, st_11, st_12, st_13, st_14, st_15, st_16, st_17, st_18, st_19, st_20, st_21, st_22, st_23, st_24, st_25, st_26, st_27, st_28, st_29, st_30, st_31, st_32, st_33, st_34, st_34a, st_35, st_36, st_37, st_38, st_39, st_42, st_44, st_45, st_47, st_40, st_41, st_46, st_48, st_49, st_43, go_0, go_s, cut_0, cut_s, get_0, get_s, put_0, put_1, put_s, clr_0, clr_s, unl_i, unl_l, unl_r, unl_n, nth_0, nth_s, sf_0, sf_s, cnd_0, cnd_1, cnd_2, cnd_3, cnd_4, cnd_5, fit_0, fit_1, fit_2, en_0, en_i, en_l, en_r, kb_t, kb_f, kb_n, sw_0, sw_s, ↓reduceIte, Nat.reduceEqDiff, Nat.left_eq_add, Nat.add_eq_left, Nat.add_left_cancel_iff, Nat.reduceAdd, Int.reduceLT, Int.reduceLE, Int.reduceAdd, Int.reduceSub, Int.reduceNeg, Int.reduceMul, Int.reduceToNat, Int.reduceEq, reduceCtorEq, true_and, and_true, true_or, or_true, and_false, false_and, or_false, false_or, not_true_eq_false, not_false_eq_true, Nat.le_refl, and_self, Sum.inl.injEq, Sum.inr.injEq, Option.some.injEq, hS_2, k_isref, pd_0, pd_s, List.cons_append, List.nil_append, Option.toList_none, Option.toList_some, tX12_distanceOf, rX12_distanceOf, e1, q1, q2, q3, q4]
        exact hl
      · have q3 : ((j : Int) = 0) = False := eq_false (by omega)
        have q4 : ((j : Int) ≤ 0) = False := eq_false (by omega)
        obtain ⟨j', hj'⟩ : ∃ j', j = j' + 1 := ⟨j - 1, by omega⟩
        obtain ⟨gb1, gb2⟩ := gB j' (by omega)
        have e6 : ((41 : Int) * i + j - 1).toNat = 41 * i + j' := by omega
        have e7 : ((st : Int) + j - 1).toNat = st + j' := by omega
        have e8 : ((17 : Int) * (b j' : Int)).toNat = 17 * b j' := by omega
        have f2 := hI i j' (by omega)
        have n2 := hN.2 (17 * b j') (by omega)
        have d2 := gD i j'
        have q5 : ((1000000 : Int) ≤ ds N a i b j' + N (17 * b j')) = False := eq_false (by omega)
        have hl := hfin (ds N a i b j' + N (17 * b j')) (by rw [hi0, hj', ds_0j])
        refine p_go [234] 80 ?_
        simp only [st_0, st_1, st_2, st_3, st_4, st_5, st_6, st_7, st_8, st_9, st_10, st_11, st_12, st_13, st_14, st_15, st_16, st_17, st_18, st_19, st_20, st_21, st_22, st_23, st_24, st_25, st_26, st_27, st_28, st_29, st_30, st_31, st_32, st_33, st_34, st_34a, st_35, st_36, st_37, st_38, st_39, st_42, st_44, st_45, st_47, st_40, st_41, st_46, st_48, st_49, st_43, go_0, go_s, cut_0, cut_s, get_0, get_s, put_0, put_1, put_s, clr_0, clr_s, unl_i, unl_l, unl_r, unl_n, nth_0, nth_s, sf_0, sf_s, cnd_0, cnd_1, cnd_2, cnd_3, cnd_4, cnd_5, fit_0, fit_1, fit_2, en_0, en_i, en_l, en_r, kb_t, kb_f, kb_n, sw_0, sw_s, ↓reduceIte, Nat.reduceEqDiff, Nat.left_eq_add, Nat.add_eq_left, Nat.add_left_cancel_iff, Nat.reduceAdd, Int.reduceLT, Int.reduceLE, Int.reduceAdd, Int.reduceSub, Int.reduceNeg, Int.reduceMul, Int.reduceToNat, Int.reduceEq, reduceCtorEq, true_and, and_true, true_or, or_true, and_false, false_and, or_false, false_or, not_true_eq_false, not_false_eq_true, Nat.le_refl, and_self, Sum.inl.injEq, Sum.inr.injEq, Option.some.injEq, hS_2, k_isref, pd_0, pd_s, List.cons_append, List.nil_append, Option.toList_none, Option.toList_some, tX12_distanceOf, rX12_distanceOf, h1, h74, hB, hB75, e1, e6, e7, e8, gb1, f2, q1, q2, q3, q4, q5]
        repeat (first | exact p_sub (by (repeat (first | exact le_nil | refine le_s ?_ | refine le_n ?_))) hl | refine ⟨⟨by omega, by omega⟩, ?_⟩)
    · have q1 : ((i : Int) = 0) = False := eq_false (by omega)
      have q2 : ((i : Int) ≤ 0) = False := eq_false (by omega)
      obtain ⟨i', hi'⟩ : ∃ i', i = i' + 1 := ⟨i - 1, by omega⟩
      obtain ⟨ga1, ga2⟩ := gA i' (by omega)
      have e3 : ((41 : Int) * ((i : Int) - 1) + j).toNat = 41 * i' + j := by omega
      have e4 : ((fr : Int) + i - 1).toNat = fr + i' := by omega
      have e5 : ((17 : Int) * (a i' : Int)).toNat = 17 * a i' := by omega
      have f1 := hI i' j (by omega)
      have n1 := hN.2 (17 * a i') (by omega)
      have d1 := gD i' j
      have q5 : ((1000000 : Int) ≤ ds N a i' b j + N (17 * a i')) = False := eq_false (by omega)
      have h98 : ∀ v : Int, v = ds N a i' b j + N (17 * a i') → k_Wp x d 0 0 mX12_distanceOf P 0 0 98 [some (vR 57), some (vR A), some (vI fr), some (vI n), some (vR B), some (vI st), some (vI m), some (vI i), some (vI j), some (vI v), none] [] (hS h 60 (cI 1681 tb)) := by
        intro v hv
        by_cases hj0 : j = 0
        · have q4 : ((j : Int) ≤ 0) = True := eq_true (by omega)
          have hl := hfin v (by rw [hv, hi', hj0, ds_i0, symN_0 hsy ga2])
          refine p_go [234] 60 ?_
          simp only [st_0, st_1, st_2, st_3, st_4, st_5, st_6, st_7, st_8, st_9, st_10, st_11, st_12, st_13, st_14, st_15, st_16, st_17, st_18, st_19, st_20, st_21, st_22, st_23, st_24, st_25, st_26, st_27, st_28, st_29, st_30, st_31, st_32, st_33, st_34, st_34a, st_35, st_36, st_37, st_38, st_39, st_42, st_44, st_45, st_47, st_40, st_41, st_46, st_48, st_49, st_43, go_0, go_s, cut_0, cut_s, get_0, get_s, put_0, put_1, put_s, clr_0, clr_s, unl_i, unl_l, unl_r, unl_n, nth_0, nth_s, sf_0, sf_s, cnd_0, cnd_1, cnd_2, cnd_3, cnd_4, cnd_5, fit_0, fit_1, fit_2, en_0, en_i, en_l, en_r, kb_t, kb_f, kb_n, sw_0, sw_s, ↓reduceIte, Nat.reduceEqDiff, Nat.left_eq_add, Nat.add_eq_left, Nat.add_left_cancel_iff, Nat.reduceAdd, Int.reduceLT, Int.reduceLE, Int.reduceAdd, Int.reduceSub, Int.reduceNeg, Int.reduceMul, Int.reduceToNat, Int.reduceEq, reduceCtorEq, true_and, and_true, true_or, or_true, and_false, false_and, or_false, false_or, not_true_eq_false, not_false_eq_true, Nat.le_refl, and_self, Sum.inl.injEq, Sum.inr.injEq, Option.some.injEq, hS_2, k_isref, pd_0, pd_s, List.cons_append, List.nil_append, Option.toList_none, Option.toList_some, tX12_distanceOf, rX12_distanceOf, q2, q4]
          exact hl
        · have q4 : ((j : Int) ≤ 0) = False := eq_false (by omega)
          obtain ⟨j', hj'⟩ : ∃ j', j = j' + 1 := ⟨j - 1, by omega⟩
          obtain ⟨gb1, gb2⟩ := gB j' (by omega)
          have e6 : ((41 : Int) * i + j - 1).toNat = 41 * i + j' := by omega
          have e7 : ((st : Int) + j - 1).toNat = st + j' := by omega
          have e8 : ((17 : Int) * (b j' : Int)).toNat = 17 * b j' := by omega
          have e9 : ((41 : Int) * ((i : Int) - 1) + j - 1).toNat = 41 * i' + j' := by omega
          have e10 : ((17 : Int) * (a i' : Int) + sB (st + j') + 1).toNat = 17 * a i' + b j' := by omega
          have f2 := hI i j' (by omega)
          have f3 := hI i' j' (by omega)
          have n2 := hN.2 (17 * b j') (by omega)
          have n3 := hN.2 (17 * a i' + b j') (by omega)
          have d2 := gD i j'
          have d3 := gD i' j'
          have hd : ds N a i b j = min (ds N a i b j' + N (17 * b j')) (min (ds N a i' b j + N (17 * a i')) (ds N a i' b j' + N (17 * a i' + b j'))) := by
            rw [hi', hj', ds_ij, symN_0 hsy ga2, hsy (b j') (a i') gb2 ga2]
          rw [← hv] at hd
          generalize hP2 : ds N a i b j' + N (17 * b j') = P2 at hd
          have h157 : ∀ v : Int, ds N a i b j = min v (ds N a i' b j' + N (17 * a i' + b j')) → k_Wp x d 0 0 mX12_distanceOf P 0 0 157 [some (vR 57), some (vR A), some (vI fr), some (vI n), some (vR B), some (vI st), some (vI m), some (vI i), some (vI j), some (vI v), none] [] (hS h 60 (cI 1681 tb)) := by
            intro v hv
            generalize hP3 : ds N a i' b j' + N (17 * a i' + b j') = P3 at hv
            refine p_go [234] 80 ?_
            simp only [st_0, st_1, st_2, st_3, st_4, st_5, st_6, st_7, st_8, st_9, st_10, st_11, st_12, st_13, st_14, st_15, st_16, st_17, st_18, st_19, st_20, st_21, st_22, st_23, st_24, st_25, st_26, st_27, st_28, st_29, st_30, st_31, st_32, st_33, st_34, st_34a, st_35, st_36, st_37, st_38, st_39, st_42, st_44, st_45, st_47, st_40, st_41, st_46, st_48, st_49, st_43, go_0, go_s, cut_0, cut_s, get_0, get_s, put_0, put_1, put_s, clr_0, clr_s, unl_i, unl_l, unl_r, unl_n, nth_0, nth_s, sf_0, sf_s, cnd_0, cnd_1, cnd_2, cnd_3, cnd_4, cnd_5, fit_0, fit_1, fit_2, en_0, en_i, en_l, en_r, kb_t, kb_f, kb_n, sw_0, sw_s, ↓reduceIte, Nat.reduceEqDiff, Nat.left_eq_add, Nat.add_eq_left, Nat.add_left_cancel_iff, Nat.reduceAdd, Int.reduceLT, Int.reduceLE, Int.reduceAdd, Int.reduceSub, Int.reduceNeg, Int.reduceMul, Int.reduceToNat, Int.reduceEq, reduceCtorEq, true_and, and_true, true_or, or_true, and_false, false_and, or_false, false_or, not_true_eq_false, not_false_eq_true, Nat.le_refl, and_self, Sum.inl.injEq, Sum.inr.injEq, Option.some.injEq, hS_2, k_isref, pd_0, pd_s, List.cons_append, List.nil_append, Option.toList_none, Option.toList_some, tX12_distanceOf, rX12_distanceOf, h1, h74, hA, hB, hA75, hB75, e4, e5, e7, e9, e10, ga1, gb1, f3, q2, q4, hP3]
            repeat (first | refine ⟨⟨by omega, by omega⟩, ?_⟩)
            exact k_brI (fun c => p_sub (by (repeat (first | exact le_nil | refine le_s ?_ | refine le_n ?_))) (hfin v (by omega))) (fun c => p_sub (by (repeat (first | exact le_nil | refine le_s ?_ | refine le_n ?_))) (hfin P3 (by omega)))
          refine p_go [157] 80 ?_
          simp only [st_0, st_1, st_2, st_3, st_4, st_5, st_6, st_7, st_8, st_9, st_10, st_11, st_12, st_13, st_14, st_15, st_16, st_17, st_18, st_19, st_20, st_21, st_22, st_23, st_24, st_25, st_26, st_27, st_28, st_29, st_30, st_31, st_32, st_33, st_34, st_34a, st_35, st_36, st_37, st_38, st_39, st_42, st_44, st_45, st_47, st_40, st_41, st_46, st_48, st_49, st_43, go_0, go_s, cut_0, cut_s, get_0, get_s, put_0, put_1, put_s, clr_0, clr_s, unl_i, unl_l, unl_r, unl_n, nth_0, nth_s, sf_0, sf_s, cnd_0, cnd_1, cnd_2, cnd_3, cnd_4, cnd_5, fit_0, fit_1, fit_2, en_0, en_i, en_l, en_r, kb_t, kb_f, kb_n, sw_0, sw_s, ↓reduceIte, Nat.reduceEqDiff, Nat.left_eq_add, Nat.add_eq_left, Nat.add_left_cancel_iff, Nat.reduceAdd, Int.reduceLT, Int.reduceLE, Int.reduceAdd, Int.reduceSub, Int.reduceNeg, Int.reduceMul, Int.reduceToNat, Int.reduceEq, reduceCtorEq, true_and, and_true, true_or, or_true, and_false, false_and, or_false, false_or, not_true_eq_false, not_false_eq_true, Nat.le_refl, and_self, Sum.inl.injEq, Sum.inr.injEq, Option.some.injEq, hS_2, k_isref, pd_0, pd_s, List.cons_append, List.nil_append, Option.toList_none, Option.toList_some, tX12_distanceOf, rX12_distanceOf, h1, h74, hB, hB75, e6, e7, e8, gb1, f2, q4, hP2]
          repeat (first | refine ⟨⟨by omega, by omega⟩, ?_⟩)
          exact k_brI (fun c => p_sub (by (repeat (first | exact le_nil | refine le_s ?_ | refine le_n ?_))) (h157 v (by omega))) (fun c => p_sub (by (repeat (first | exact le_nil | refine le_s ?_ | refine le_n ?_))) (h157 P2 (by omega)))
      have hl := h98 _ rfl
      refine p_go [98] 80 ?_
      simp only [st_0, st_1, st_2, st_3, st_4, st_5, st_6, st_7, st_8, st_9, st_10, st_11, st_12, st_13, st_14, st_15, st_16, st_17, st_18, st_19, st_20, st_21, st_22, st_23, st_24, st_25, st_26, st_27, st_28, st_29, st_30, st_31, st_32, st_33, st_34, st_34a, st_35, st_36, st_37, st_38, st_39, st_42, st_44, st_45, st_47, st_40, st_41, st_46, st_48, st_49, st_43, go_0, go_s, cut_0, cut_s, get_0, get_s, put_0, put_1, put_s, clr_0, clr_s, unl_i, unl_l, unl_r, unl_n, nth_0, nth_s, sf_0, sf_s, cnd_0, cnd_1, cnd_2, cnd_3, cnd_4, cnd_5, fit_0, fit_1, fit_2, en_0, en_i, en_l, en_r, kb_t, kb_f, kb_n, sw_0, sw_s, ↓reduceIte, Nat.reduceEqDiff, Nat.left_eq_add, Nat.add_eq_left, Nat.add_left_cancel_iff, Nat.reduceAdd, Int.reduceLT, Int.reduceLE, Int.reduceAdd, Int.reduceSub, Int.reduceNeg, Int.reduceMul, Int.reduceToNat, Int.reduceEq, reduceCtorEq, true_and, and_true, true_or, or_true, and_false, false_and, or_false, false_or, not_true_eq_false, not_false_eq_true, Nat.le_refl, and_self, Sum.inl.injEq, Sum.inr.injEq, Option.some.injEq, hS_2, k_isref, pd_0, pd_s, List.cons_append, List.nil_append, Option.toList_none, Option.toList_some, tX12_distanceOf, rX12_distanceOf, h1, h74, hA, hA75, e1, e3, e4, e5, ga1, f1, q1, q2, q5]
      repeat (first | exact p_sub (by (repeat (first | exact le_nil | refine le_s ?_ | refine le_n ?_))) hl | refine ⟨⟨by omega, by omega⟩, ?_⟩)
set_option maxRecDepth 100000 in
set_option maxHeartbeats 4000000 in
theorem w_di {A B nA nB fr st n m : Nat} {sA sB : F_} (h1 : h.2 57 = some (mO s)) (h74 : h.2 59 = some (cI 289 N)) (hA : h.2 A = some (cI nA sA)) (hB : h.2 B = some (cI nB sB)) (hA75 : (A = 60) = False) (hB75 : (B = 60) = False) (hfr : fr + n ≤ nA) (hst : st + m ≤ nB) (hnA : nA ≤ 4800) (hnB : nB ≤ 4800) (hn : n ≤ 40) (hm : m ≤ 40) (hvA : rvd sA fr n) (hvB : rvd sB st m) (hN : cOk N) (hsy : symN N)
    (kk : ∀ tb, P (rI (ds N (sdg sA fr n) n (sdg sB st m) m)) (hS h 60 (cI 1681 tb))) : ∀ (k i : Nat) (tb : F_), i + k = n + 1 → tbI N (sdg sA fr n) (sdg sB st m) m i 0 tb →
    k_Wp x d 0 0 mX12_distanceOf P 0 0 7 [some (vR 57), some (vR A), some (vI fr), some (vI n), some (vR B), some (vI st), some (vI m), some (vI i), none, none, none] [] (hS h 60 (cI 1681 tb)) := by
  intro k
  induction k with
  | zero =>
    intro i tb hi hI
    have e1 : (n : Int) < i := by omega
    have e2 : ((41 : Int) * n + m).toNat = 41 * n + m := by omega
    have f1 := hI n m (by omega)
    have hl := kk tb
    rw [← f1] at hl
    refine p_go [] 40 ?_
    simp only [st_0, st_1, st_2, st_3, st_4, st_5, st_6, st_7, st_8, st_9, st_10, st_11, st_12, st_13, st_14, st_15, st_16, st_17, st_18, st_19, st_20, st_21, st_22, st_23, st_24, st_25, st_26, st_27, st_28, st_29, st_30, st_31, st_32, st_33, st_34, st_34a, st_35, st_36, st_37, st_38, st_39, st_42, st_44, st_45, st_47, st_40, st_41, st_46, st_48, st_49, st_43, go_0, go_s, cut_0, cut_s, get_0, get_s, put_0, put_1, put_s, clr_0, clr_s, unl_i, unl_l, unl_r, unl_n, nth_0, nth_s, sf_0, sf_s, cnd_0, cnd_1, cnd_2, cnd_3, cnd_4, cnd_5, fit_0, fit_1, fit_2, en_0, en_i, en_l, en_r, kb_t, kb_f, kb_n, sw_0, sw_s, ↓reduceIte, Nat.reduceEqDiff, Nat.left_eq_add, Nat.add_eq_left, Nat.add_left_cancel_iff, Nat.reduceAdd, Int.reduceLT, Int.reduceLE, Int.reduceAdd, Int.reduceSub, Int.reduceNeg, Int.reduceMul, Int.reduceToNat, Int.reduceEq, reduceCtorEq, true_and, and_true, true_or, or_true, and_false, false_and, or_false, false_or, not_true_eq_false, not_false_eq_true, Nat.le_refl, and_self, Sum.inl.injEq, Sum.inr.injEq, Option.some.injEq, hS_2, k_isref, pd_0, pd_s, List.cons_append, List.nil_append, Option.toList_none, Option.toList_some, tX12_distanceOf, rX12_distanceOf, h1, e1, e2]
    (repeat (first | exact hl | refine ⟨⟨by omega, by omega⟩, ?_⟩ | refine And.intro (by omega) ?_))
  | succ k ih =>
    intro i tb hi hI
    have e1 : ¬ (n : Int) < i := by omega
    refine p_go [16] 40 ?_
    simp only [st_0, st_1, st_2, st_3, st_4, st_5, st_6, st_7, st_8, st_9, st_10, st_11, st_12, st_13, st_14, st_15, st_16, st_17, st_18, st_19, st_20, st_21, st_22, st_23, st_24, st_25, st_26, st_27, st_28, st_29, st_30, st_31, st_32, st_33, st_34, st_34a, st_35, st_36, st_37, st_38, st_39, st_42, st_44, st_45, st_47, st_40, st_41, st_46, st_48, st_49, st_43, go_0, go_s, cut_0, cut_s, get_0, get_s, put_0, put_1, put_s, clr_0, clr_s, unl_i, unl_l, unl_r, unl_n, nth_0, nth_s, sf_0, sf_s, cnd_0, cnd_1, cnd_2, cnd_3, cnd_4, cnd_5, fit_0, fit_1, fit_2, en_0, en_i, en_l, en_r, kb_t, kb_f, kb_n, sw_0, sw_s, ↓reduceIte, Nat.reduceEqDiff, Nat.left_eq_add, Nat.add_eq_left, Nat.add_left_cancel_iff, Nat.reduceAdd, Int.reduceLT, Int.reduceLE, Int.reduceAdd, Int.reduceSub, Int.reduceNeg, Int.reduceMul, Int.reduceToNat, Int.reduceEq, reduceCtorEq, true_and, and_true, true_or, or_true, and_false, false_and, or_false, false_or, not_true_eq_false, not_false_eq_true, Nat.le_refl, and_self, Sum.inl.injEq, Sum.inr.injEq, Option.some.injEq, hS_2, k_isref, pd_0, pd_s, List.cons_append, List.nil_append, Option.toList_none, Option.toList_some, tX12_distanceOf, rX12_distanceOf, e1]
    refine w_dj h1 h74 hA hB hA75 hB75 hfr hst hnA hnB hn hm hvA hvB hN hsy (by omega) (fun tb' hI' => p_go [7] 40 ?_) (m + 1) 0 tb (by omega) hI
    simp only [st_0, st_1, st_2, st_3, st_4, st_5, st_6, st_7, st_8, st_9, st_10, st_11, st_12, st_13, st_14, st_15, st_16, st_17, st_18, st_19, st_20, st_21, st_22, st_23, st_24, st_25, st_26, st_27, st_28, st_29, st_30, st_31, st_32, st_33, st_34, st_34a, st_35, st_36, st_37, st_38, st_39, st_42, st_44, st_45, st_47, st_40, st_41, st_46, st_48, st_49, st_43, go_0, go_s, cut_0, cut_s, get_0, get_s, put_0, put_1, put_s, clr_0, clr_s, unl_i, unl_l, unl_r, unl_n, nth_0, nth_s, sf_0, sf_s, cnd_0, cnd_1, cnd_2, cnd_3, cnd_4, cnd_5, fit_0, fit_1, fit_2, en_0, en_i, en_l, en_r, kb_t, kb_f, kb_n, sw_0, sw_s, ↓reduceIte, Nat.reduceEqDiff, Nat.left_eq_add, Nat.add_eq_left, Nat.add_left_cancel_iff, Nat.reduceAdd, Int.reduceLT, Int.reduceLE, Int.reduceAdd, Int.reduceSub, Int.reduceNeg, Int.reduceMul, Int.reduceToNat, Int.reduceEq, reduceCtorEq, true_and, and_true, true_or, or_true, and_false, false_and, or_false, false_or, not_true_eq_false, not_false_eq_true, Nat.le_refl, and_self, Sum.inl.injEq, Sum.inr.injEq, Option.some.injEq, hS_2, k_isref, pd_0, pd_s, List.cons_append, List.nil_append, Option.toList_none, Option.toList_some, tX12_distanceOf, rX12_distanceOf, nat1]
    exact ⟨⟨by omega, by omega⟩, p_sub (by (repeat (first | exact le_nil | refine le_s ?_ | refine le_n ?_))) (ih (i + 1) tb' (by omega) hI')⟩
set_option maxRecDepth 100000 in
set_option maxHeartbeats 4000000 in
theorem e_mdist {A B nA nB fr st n m : Nat} {sA sB C tb : F_} (h1 : h.2 57 = some (mO s)) (hM : Mc h s C) (hc : cOk C) (h75 : h.2 60 = some (cI 1681 tb)) (hA : h.2 A = some (cI nA sA)) (hB : h.2 B = some (cI nB sB)) (hA75 : 60 < A) (hB75 : 60 < B) (hfr : fr + n ≤ nA) (hst : st + m ≤ nB) (hnA : nA ≤ 4800) (hnB : nB ≤ 4800) (hn : n ≤ 40) (hm : m ≤ 40) (hvA : rvd sA fr n) (hvB : rvd sB st m) (hsy : symN (fw C)) (hd : 1 ≤ d) :
    k_Ev x d 0 0 mX12_distanceOf [vR 57, vR A, vI fr, vI n, vR B, vI st, vI m] h (fun o h' => o = rI (ds (fw C) (sdf sA fr) n (sdf sB st) m) ∧ ∃ tb, h' = hS (naH h s C) 60 (cI 1681 tb)) := by
  have kz : ∀ z, z ≠ 57 → z ≠ 59 → (naH h s C).2 z = h.2 z := fun z z1 z2 => (hS_n z2).trans (hS_n z1)
  have k1 : (naH h s C).2 57 = some (mO (mS s 3 1)) := (hS_n (by decide)).trans (hS_s _ _ _)
  have k4 : (naH h s C).2 59 = some (cI 289 (fw C)) := hS_s _ _ _
  have k5 := (kz 60 (by decide) (by decide)).trans h75
  have kA := (kz A (by omega) (by omega)).trans hA
  have kB := (kz B (by omega) (by omega)).trans hB
  have eD : ds (fw C) (sdf sA fr) n (sdf sB st) m = ds (fw C) (sdg sA fr n) n (sdg sB st m) m := by
    refine ds_congr (la := n) (lb := m) (fun i hi => ?_) (fun i hi => ?_) n m (Nat.le_refl n) (Nat.le_refl m)
    · show (sA (fr + i) + 1).toNat = if i < n then (sA (fr + i) + 1).toNat else 0
      rw [if_pos hi]
    · show (sB (st + i) + 1).toNat = if i < m then (sB (st + i) + 1).toNat else 0
      rw [if_pos hi]
  rw [eD]
  refine k_enp 4 (Nat.le_of_ble_eq_true rfl) (p_go [] 40 ?_)
  simp only [st_0, st_1, st_2, st_3, st_4, st_5, st_6, st_7, st_8, st_9, st_10, st_11, st_12, st_13, st_14, st_15, st_16, st_17, st_18, st_19, st_20, st_21, st_22, st_23, st_24, st_25, st_26, st_27, st_28, st_29, st_30, st_31, st_32, st_33, st_34, st_34a, st_35, st_36, st_37, st_38, st_39, st_42, st_44, st_45, st_47, st_40, st_41, st_46, st_48, st_49, st_43, go_0, go_s, cut_0, cut_s, get_0, get_s, put_0, put_1, put_s, clr_0, clr_s, unl_i, unl_l, unl_r, unl_n, nth_0, nth_s, sf_0, sf_s, cnd_0, cnd_1, cnd_2, cnd_3, cnd_4, cnd_5, fit_0, fit_1, fit_2, en_0, en_i, en_l, en_r, kb_t, kb_f, kb_n, sw_0, sw_s, ↓reduceIte, Nat.reduceEqDiff, Nat.left_eq_add, Nat.add_eq_left, Nat.add_left_cancel_iff, Nat.reduceAdd, Int.reduceLT, Int.reduceLE, Int.reduceAdd, Int.reduceSub, Int.reduceNeg, Int.reduceMul, Int.reduceToNat, Int.reduceEq, reduceCtorEq, true_and, and_true, true_or, or_true, and_false, false_and, or_false, false_or, not_true_eq_false, not_false_eq_true, Nat.le_refl, and_self, Sum.inl.injEq, Sum.inr.injEq, Option.some.injEq, hS_2, k_isref, pd_0, pd_s, List.cons_append, List.nil_append, Option.toList_none, Option.toList_some, tX12_distanceOf, rX12_distanceOf]
  refine cV (d' := 0) [] [] l_12_133 h1 (e_nearAll h1 hM hc) (by omega) (p_go [7] 40 ?_)
  simp only [st_0, st_1, st_2, st_3, st_4, st_5, st_6, st_7, st_8, st_9, st_10, st_11, st_12, st_13, st_14, st_15, st_16, st_17, st_18, st_19, st_20, st_21, st_22, st_23, st_24, st_25, st_26, st_27, st_28, st_29, st_30, st_31, st_32, st_33, st_34, st_34a, st_35, st_36, st_37, st_38, st_39, st_42, st_44, st_45, st_47, st_40, st_41, st_46, st_48, st_49, st_43, go_0, go_s, cut_0, cut_s, get_0, get_s, put_0, put_1, put_s, clr_0, clr_s, unl_i, unl_l, unl_r, unl_n, nth_0, nth_s, sf_0, sf_s, cnd_0, cnd_1, cnd_2, cnd_3, cnd_4, cnd_5, fit_0, fit_1, fit_2, en_0, en_i, en_l, en_r, kb_t, kb_f, kb_n, sw_0, sw_s, ↓reduceIte, Nat.reduceEqDiff, Nat.left_eq_add, Nat.add_eq_left, Nat.add_left_cancel_iff, Nat.reduceAdd, Int.reduceLT, Int.reduceLE, Int.reduceAdd, Int.reduceSub, Int.reduceNeg, Int.reduceMul, Int.reduceToNat, Int.reduceEq, reduceCtorEq, true_and, and_true, true_or, or_true, and_false, false_and, or_false, false_or, not_true_eq_false, not_false_eq_true, Nat.le_refl, and_self, Sum.inl.injEq, Sum.inr.injEq, Option.some.injEq, hS_2, k_isref, pd_0, pd_s, List.cons_append, List.nil_append, Option.toList_none, Option.toList_some, tX12_distanceOf, rX12_distanceOf]
  have hw := w_di (x := x) (d := d) (P := fun o h' => o = rI (ds (fw C) (sdg sA fr n) n (sdg sB st m) m) ∧ ∃ tb, h' = hS (naH h s C) 60 (cI 1681 tb)) k1 k4 kA kB (eq_false (by omega)) (eq_false (by omega)) hfr hst hnA hnB hn hm hvA hvB (fw_ok hc) hsy (fun tb => ⟨rfl, tb, rfl⟩) (n + 1) 0 tb (by omega) (fun u v hw => by omega)
  rw [hS_id k5] at hw
  exact hw
end Mdist70
