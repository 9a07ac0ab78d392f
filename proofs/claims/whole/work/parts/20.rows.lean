theorem zz_len {x : Bool} {d : Nat} {h : PH} {q l s : Nat} {w : Int} {n : Nat} {f : Nat → Int} (hq : h.2 q = some (.inr (8, [vI w, vR l, vR s]))) (hl : h.2 l = some (.inl (0, n, f))) (row : Int) : k_Ev x d 0 0 mX8_length [vR q, vI row] h (fun o h' => h' = h ∧ o = .inl (some (vI (if 0 ≤ row ∧ row < n then f row.toNat else 0)))) := by
  refine k_ent (Nat.le_of_ble_eq_true rfl) ?_
  refine p_go [] 30 ?_
  simp only [k_go, tX8_length, k_stp, k_en, k_get, k_cnd, k_cut, k_nth, hq, hl]
  trivial
