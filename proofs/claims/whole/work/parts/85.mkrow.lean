/-! the commands made, row by row: both alike -/
section Mkrow85
variable {pc wc : Nat} {wl ws wp wq op oq pt ob : F_}
theorem jwd_fr {nw : F_} {k : Nat} (hwl : ∀ i, i < wc → 0 ≤ wl i) : ∀ (j i : Nat) (m : Int) (cl cs : F_), i + j ≤ wc → 0 ≤ cl k ∧ cl k ≤ 40 → (∀ u, u ≠ k → (jwd pc nw wp wq wl ws k j i m cl cs).2.1 u = cl u) ∧ (∀ z, (z < k * 40 ∨ k * 40 + 40 ≤ z) → (jwd pc nw wp wq wl ws k j i m cl cs).2.2 z = cs z) ∧ 0 ≤ (jwd pc nw wp wq wl ws k j i m cl cs).2.1 k ∧ (jwd pc nw wp wq wl ws k j i m cl cs).2.1 k ≤ 40
  | 0, i, m, cl, cs, _, hc => ⟨fun u hu => rfl, fun z hz => rfl, hc⟩
  | j + 1, i, m, cl, cs, hi, hc => by
    unfold jwd
    have hw := hwl i (by omega)
    split
    · exact jwd_fr hwl j (i + 1) m cl cs (by omega) hc
    · have hj : 0 ≤ jn 40 (cl k) (wl i) ∧ cl k + jn 40 (cl k) (wl i) ≤ 40 := by unfold jn; split <;> omega
      obtain ⟨a1, a2, a3⟩ := jwd_fr hwl j (i + 1) (m + wl i) (fS cl k (cl k + jn 40 (cl k) (wl i))) (va_cpy ws cs (i * 20) (k * 40 + (cl k).toNat) (jn 40 (cl k) (wl i)).toNat) (by omega) (by rw [fS_s]; omega)
      refine ⟨fun u hu => ?_, fun z hz => ?_, a3⟩
      · rw [a1 u hu, fS_n hu]
      · rw [a2 z hz]
        unfold va_cpy
        rw [if_neg (by omega)]
abbrev MkT : Type := (Int × Nat) × F_ × F_ × F_ × F_
/-- rows n to M of what the two have made -/
def mkR (wc pc : Nat) (wl ws wp wq : F_) (n : Nat) (M : MkT) (L : Int × F_) (q : Nat → F_) : Prop := ∀ k, n ≤ k → k < M.1.2 → (∀ p, p < pc → L.2 (8 * k + p) = q k p) ∧ (∀ p, p < 8 → M.2.2.1 (k * 8 + p) = q k p) ∧ ∃ cl0 cs0 : F_, cl0 k = 0 ∧ M.2.2.2.1 k = (jwd pc (q k) wp wq wl ws k wc 0 0 cl0 cs0).2.1 k ∧ ∀ i, i < 40 → M.2.2.2.2 (k * 40 + i) = (jwd pc (q k) wp wq wl ws k wc 0 0 cl0 cs0).2.2 (k * 40 + i)
/-- rows before n are as they were -/
def mkF (n : Nat) (M : MkT) (L : Int × F_) (np pk cl cs : F_) : Prop := ∀ k, k < n → (∀ p, p < 8 → L.2 (8 * k + p) = np (8 * k + p)) ∧ (∀ p, p < 8 → M.2.2.1 (k * 8 + p) = pk (k * 8 + p)) ∧ M.2.2.2.1 k = cl k ∧ ∀ i, i < 40 → M.2.2.2.2 (k * 40 + i) = cs (k * 40 + i)
theorem mk_rows (hpc : pc ≤ 8) (hwl : ∀ i, i < wc → 0 ≤ wl i) : ∀ (j n : Nat) (tl : Int) (nw pk cl cs np : F_), (tl = 0 ∨ tl = 1) →
    mkF n (mkc wc pc wl ws wp wq op oq pt ob j n tl nw pk cl cs) (lsC pc op oq pt ob j n nw np) np pk cl cs ∧ (((mkc wc pc wl ws wp wq op oq pt ob j n tl nw pk cl cs).1.1 = 5 ∧ (lsC pc op oq pt ob j n nw np).1 = 121) ∨ (∃ q : Nat → F_, (lsC pc op oq pt ob j n nw np).1 = (mkc wc pc wl ws wp wq op oq pt ob j n tl nw pk cl cs).1.2 ∧ (n < (mkc wc pc wl ws wp wq op oq pt ob j n tl nw pk cl cs).1.2 ∧ (mkc wc pc wl ws wp wq op oq pt ob j n tl nw pk cl cs).1.2 ≤ n + j) ∧ mkR wc pc wl ws wp wq n (mkc wc pc wl ws wp wq op oq pt ob j n tl nw pk cl cs) (lsC pc op oq pt ob j n nw np) q ∧ (((mkc wc pc wl ws wp wq op oq pt ob j n tl nw pk cl cs).1.1 = 0 ∧ tl = 0 ∧ ∀ k, n ≤ k → k < (mkc wc pc wl ws wp wq op oq pt ob j n tl nw pk cl cs).1.2 → smj pc (q k) wp wq wl wc 0 0 ≤ 40) ∨ ((mkc wc pc wl ws wp wq op oq pt ob j n tl nw pk cl cs).1.1 = 6 ∧ (tl = 1 ∨ ∃ k, n ≤ k ∧ k < (mkc wc pc wl ws wp wq op oq pt ob j n tl nw pk cl cs).1.2 ∧ 40 < smj pc (q k) wp wq wl wc 0 0)))))
  | 0, n, tl, nw, pk, cl, cs, np, htl => by
    unfold mkc lsC
    exact ⟨fun k hk => ⟨fun p hp => rfl, fun p hp => rfl, rfl, fun i hi => rfl⟩, Or.inl ⟨rfl, rfl⟩⟩
  | j + 1, n, tl, nw, pk, cl, cs, np, htl => by
    have hj1 := jwd_m (pc := pc) (nw := nw) (wp := wp) (wq := wq) (wl := wl) (ws := ws) (k := n) wc 0 0 (fS cl n 0) cs
    obtain ⟨f1, f2, f3⟩ := jwd_fr (pc := pc) (wc := wc) (wl := wl) (ws := ws) (wp := wp) (wq := wq) (nw := nw) (k := n) hwl wc 0 0 (fS cl n 0) cs (by omega) (by rw [fS_s]; omega)
    unfold mkc lsC
    have hfr : ∀ (M : MkT) (L : Int × F_), mkF (n + 1) M L (va_cpy nw np 0 (8 * n) pc) (va_cpy nw pk 0 (n * 8) 8) (jwd pc nw wp wq wl ws n wc 0 0 (fS cl n 0) cs).2.1 (jwd pc nw wp wq wl ws n wc 0 0 (fS cl n 0) cs).2.2 → mkF n M L np pk cl cs ∧ ((∀ p, p < pc → L.2 (8 * n + p) = nw p) ∧ (∀ p, p < 8 → M.2.2.1 (n * 8 + p) = nw p) ∧ M.2.2.2.1 n = (jwd pc nw wp wq wl ws n wc 0 0 (fS cl n 0) cs).2.1 n ∧ ∀ i, i < 40 → M.2.2.2.2 (n * 40 + i) = (jwd pc nw wp wq wl ws n wc 0 0 (fS cl n 0) cs).2.2 (n * 40 + i)) := by
      intro M L hF
      refine ⟨fun k hk => ?_, ?_⟩
      · obtain ⟨g1, g2, g3, g4⟩ := hF k (by omega)
        refine ⟨fun p hp => ?_, fun p hp => ?_, ?_, fun i hi => ?_⟩
        · rw [g1 p hp]; unfold va_cpy; rw [if_neg (by omega)]
        · rw [g2 p hp]; unfold va_cpy; rw [if_neg (by omega)]
        · rw [g3, f1 k (by omega), fS_n (by omega)]
        · rw [g4 i hi, f2 _ (by omega)]
      · obtain ⟨g1, g2, g3, g4⟩ := hF n (by omega)
        refine ⟨fun p hp => ?_, fun p hp => ?_, g3, g4⟩
        · rw [g1 p (by omega)]; unfold va_cpy; rw [if_pos (by omega)]; congr 1; omega
        · rw [g2 p hp]; unfold va_cpy; rw [if_pos (by omega)]; congr 1; omega
    cases hst : stp pc op oq pt ob nw pc with
    | none =>
      simp only
      have hb := hfr ((if tl = 0 ∧ (jwd pc nw wp wq wl ws n wc 0 0 (fS cl n 0) cs).1 ≤ 40 then 0 else 6, n + 1), nw, va_cpy nw pk 0 (n * 8) 8, (jwd pc nw wp wq wl ws n wc 0 0 (fS cl n 0) cs).2.1, (jwd pc nw wp wq wl ws n wc 0 0 (fS cl n 0) cs).2.2) (((n + 1 : Nat) : Int), va_cpy nw np 0 (8 * n) pc) (fun k hk => ⟨fun p hp => rfl, fun p hp => rfl, rfl, fun i hi => rfl⟩)
      refine ⟨hb.1, Or.inr ⟨fun _ => nw, trivial, ⟨by omega, by omega⟩, fun k k1 k2 => ?_, ?_⟩⟩
      · have ek : k = n := by have k2 : k < n + 1 := k2; omega
        subst ek
        exact ⟨hb.2.1, hb.2.2.1, fS cl k 0, cs, fS_s, hb.2.2.2.1, hb.2.2.2.2⟩
      · rw [hj1]
        by_cases hc : tl = 0 ∧ smj pc nw wp wq wl wc 0 0 ≤ 40
        · rw [if_pos hc]
          exact Or.inl ⟨rfl, hc.1, fun k k1 k2 => hc.2⟩
        · rw [if_neg hc]
          refine Or.inr ⟨rfl, ?_⟩
          by_cases h1 : tl = 1
          · exact Or.inl h1
          · exact Or.inr ⟨n, Nat.le_refl n, by omega, (show 40 < smj pc nw wp wq wl wc 0 0 by omega)⟩
    | some nw' =>
      simp only
      rw [hj1]
      obtain ⟨r1, r2⟩ := mk_rows hpc hwl j (n + 1) (if smj pc nw wp wq wl wc 0 0 ≤ 40 then tl else 1) nw' (va_cpy nw pk 0 (n * 8) 8) (jwd pc nw wp wq wl ws n wc 0 0 (fS cl n 0) cs).2.1 (jwd pc nw wp wq wl ws n wc 0 0 (fS cl n 0) cs).2.2 (va_cpy nw np 0 (8 * n) pc) (by split <;> omega)
      have hb := hfr _ _ r1
      refine ⟨hb.1, ?_⟩
      generalize mkc wc pc wl ws wp wq op oq pt ob j (n + 1) (if smj pc nw wp wq wl wc 0 0 ≤ 40 then tl else 1) nw' (va_cpy nw pk 0 (n * 8) 8) (jwd pc nw wp wq wl ws n wc 0 0 (fS cl n 0) cs).2.1 (jwd pc nw wp wq wl ws n wc 0 0 (fS cl n 0) cs).2.2 = M at r2 hb ⊢
      generalize lsC pc op oq pt ob j (n + 1) nw' (va_cpy nw np 0 (8 * n) pc) = L at r2 hb ⊢
      rcases r2 with r2 | ⟨q, q1, q2, q3, q4⟩
      · exact Or.inl r2
      · refine Or.inr ⟨fun k => if k = n then nw else q k, q1, ⟨by omega, by omega⟩, fun k k1 k2 => ?_, ?_⟩
        · by_cases ek : k = n
          · subst ek
            simp only [if_pos]
            exact ⟨hb.2.1, hb.2.2.1, fS cl k 0, cs, fS_s, hb.2.2.2.1, hb.2.2.2.2⟩
          · simp only [if_neg ek]
            exact q3 k (by omega) k2
        · rcases q4 with ⟨w1, w2, w3⟩ | ⟨w1, w2⟩
          · by_cases hc : smj pc nw wp wq wl wc 0 0 ≤ 40
            · rw [if_pos hc] at w2
              refine Or.inl ⟨w1, w2, fun k k1 k2 => ?_⟩
              by_cases ek : k = n
              · simp only [if_pos ek]; exact hc
              · simp only [if_neg ek]; exact w3 k (by omega) k2
            · rw [if_neg hc] at w2; omega
          · refine Or.inr ⟨w1, ?_⟩
            by_cases hc : smj pc nw wp wq wl wc 0 0 ≤ 40
            · rw [if_pos hc] at w2
              rcases w2 with w2 | ⟨k, k1, k2, k3⟩
              · exact Or.inl w2
              · refine Or.inr ⟨k, by omega, k2, ?_⟩
                simp only [if_neg (show k ≠ n by omega)]
                exact k3
            · refine Or.inr ⟨n, Nat.le_refl n, by omega, ?_⟩
              simp only [if_pos]
              omega
end Mkrow85
