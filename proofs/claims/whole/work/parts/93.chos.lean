/-! choosing: both alike -/
section Chos93
variable {G F SW : F_} {sz : Nat}
/-- valid words in the first slots -/
abbrev vch (SW ch : F_) (n : Nat) : Prop := ∀ i, i < n → 0 ≤ ch i ∧ ch i < SW i
/-- both have measured the same -/
def LK (G F SW : F_) (sz : Nat) : Prop := ∀ ch, vch SW ch sz → ∀ b s, b < s → s < sz → dF F ch b s = G ((s * 4 + (ch s).toNat) * 32 + (b * 4 + (ch b).toNat)) ∧ 0 ≤ dF F ch b s ∧ dF F ch b s < 1000000
theorem lv_cv {ch : F_} (hL : LK G F SW sz) (hsz : 2 ≤ sz) (hv : vch SW ch sz) : lv F sz ch = cv G ch sz := by
  have h0 := fun x : Int => lv_e (F := F) (ch := ch) (x := x) hsz (fun b u b1 b2 => (hL ch hv b u b1 b2).2.1)
  have h1 := fun x : Int => cv_e (G := G) (ch := ch) (x := x) sz
  refine Int.le_antisymm ?_ ?_
  · rw [h1]
    have h2 := ((h0 (lv F sz ch)).2.mp (Int.le_refl _))
    refine ⟨?_, fun b s b1 s1 => ?_⟩
    · have h3 := h2 0 1 (by omega) (by omega)
      have h4 := (hL ch hv 0 1 (by omega) (by omega)).2.2
      omega
    · rw [← (hL ch hv b s b1 s1).1]
      exact h2 b s b1 s1
  · rw [(h0 _).2]
    intro b s b1 s1
    rw [(hL ch hv b s b1 s1).1]
    exact ((h1 (cv G ch sz)).mp (Int.le_refl _)).2 b s b1 s1
theorem vch_s {ch : F_} {n w : Nat} (hv : vch SW ch n) (hw : (w : Int) < SW n) : vch SW (fS ch n w) (n + 1) := by
  intro i hi
  by_cases e : i = n
  · subst e; rw [fS_s]; omega
  · rw [fS_n e]; exact hv i (by omega)
theorem fldM_le (hL : LK G F SW sz) (hsz : 2 ≤ sz) : ∀ (n slot : Nat) (ch : F_) (T : Int × F_), slot + n = sz → vch SW ch slot → cv G ch slot ≤ T.1 → fldM F sz SW n slot ch T = T
  | 0, slot, ch, T, hn, hv, hc => by
    have e : slot = sz := by omega
    subst e
    unfold fldM updM
    rw [lv_cv hL hsz hv, if_neg (by omega)]
  | n + 1, slot, ch, T, hn, hv, hc => by
    unfold fldM
    have go : ∀ (j w : Nat), w + j = (SW slot).toNat → fldL (fldM F sz SW n (slot + 1)) slot ch j w T = T := by
      intro j
      induction j with
      | zero => intro w hw; rfl
      | succ j ih =>
        intro w hw
        unfold fldL
        have h1 : cv G (fS ch slot w) (slot + 1) ≤ T.1 := by
          have h2 := cv_le (G := G) (ch := fS ch slot w) 1 slot
          have h3 : cv G (fS ch slot w) slot = cv G ch slot := cv_agr slot (fun u hu => fS_n (by omega))
          omega
        rw [fldM_le hL hsz n (slot + 1) (fS ch slot w) T (by omega) (vch_s hv (by omega)) h1]
        exact ih (w + 1) (by omega)
    exact go _ 0 (by omega)
end Chos93
