/-! choosing: both alike -/
section Chos93
variable {G F SW : F_} {sz : Nat}
/-- valid words in the first slots -/
abbrev vch (SW ch : F_) (n : Nat) : Prop := ∀ i, i < n → 0 ≤ ch i ∧ ch i < SW i
/-- both have measured the same -/
def LK (G F SW : F_) (sz : Nat) : Prop := ∀ ch, vch SW ch sz → ∀ b s, b < s → s < sz → dF F ch b s = G ((s * 4 + (ch s).toNat) * 32 + (b * 4 + (ch b).toNat)) ∧ 0 ≤ dF F ch b s ∧ dF F ch b s < 1000000
theorem lv_cv {ch : F_} (hL : LK G F SW sz) (hsz : 2 ≤ sz) (hv : vch SW ch sz) : lv F sz ch = cv G ch sz := by
  have h0 := fun x : Int => lv_e (F := F) (ch := ch) (x := x) hsz (fun b u b1 b2 => (hL ch hv b u b1 b2).2.1)
  have h1 := fun x : Int => cv_e (G := G) (ch := ch) (x := x) sz
  refine Int.le_antisymm ?_ ?_
  · rw [h1]
    have h2 := ((h0 (lv F sz ch)).2.mp (Int.le_refl _))
    refine ⟨?_, fun b s b1 s1 => ?_⟩
    · have h3 := h2 0 1 (by omega) (by omega)
      have h4 := (hL ch hv 0 1 (by omega) (by omega)).2.2
      omega
    · rw [← (hL ch hv b s b1 s1).1]
      exact h2 b s b1 s1
  · rw [(h0 _).2]
    intro b s b1 s1
    rw [(hL ch hv b s b1 s1).1]
    exact ((h1 (cv G ch sz)).mp (Int.le_refl _)).2 b s b1 s1
theorem vch_s {ch : F_} {n w : Nat} (hv : vch SW ch n) (hw : (w : Int) < SW n) : vch SW (fS ch n w) (n + 1) := by
  intro i hi
  by_cases e : i = n
  · subst e; rw [fS_s]; omega
  · rw [fS_n e]; exact hv i (by omega)
theorem fldM_le (hL : LK G F SW sz) (hsz : 2 ≤ sz) : ∀ (n slot : Nat) (ch : F_) (T : Int × F_), slot + n = sz → vch SW ch slot → cv G ch slot ≤ T.1 → fldM F sz SW n slot ch T = T
  | 0, slot, ch, T, hn, hv, hc => by
    have e : slot = sz := by omega
    subst e
    unfold fldM updM
    rw [lv_cv hL hsz hv, if_neg (by omega)]
  | n + 1, slot, ch, T, hn, hv, hc => by
    unfold fldM
    have go : ∀ (j w : Nat), w + j = (SW slot).toNat → fldL (fldM F sz SW n (slot + 1)) slot ch j w T = T := by
      intro j
      induction j with
      | zero => intro w hw; rfl
      | succ j ih =>
        intro w hw
        unfold fldL
        have h1 : cv G (fS ch slot w) (slot + 1) ≤ T.1 := by
          have h2 := cv_le (G := G) (ch := fS ch slot w) 1 slot
          have h3 : cv G (fS ch slot w) slot = cv G ch slot := cv_agr slot (fun u hu => fS_n (by omega))
          omega
        rw [fldM_le hL hsz n (slot + 1) (fS ch slot w) T (by omega) (vch_s hv (by omega)) h1]
        exact ih (w + 1) (by omega)
    exact go _ 0 (by omega)
/-- the class's and the reference's choice so far -/
def chQ (sz : Nat) (T : TS) (U : Int × F_) : Prop := T.1 = U.1 ∧ (0 ≤ T.1 → ∀ i, i < sz → T.2.2 i = U.2 i)
theorem tf_fld (hL : LK G F SW sz) (hsz : 2 ≤ sz) : ∀ (n slot : Nat) (ch : F_) (T : TS) (U : Int × F_), slot + n = sz → vch SW ch slot → (∀ i, i < slot → T.2.1 i = ch i) → chQ sz T U → T.1 < cv G ch slot → chQ sz (tf sz SW G n slot (cv G ch slot) T) (fldM F sz SW n slot ch U) ∧ ∀ i, i < slot → (tf sz SW G n slot (cv G ch slot) T).2.1 i = ch i
  | 0, slot, ch, T, U, hn, hv, ht, hq, hc => by
    have e : slot = sz := by omega
    subst e
    unfold tf fldM updM
    have h1 := hq.1
    rw [lv_cv hL hsz hv, if_pos (by omega)]
    refine ⟨⟨rfl, fun _ i hi => ?_⟩, ht⟩
    show va_cpy T.2.1 T.2.2 0 0 slot i = va_cpy ch U.2 0 0 slot i
    unfold va_cpy
    rw [if_pos (by omega), if_pos (by omega)]
    exact ht _ (by omega)
  | n + 1, slot, ch, T, U, hn, hv, ht, hq, hc => by
    unfold tf fldM
    have go : ∀ (j w : Nat) (T : TS) (U : Int × F_), w + j = (SW slot).toNat → (∀ i, i < slot → T.2.1 i = ch i) → chQ sz T U → chQ sz (tfL (fun l T => tf sz SW G n (slot + 1) l T) G slot (cv G ch slot) j w T) (fldL (fldM F sz SW n (slot + 1)) slot ch j w U) ∧ ∀ i, i < slot → (tfL (fun l T => tf sz SW G n (slot + 1) l T) G slot (cv G ch slot) j w T).2.1 i = ch i := by
      intro j
      induction j with
      | zero => intro w T U hw ht hq; exact ⟨hq, ht⟩
      | succ j ih =>
        intro w T U hw ht hq
        have hvs := vch_s (w := w) hv (by omega)
        have hwi : lwL G T.2.1 (slot * 4 + w) slot 0 (cv G ch slot) = cv G (fS ch slot w) (slot + 1) := by
          conv => rhs; unfold cv
          rw [fS_s, Int.toNat_natCast, cv_agr (a := ch) slot (fun u hu => fS_n (by omega))]
          exact lwL_agr slot 0 _ (fun u hu => by rw [fS_n (by omega)]; exact ht u (by omega))
        unfold tfL fldL
        rw [hwi]
        by_cases c : T.1 < cv G (fS ch slot w) (slot + 1)
        · rw [if_pos c]
          obtain ⟨h1, h2⟩ := tf_fld hL hsz n (slot + 1) (fS ch slot w) (T.1, fS T.2.1 slot w, T.2.2) U (by omega) hvs (fun i hi => by
            show fS T.2.1 slot w i = fS ch slot w i
            by_cases e : i = slot
            · subst e; rw [fS_s, fS_s]
            · rw [fS_n e, fS_n e]; exact ht i (by omega)) hq c
          exact ih (w + 1) _ _ (by omega) (fun i hi => by rw [h2 i (by omega), fS_n (by omega)]) h1
        · rw [if_neg c, fldM_le hL hsz n (slot + 1) (fS ch slot w) U (by omega) hvs (by have := hq.1; omega)]
          exact ih (w + 1) T U (by omega) ht hq
    exact go _ 0 T U (by omega) ht hq
end Chos93
