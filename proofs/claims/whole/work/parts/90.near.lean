/-! the pair and the hearing: both alike -/
section Near90
/-- the class's and the reference's nearest so far -/
def nrR (A B : Int × Int × Int) : Prop := (A = (1000000, -1, -1) ∧ B = (-1, -1, -1)) ∨ (A = B ∧ (0 ≤ A.1 ∧ A.1 < 1000000) ∧ 0 ≤ A.2.1)
theorem prL_0 {gp : Nat → Int} {k : Nat} : ∀ (j o : Nat) (B : Int × Int × Int), B.1 = 0 → (∀ l, o ≤ l → l < o + j → 0 ≤ gp l) → prL gp k j o B = B
  | 0, _, _, _, _ => rfl
  | j + 1, o, B, hB, hg => by
    unfold prL
    have := hg o (Nat.le_refl o) (by omega)
    rw [if_pos (by omega)]
    exact prL_0 j (o + 1) B hB (fun l l1 l2 => hg l (by omega) (by omega))
theorem nr_L {ga gb : Nat → Int} {k : Nat} : ∀ (j o : Nat) (A B : Int × Int × Int), nrR A B → (∀ l, o ≤ l → l < o + j → ga l = gb l ∧ 0 ≤ ga l ∧ ga l < 1000000) → nrR (cmpL ga k j o A) (prL gb k j o B)
  | 0, _, A, B, h, _ => h
  | j + 1, o, A, B, h, hg => by
    obtain ⟨g1, g2, g3⟩ := hg o (Nat.le_refl o) (by omega)
    by_cases c : A.1 ≤ 0
    · rcases h with ⟨h1, h2⟩ | ⟨h1, h2, h3⟩
      · rw [h1] at c; simp only at c; omega
      · rw [← h1, prL_0 (j + 1) o A (by omega) (fun l l1 l2 => by have := hg l l1 l2; omega)]
        unfold cmpL
        rw [if_pos c]
        exact Or.inr ⟨rfl, h2, h3⟩
    · unfold cmpL prL
      rw [if_neg c]
      refine nr_L j (o + 1) _ _ ?_ (fun l l1 l2 => hg l (by omega) (by omega))
      rcases h with ⟨h1, h2⟩ | ⟨h1, h2, h3⟩
      · rw [h1, h2]
        simp only
        rw [if_pos g3, if_neg (by omega), g1]
        exact Or.inr ⟨rfl, ⟨by simp only; omega, by simp only; omega⟩, by simp only; omega⟩
      · rw [← h1]
        by_cases c2 : ga o < A.1
        · rw [if_pos c2, if_neg (by omega), g1]
          exact Or.inr ⟨rfl, ⟨by simp only; omega, by simp only; omega⟩, by simp only; omega⟩
        · rw [if_neg c2, if_pos (by omega)]
          exact Or.inr ⟨rfl, h2, h3⟩
theorem prP_0 {gp : Nat → Nat → Int} {sz : Nat} : ∀ (j k : Nat) (B : Int × Int × Int), B.1 = 0 → k + j = sz → (∀ a l, a < sz → l < sz → 0 ≤ gp a l) → prP gp sz j k B = B
  | 0, _, _, _, _, _ => rfl
  | j + 1, k, B, hB, hk, hg => by
    unfold prP
    rw [prL_0 _ _ B hB (fun l l1 l2 => hg k l (by omega) (by omega))]
    exact prP_0 j (k + 1) B hB (by omega) hg
theorem nr_A {ga gb : Nat → Nat → Int} {sz : Nat} (hg : ∀ a l, a < sz → l < sz → ga a l = gb a l ∧ 0 ≤ ga a l ∧ ga a l < 1000000) : ∀ (j k : Nat) (A B : Int × Int × Int), k + j = sz → nrR A B → nrR (cmpA ga sz j k A) (prP gb sz j k B)
  | 0, _, A, B, _, h => h
  | j + 1, k, A, B, hk, h => by
    by_cases c : A.1 ≤ 0
    · rcases h with ⟨h1, h2⟩ | ⟨h1, h2, h3⟩
      · rw [h1] at c; simp only at c; omega
      · rw [← h1, prP_0 (j + 1) k A (by omega) hk (fun a l ha hl => by have := hg a l ha hl; omega)]
        unfold cmpA
        rw [if_pos c]
        exact Or.inr ⟨rfl, h2, h3⟩
    · unfold cmpA prP
      rw [if_neg c]
      exact nr_A hg j (k + 1) _ _ (by omega) (nr_L _ _ A B h (fun l l1 l2 => hg k l (by omega) (by omega)))
theorem nrR_o {A B : Int × Int × Int} (h : nrR A B) : ndo A = B := by
  unfold ndo
  rcases h with ⟨h1, h2⟩ | ⟨h1, h2, h3⟩
  · rw [h1, h2]; rfl
  · rw [if_neg (by omega), h1]
/-- the class's and the reference's hearing so far -/
def hrR (A B : HS) : Prop := (A = (-1, -1, -1, -1) ∧ B = (-1, 0, -1, 0)) ∨ (A.1 = B.1 ∧ 0 ≤ A.1 ∧ A.2.1 = B.2.1 ∧ (0 ≤ A.2.1 ∧ A.2.1 < 1000000) ∧ A.2.2.1 = B.2.2.1 ∧ ((A.2.2.1 = -1 ∧ A.2.2.2 = -1 ∧ 0 ≤ B.2.2.2 ∧ B.2.2.2 < 1000000) ∨ (0 ≤ A.2.2.1 ∧ A.2.2.2 = B.2.2.2 ∧ A.2.1 ≤ A.2.2.2 ∧ A.2.2.2 < 1000000)))
theorem hr_w {A B : HS} {k : Nat} {v : Int} (h : hrR A B) (hv : 0 ≤ v ∧ v < 1000000) : hrR (wgh A k (rch (if A.2.2.1 = -1 then 1000000 else A.2.2.2) v)) (wgm B k v) := by
  rcases h with ⟨h1, h2⟩ | ⟨h1, h2, h3, h4, h5, h6⟩
  · rw [h1, h2]
    have hr : rch (if ((-1, -1, -1, -1) : HS).2.2.1 = -1 then 1000000 else ((-1, -1, -1, -1) : HS).2.2.2) v = v := by
      show rch (if (-1 : Int) = -1 then 1000000 else -1) v = v
      unfold rch; rw [if_pos rfl, if_pos (by omega)]
    have hA : wgh (-1, -1, -1, -1) k v = ((k : Int), v, -1, -1) := by unfold wgh; rw [if_pos (Or.inl rfl)]
    have hB : wgm (-1, 0, -1, 0) k v = ((k : Int), v, -1, 0) := by unfold wgm; rw [if_pos (Or.inl (by decide))]
    rw [hr, hA, hB]
    exact Or.inr ⟨rfl, by simp only; omega, rfl, by simp only; omega, rfl, Or.inl ⟨rfl, rfl, by simp only; omega, by simp only; omega⟩⟩
  · obtain ⟨f, fg, s, sg⟩ := A
    obtain ⟨f', fg', s', sg'⟩ := B
    simp only at h1 h2 h3 h4 h5 h6 ⊢
    subst h1
    subst h3
    subst h5
    unfold wgh wgm
    simp only
    rcases h6 with ⟨e1, e2, e3, e4⟩ | ⟨e1, e2, e3, e4⟩
    · subst e1
      subst e2
      have hr : rch (if (-1 : Int) = -1 then 1000000 else -1) v = v := by unfold rch; rw [if_pos rfl, if_pos (by omega)]
      rw [hr]
      by_cases c : v < fg
      · rw [if_pos (Or.inr c), if_pos (Or.inr c)]
        exact Or.inr ⟨rfl, by simp only; omega, rfl, by simp only; omega, rfl, Or.inr ⟨h2, rfl, by simp only; omega, by simp only; omega⟩⟩
      · rw [if_neg (show ¬ (f = -1 ∨ v < fg) by omega), if_pos (show (-1 : Int) = -1 ∨ v < -1 from Or.inl rfl), if_neg (show ¬ (f < 0 ∨ v < fg) by omega), if_pos (show (-1 : Int) < 0 ∨ v < sg' from Or.inl (by decide))]
        exact Or.inr ⟨rfl, h2, rfl, h4, rfl, Or.inr ⟨by simp only; omega, rfl, by simp only; omega, by simp only; omega⟩⟩
    · subst e2
      rw [if_neg (show ¬ s = -1 by omega)]
      by_cases c : v < sg
      · have hr : rch sg v = v := by unfold rch; rw [if_pos c]
        rw [hr]
        by_cases c1 : v < fg
        · rw [if_pos (Or.inr c1), if_pos (Or.inr c1)]
          exact Or.inr ⟨rfl, by simp only; omega, rfl, by simp only; omega, rfl, Or.inr ⟨h2, rfl, by simp only; omega, by simp only; omega⟩⟩
        · rw [if_neg (show ¬ (f = -1 ∨ v < fg) by omega), if_pos (show s = -1 ∨ v < sg from Or.inr c), if_neg (show ¬ (f < 0 ∨ v < fg) by omega), if_pos (show s < 0 ∨ v < sg from Or.inr c)]
          exact Or.inr ⟨rfl, h2, rfl, h4, rfl, Or.inr ⟨by simp only; omega, rfl, by simp only; omega, by simp only; omega⟩⟩
      · have hr : rch sg v = sg := by unfold rch; rw [if_neg c]
        rw [hr, if_neg (show ¬ (f = -1 ∨ sg < fg) by omega), if_neg (show ¬ (s = -1 ∨ sg < sg) by omega), if_neg (show ¬ (f < 0 ∨ v < fg) by omega), if_neg (show ¬ (s < 0 ∨ v < sg) by omega)]
        exact Or.inr ⟨rfl, h2, rfl, h4, rfl, Or.inr ⟨e1, rfl, e3, e4⟩⟩
theorem hr_L {ga gb : Nat → Int} : ∀ (j k : Nat) (A B : HS), hrR A B → (∀ l, k ≤ l → l < k + j → ga l = gb l ∧ 0 ≤ ga l ∧ ga l < 1000000) → hrR (lsn ga j k A) (hrL gb j k B)
  | 0, _, A, B, h, _ => h
  | j + 1, k, A, B, h, hg => by
    obtain ⟨g1, g2, g3⟩ := hg k (Nat.le_refl k) (by omega)
    unfold lsn hrL
    rw [← g1]
    exact hr_L j (k + 1) _ _ (hr_w h ⟨g2, g3⟩) (fun l l1 l2 => hg l (by omega) (by omega))
end Near90
