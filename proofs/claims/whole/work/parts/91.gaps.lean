/-! choosing: what the class has measured -/
section Gaps91
variable {wn : F_}
theorem rdyL_e : ∀ (j i : Nat), rdyL wn j i = 1 ↔ ∀ k, i ≤ k → k < i + j → wn k ≠ 0
  | 0, i => ⟨fun _ k k1 k2 => by omega, fun _ => rfl⟩
  | j + 1, i => by
    unfold rdyL
    by_cases c : wn i = 0
    · rw [if_pos c]
      exact ⟨fun h => by omega, fun h => absurd c (h i (Nat.le_refl i) (by omega))⟩
    · rw [if_neg c, rdyL_e j (i + 1)]
      constructor
      · intro h k k1 k2
        by_cases e : k = i
        · rw [e]; exact c
        · exact h k (by omega) (by omega)
      · intro h k k1 k2
        exact h k (by omega) (by omega)
theorem msI_e {g : Nat → Int} {one b : Nat} : ∀ (j w : Nat) (G : F_), b * 4 + w + j ≤ 32 → ∀ o p, p < 32 → msI g one b j w G (o * 32 + p) = if o = one ∧ b * 4 + w ≤ p ∧ p < b * 4 + w + j then g p else G (o * 32 + p)
  | 0, w, G, _, o, p, hp => by
    unfold msI
    rw [if_neg (by omega)]
  | j + 1, w, G, hj, o, p, hp => by
    unfold msI
    rw [msI_e j (w + 1) _ (by omega) o p hp]
    by_cases c1 : o = one ∧ b * 4 + (w + 1) ≤ p ∧ p < b * 4 + (w + 1) + j
    · rw [if_pos c1, if_pos (by omega)]
    · rw [if_neg c1]
      by_cases c2 : o = one ∧ p = b * 4 + w
      · rw [if_pos (by omega), c2.1, c2.2, fS_s]
      · rw [if_neg (by omega), fS_n (by omega)]
theorem msB_e {g : Nat → Int} {one : Nat} (hwn : ∀ s : Nat, s < 8 → 0 ≤ wn s ∧ wn s ≤ 4) : ∀ (j b : Nat) (G : F_), b + j ≤ 8 → ∀ o p, p < 32 → msB g wn one j b G (o * 32 + p) = if o = one ∧ (b ≤ p / 4 ∧ p / 4 < b + j) ∧ ((p % 4 : Nat) : Int) < wn (p / 4) then g p else G (o * 32 + p)
  | 0, b, G, _, o, p, hp => by
    unfold msB
    rw [if_neg (by omega)]
  | j + 1, b, G, hj, o, p, hp => by
    unfold msB
    have hb := hwn b (by omega)
    rw [msB_e hwn j (b + 1) _ (by omega) o p hp, msI_e (wn b).toNat 0 G (by omega) o p hp]
    by_cases c1 : o = one ∧ (b + 1 ≤ p / 4 ∧ p / 4 < b + 1 + j) ∧ ((p % 4 : Nat) : Int) < wn (p / 4)
    · rw [if_pos c1, if_pos ⟨c1.1, by omega, c1.2.2⟩]
    · rw [if_neg c1]
      by_cases c2 : p / 4 = b
      · rw [c2] at c1 ⊢
        by_cases c3 : o = one ∧ ((p % 4 : Nat) : Int) < wn b
        · rw [if_pos (by omega), if_pos ⟨c3.1, by omega, c3.2⟩]
        · rw [if_neg (by omega), if_neg (fun q => c3 ⟨q.1, q.2.2⟩)]
      · rw [if_neg (by omega), if_neg (fun q => c1 ⟨q.1, by omega, q.2.2⟩)]
theorem msW_e {gf : Nat → Nat → Int} {slot : Nat} (hwn : ∀ s : Nat, s < 8 → 0 ≤ wn s ∧ wn s ≤ 4) (hsl : slot ≤ 8) : ∀ (j w : Nat) (G : F_), w + j ≤ 4 → ∀ o p, p < 32 → msW gf wn slot j w G (o * 32 + p) = if (o / 4 = slot ∧ w ≤ o % 4 ∧ o % 4 < w + j) ∧ p / 4 < slot ∧ ((p % 4 : Nat) : Int) < wn (p / 4) then gf o p else G (o * 32 + p)
  | 0, w, G, _, o, p, hp => by
    unfold msW
    rw [if_neg (by omega)]
  | j + 1, w, G, hj, o, p, hp => by
    unfold msW
    rw [msW_e hwn hsl j (w + 1) _ (by omega) o p hp, msB_e hwn slot 0 G (by omega) o p hp]
    by_cases c1 : (o / 4 = slot ∧ w + 1 ≤ o % 4 ∧ o % 4 < w + 1 + j) ∧ p / 4 < slot ∧ ((p % 4 : Nat) : Int) < wn (p / 4)
    · rw [if_pos c1, if_pos ⟨by omega, c1.2⟩]
    · rw [if_neg c1]
      by_cases c2 : o = slot * 4 + w
      · by_cases c3 : p / 4 < slot ∧ ((p % 4 : Nat) : Int) < wn (p / 4)
        · rw [if_pos ⟨c2, by omega, c3.2⟩, if_pos ⟨by omega, c3⟩, c2]
        · rw [if_neg (fun q => c3 ⟨by omega, q.2.2⟩), if_neg (fun q => c3 q.2)]
      · rw [if_neg (fun q => c2 q.1), if_neg (fun q => c1 ⟨by omega, q.2⟩)]
theorem msS_e {gf : Nat → Nat → Int} (hwn : ∀ s : Nat, s < 8 → 0 ≤ wn s ∧ wn s ≤ 4) : ∀ (j slot : Nat) (G : F_), slot + j ≤ 8 → ∀ o p, p < 32 → msS gf wn j slot G (o * 32 + p) = if (slot ≤ o / 4 ∧ o / 4 < slot + j ∧ ((o % 4 : Nat) : Int) < wn (o / 4)) ∧ p / 4 < o / 4 ∧ ((p % 4 : Nat) : Int) < wn (p / 4) then gf o p else G (o * 32 + p)
  | 0, slot, G, _, o, p, hp => by
    unfold msS
    rw [if_neg (by omega)]
  | j + 1, slot, G, hj, o, p, hp => by
    unfold msS
    have hb := hwn slot (by omega)
    rw [msS_e hwn j (slot + 1) _ (by omega) o p hp, msW_e hwn (by omega) (wn slot).toNat 0 G (by omega) o p hp]
    by_cases c1 : (slot + 1 ≤ o / 4 ∧ o / 4 < slot + 1 + j ∧ ((o % 4 : Nat) : Int) < wn (o / 4)) ∧ p / 4 < o / 4 ∧ ((p % 4 : Nat) : Int) < wn (p / 4)
    · rw [if_pos c1, if_pos ⟨⟨by omega, by omega, c1.1.2.2⟩, c1.2⟩]
    · rw [if_neg c1]
      by_cases c2 : o / 4 = slot
      · rw [c2] at c1 ⊢
        by_cases c3 : ((o % 4 : Nat) : Int) < wn slot ∧ p / 4 < slot ∧ ((p % 4 : Nat) : Int) < wn (p / 4)
        · rw [if_pos ⟨⟨rfl, by omega, by omega⟩, c3.2⟩, if_pos ⟨⟨by omega, by omega, c3.1⟩, c3.2⟩]
        · rw [if_neg (fun q => c3 ⟨by omega, q.2⟩), if_neg (fun q => c3 ⟨q.1.2.2, q.2⟩)]
      · rw [if_neg (fun q => c2 q.1.1), if_neg (fun q => c1 ⟨⟨by omega, by omega, q.1.2.2⟩, q.2⟩)]
end Gaps91
