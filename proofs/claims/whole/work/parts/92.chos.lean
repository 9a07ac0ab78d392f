/-! choosing: the worth of a choice, both alike -/
section Chos92
variable {G ch : F_}
theorem lwL_e {one : Nat} {x : Int} : ∀ (j b : Nat) (m : Int), x ≤ lwL G ch one j b m ↔ x ≤ m ∧ ∀ u, b ≤ u → u < b + j → x ≤ G (one * 32 + (u * 4 + (ch u).toNat))
  | 0, b, m => by
    unfold lwL
    exact ⟨fun h => ⟨h, fun u u1 u2 => by omega⟩, fun h => h.1⟩
  | j + 1, b, m => by
    unfold lwL
    rw [lwL_e j (b + 1)]
    constructor
    · intro ⟨h1, h2⟩
      refine ⟨by split at h1 <;> omega, fun u u1 u2 => ?_⟩
      by_cases e : u = b
      · subst e
        split at h1 <;> omega
      · exact h2 u (by omega) (by omega)
    · intro ⟨h1, h2⟩
      have h3 := h2 b (Nat.le_refl b) (by omega)
      exact ⟨by split <;> omega, fun u u1 u2 => h2 u (by omega) (by omega)⟩
theorem lwL_agr {a : F_} {one : Nat} : ∀ (j b : Nat) (m : Int), (∀ u, u < b + j → ch u = a u) → lwL G ch one j b m = lwL G a one j b m
  | 0, _, _, _ => rfl
  | j + 1, b, m, h => by
    unfold lwL
    rw [h b (by omega)]
    exact lwL_agr j (b + 1) _ (fun u hu => h u (by omega))
/-- the least distance within the first slots -/
def cv (G ch : F_) : Nat → Int
  | 0 => 1000000
  | s + 1 => lwL G ch (s * 4 + (ch s).toNat) s 0 (cv G ch s)
theorem cv_e {x : Int} : ∀ n : Nat, x ≤ cv G ch n ↔ x ≤ 1000000 ∧ ∀ b s, b < s → s < n → x ≤ G ((s * 4 + (ch s).toNat) * 32 + (b * 4 + (ch b).toNat))
  | 0 => by
    unfold cv
    exact ⟨fun h => ⟨h, fun b s h1 h2 => by omega⟩, fun h => h.1⟩
  | n + 1 => by
    unfold cv
    rw [lwL_e, cv_e n]
    constructor
    · intro ⟨⟨h1, h2⟩, h3⟩
      refine ⟨h1, fun b s b1 s1 => ?_⟩
      by_cases e : s = n
      · subst e
        exact h3 b (by omega) (by omega)
      · exact h2 b s b1 (by omega)
    · intro ⟨h1, h2⟩
      exact ⟨⟨h1, fun b s b1 s1 => h2 b s b1 (by omega)⟩, fun u u1 u2 => h2 u n (by omega) (by omega)⟩
theorem cv_agr {a : F_} : ∀ n : Nat, (∀ u, u < n → ch u = a u) → cv G ch n = cv G a n
  | 0, _ => rfl
  | n + 1, h => by
    unfold cv
    rw [h n (by omega), cv_agr n (fun u hu => h u (by omega)), lwL_agr n 0 _ (fun u hu => h u (by omega))]
theorem cv_le : ∀ (m n : Nat), cv G ch (n + m) ≤ cv G ch n
  | 0, n => Int.le_refl _
  | m + 1, n => by
    have h1 := cv_le m n
    have h2 := ((lwL_e (x := cv G ch (n + (m + 1))) (n + m) 0 (cv G ch (n + m))).mp (Int.le_refl _)).1
    omega
end Chos92
