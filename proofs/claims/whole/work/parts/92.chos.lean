/-! choosing: the worth of a choice, both alike -/
section Chos92
variable {G ch : F_}
theorem lwL_e {one : Nat} {x : Int} : ∀ (j b : Nat) (m : Int), x ≤ lwL G ch one j b m ↔ x ≤ m ∧ ∀ u, b ≤ u → u < b + j → x ≤ G (one * 32 + (u * 4 + (ch u).toNat))
  | 0, b, m => by
    unfold lwL
    exact ⟨fun h => ⟨h, fun u u1 u2 => by omega⟩, fun h => h.1⟩
  | j + 1, b, m => by
    unfold lwL
    rw [lwL_e j (b + 1)]
    constructor
    · intro ⟨h1, h2⟩
      refine ⟨by split at h1 <;> omega, fun u u1 u2 => ?_⟩
      by_cases e : u = b
      · subst e
        split at h1 <;> omega
      · exact h2 u (by omega) (by omega)
    · intro ⟨h1, h2⟩
      have h3 := h2 b (Nat.le_refl b) (by omega)
      exact ⟨by split <;> omega, fun u u1 u2 => h2 u (by omega) (by omega)⟩
theorem lwL_agr {a : F_} {one : Nat} : ∀ (j b : Nat) (m : Int), (∀ u, u < b + j → ch u = a u) → lwL G ch one j b m = lwL G a one j b m
  | 0, _, _, _ => rfl
  | j + 1, b, m, h => by
    unfold lwL
    rw [h b (by omega)]
    exact lwL_agr j (b + 1) _ (fun u hu => h u (by omega))
/-- the least distance within the first slots -/
def cv (G ch : F_) : Nat → Int
  | 0 => 1000000
  | s + 1 => lwL G ch (s * 4 + (ch s).toNat) s 0 (cv G ch s)
theorem cv_e {x : Int} : ∀ n : Nat, x ≤ cv G ch n ↔ x ≤ 1000000 ∧ ∀ b s, b < s → s < n → x ≤ G ((s * 4 + (ch s).toNat) * 32 + (b * 4 + (ch b).toNat))
  | 0 => by
    unfold cv
    exact ⟨fun h => ⟨h, fun b s h1 h2 => by omega⟩, fun h => h.1⟩
  | n + 1 => by
    unfold cv
    rw [lwL_e, cv_e n]
    constructor
    · intro ⟨⟨h1, h2⟩, h3⟩
      refine ⟨h1, fun b s b1 s1 => ?_⟩
      by_cases e : s = n
      · subst e
        exact h3 b (by omega) (by omega)
      · exact h2 b s b1 (by omega)
    · intro ⟨h1, h2⟩
      exact ⟨⟨h1, fun b s b1 s1 => h2 b s b1 (by omega)⟩, fun u u1 u2 => h2 u n (by omega) (by omega)⟩
theorem cv_agr {a : F_} : ∀ n : Nat, (∀ u, u < n → ch u = a u) → cv G ch n = cv G a n
  | 0, _ => rfl
  | n + 1, h => by
    unfold cv
    rw [h n (by omega), cv_agr n (fun u hu => h u (by omega)), lwL_agr n 0 _ (fun u hu => h u (by omega))]
theorem cv_le : ∀ (m n : Nat), cv G ch (n + m) ≤ cv G ch n
  | 0, n => Int.le_refl _
  | m + 1, n => by
    have h1 := cv_le m n
    have h2 := ((lwL_e (x := cv G ch (n + (m + 1))) (n + m) 0 (cv G ch (n + m))).mp (Int.le_refl _)).1
    omega
abbrev dF (F ch : F_) (a u : Nat) : Int := F (32 * (4 * a + (ch a).toNat) + (4 * u + (ch u).toNat))
theorem lvT_p {F : F_} {a : Nat} {x : Int} : ∀ (j t : Nat) (l : Int), 0 ≤ l → (∀ u, t ≤ u → u < t + j → 0 ≤ dF F ch a u) → 0 ≤ lvT F ch a j t l ∧ (x ≤ lvT F ch a j t l ↔ x ≤ l ∧ ∀ u, t ≤ u → u < t + j → x ≤ dF F ch a u)
  | 0, t, l, hl, _ => by
    unfold lvT
    exact ⟨hl, fun h => ⟨h, fun u u1 u2 => by omega⟩, fun h => h.1⟩
  | j + 1, t, l, hl, hd => by
    unfold lvT
    have h0 := hd t (Nat.le_refl t) (by omega)
    change 0 ≤ lvT F ch a j (t + 1) (if l < 0 ∨ dF F ch a t < l then dF F ch a t else l) ∧ (x ≤ lvT F ch a j (t + 1) (if l < 0 ∨ dF F ch a t < l then dF F ch a t else l) ↔ _)
    obtain ⟨h1, h2⟩ := lvT_p (x := x) j (t + 1) (if l < 0 ∨ dF F ch a t < l then dF F ch a t else l) (by split <;> omega) (fun u u1 u2 => hd u (by omega) (by omega))
    refine ⟨h1, h2.trans ?_⟩
    constructor
    · intro ⟨h3, h4⟩
      refine ⟨by split at h3 <;> omega, fun u u1 u2 => ?_⟩
      by_cases e : u = t
      · subst e
        split at h3 <;> omega
      · exact h4 u (by omega) (by omega)
    · intro ⟨h3, h4⟩
      have h5 := h4 t (Nat.le_refl t) (by omega)
      exact ⟨by split <;> omega, fun u u1 u2 => h4 u (by omega) (by omega)⟩
theorem lvS_p {F : F_} {sz : Nat} {x : Int} : ∀ (j a : Nat) (l : Int), a + j = sz → 0 ≤ l → (∀ b u, a ≤ b → b < u → u < sz → 0 ≤ dF F ch b u) → 0 ≤ lvS F ch sz j a l ∧ (x ≤ lvS F ch sz j a l ↔ x ≤ l ∧ ∀ b u, a ≤ b → b < u → u < sz → x ≤ dF F ch b u)
  | 0, a, l, ha, hl, _ => by
    unfold lvS
    exact ⟨hl, fun h => ⟨h, fun b u b1 b2 b3 => by omega⟩, fun h => h.1⟩
  | j + 1, a, l, ha, hl, hd => by
    unfold lvS
    obtain ⟨g1, g2⟩ := lvT_p (ch := ch) (F := F) (a := a) (x := x) (sz - (a + 1)) (a + 1) l hl (fun u u1 u2 => hd a u (Nat.le_refl a) (by omega) (by omega))
    obtain ⟨h1, h2⟩ := lvS_p (x := x) j (a + 1) (lvT F ch a (sz - (a + 1)) (a + 1) l) (by omega) g1 (fun b u b1 b2 b3 => hd b u (by omega) b2 b3)
    refine ⟨h1, h2.trans ?_⟩
    rw [g2]
    constructor
    · intro ⟨⟨h3, h4⟩, h5⟩
      refine ⟨h3, fun b u b1 b2 b3 => ?_⟩
      by_cases e : b = a
      · subst e
        exact h4 u (by omega) (by omega)
      · exact h5 b u (by omega) b2 b3
    · intro ⟨h3, h4⟩
      exact ⟨⟨h3, fun u u1 u2 => h4 a u (Nat.le_refl a) (by omega) (by omega)⟩, fun b u b1 b2 b3 => h4 b u (by omega) b2 b3⟩
theorem lv_e {F : F_} {sz : Nat} {x : Int} (hsz : 2 ≤ sz) (hd : ∀ b u, b < u → u < sz → 0 ≤ dF F ch b u) : 0 ≤ lv F sz ch ∧ (x ≤ lv F sz ch ↔ ∀ b u, b < u → u < sz → x ≤ dF F ch b u) := by
  unfold lv
  obtain ⟨m, hm⟩ : ∃ m, sz = m + 2 := ⟨sz - 2, by omega⟩
  have e1 : lvS F ch sz sz 0 (-1) = lvS F ch sz (m + 1) 1 (lvT F ch 0 m 2 (dF F ch 0 1)) := by
    conv => lhs; rw [show lvS F ch sz sz = lvS F ch sz (m + 1 + 1) by rw [hm]]
    show lvS F ch sz (m + 1) 1 (lvT F ch 0 (sz - 1) 1 (-1)) = _
    rw [show sz - 1 = m + 1 by omega]
    show lvS F ch sz (m + 1) 1 (lvT F ch 0 m 2 (if (-1 : Int) < 0 ∨ dF F ch 0 1 < -1 then dF F ch 0 1 else -1)) = _
    rw [if_pos (Or.inl (by decide))]
  rw [e1]
  obtain ⟨g1, g2⟩ := lvT_p (ch := ch) (F := F) (a := 0) (x := x) m 2 (dF F ch 0 1) (hd 0 1 (by omega) (by omega)) (fun u u1 u2 => hd 0 u (by omega) (by omega))
  obtain ⟨h1, h2⟩ := lvS_p (ch := ch) (F := F) (sz := sz) (x := x) (m + 1) 1 (lvT F ch 0 m 2 (dF F ch 0 1)) (by omega) g1 (fun b u b1 b2 b3 => hd b u b2 b3)
  refine ⟨h1, h2.trans ?_⟩
  rw [g2]
  constructor
  · intro ⟨⟨h3, h4⟩, h5⟩ b u b1 b2
    by_cases e : b = 0
    · subst e
      by_cases e2 : u = 1
      · subst e2; exact h3
      · exact h4 u (by omega) (by omega)
    · exact h5 b u (by omega) b1 b2
  · intro h3
    exact ⟨⟨h3 0 1 (by omega) (by omega), fun u u1 u2 => h3 0 u (by omega) (by omega)⟩, fun b u b1 b2 b3 => h3 b u b2 b3⟩
end Chos92
