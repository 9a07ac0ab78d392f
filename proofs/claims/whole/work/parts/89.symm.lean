/-! nears of symmetric costs are symmetric -/
section Symm89
variable {b x : Nat}
theorem fw1_e {y : Nat} {f : F_} {u w : Nat} (hw : w < 17) (hy : y < 17) : fw1 b x y f (17 * u + w) = if u = x ∧ w = y then min (f (17 * x + y)) (f (17 * x + b) + f (17 * b + y)) else f (17 * u + w) := by
  unfold fw1
  by_cases c : u = x ∧ w = y
  · rw [if_pos c, c.1, c.2]
    split
    · rw [fS_s]; omega
    · omega
  · rw [if_neg c]
    split
    · rw [fS_n (by omega)]
    · rfl
theorem fwy_e (hb : b < 17) (hx : x < 17) : ∀ (j y : Nat) (f : F_), cOk f → y + j ≤ 17 → ∀ u w, w < 17 → fwy b x j y f (17 * u + w) = if u = x ∧ y ≤ w ∧ w < y + j then min (f (17 * x + w)) (f (17 * x + b) + f (17 * b + w)) else f (17 * u + w)
  | 0, y, f, _, _, u, w, hw => by
    unfold fwy
    rw [if_neg (by omega)]
  | j + 1, y, f, hf, hj, u, w, hw => by
    unfold fwy
    rw [fwy_e hb hx j (y + 1) (fw1 b x y f) (fw1_ok hf hb hx (by omega)) (by omega) u w hw, fw1_by hf hb]
    by_cases c1 : u = x ∧ y + 1 ≤ w ∧ w < y + 1 + j
    · rw [if_pos c1, if_pos (by omega), fw1_e hw (by omega), fw1_e hw (by omega), if_neg (by omega), if_neg (by omega)]
    · rw [if_neg c1, fw1_e hw (by omega)]
      by_cases c2 : u = x ∧ w = y
      · rw [if_pos c2, if_pos (by omega), c2.2]
      · rw [if_neg c2, if_neg (by omega)]
theorem fwx_e (hb : b < 17) : ∀ (j x : Nat) (f : F_), cOk f → x + j ≤ 17 → ∀ u w, w < 17 → fwx b j x f (17 * u + w) = if x ≤ u ∧ u < x + j then min (f (17 * u + w)) (f (17 * u + b) + f (17 * b + w)) else f (17 * u + w)
  | 0, x, f, _, _, u, w, hw => by
    unfold fwx
    rw [if_neg (by omega)]
  | j + 1, x, f, hf, hj, u, w, hw => by
    unfold fwx
    have hx : x < 17 := by omega
    have hd := hf.1 b hb
    have e1 : ∀ v, v < 17 → fwy b x 17 0 f (17 * b + v) = f (17 * b + v) := fun v hv => by
      rw [fwy_e hb hx 17 0 f hf (by omega) b v hv]
      by_cases c : b = x
      · rw [if_pos (by omega), ← c, hd]
        omega
      · rw [if_neg (by omega)]
    rw [fwx_e hb j (x + 1) (fwy b x 17 0 f) (fwy_ok hb hx 17 0 f (by omega) hf) (by omega) u w hw, e1 w hw]
    by_cases c1 : x + 1 ≤ u ∧ u < x + 1 + j
    · rw [if_pos c1, if_pos (by omega), fwy_e hb hx 17 0 f hf (by omega) u w hw, if_neg (by omega), fwy_e hb hx 17 0 f hf (by omega) u b hb, if_neg (by omega)]
    · rw [if_neg c1, fwy_e hb hx 17 0 f hf (by omega) u w hw]
      by_cases c2 : u = x
      · rw [if_pos (by omega), if_pos (by omega), c2]
      · rw [if_neg (by omega), if_neg (by omega)]
theorem fwx_sym {f : F_} (hb : b < 17) (hf : cOk f) (hs : symN f) : symN (fwx b 17 0 f) := by
  intro i j hi hj
  rw [fwx_e hb 17 0 f hf (by omega) i j hj, fwx_e hb 17 0 f hf (by omega) j i hi, if_pos (by omega), if_pos (by omega), hs i j hi hj, hs i b hi hb, hs b j hb hj]
  omega
theorem fwb_sym : ∀ (j b : Nat) (f : F_), b + j ≤ 17 → cOk f → symN f → symN (fwb j b f)
  | 0, b, f, _, _, hs => hs
  | j + 1, b, f, hj, hf, hs => by
    unfold fwb
    exact fwb_sym j (b + 1) _ (by omega) (fwx_ok (by omega) 17 0 f (by omega) hf) (fwx_sym (by omega) hf hs)
theorem fw_sym {f : F_} (hf : cOk f) (hs : symN f) : symN (fw f) := fwb_sym 17 0 f (by omega) hf hs
theorem c0_sym : symN c0_ := by
  intro i j hi hj
  unfold c0_
  by_cases c : i = j
  · rw [c]
  · rw [if_neg (by omega), if_neg (by omega)]
/-- costs behind a change -/
abbrev cS_ (C : F_) (a b : Nat) (v : Int) : F_ := fS (fS C (17 * a + b) v) (17 * b + a) v
theorem cS_ok {C : F_} {a b : Nat} {v : Int} (hC : cOk C) (ha : a < 17) (hb : b < 17) (hab : a ≠ b) (hv : 0 ≤ v ∧ v ≤ 100) : cOk (cS_ C a b v) := by
  refine ⟨fun k hk => ?_, fun i hi => ?_⟩
  · show fS (fS C (17 * a + b) v) (17 * b + a) v (17 * k + k) = 0
    rw [fS_n (by omega), fS_n (by omega)]
    exact hC.1 k hk
  · show 0 ≤ fS (fS C (17 * a + b) v) (17 * b + a) v i ∧ fS (fS C (17 * a + b) v) (17 * b + a) v i ≤ 100
    by_cases e1 : i = 17 * b + a
    · rw [e1, fS_s]; exact hv
    · rw [fS_n e1]
      by_cases e2 : i = 17 * a + b
      · rw [e2, fS_s]; exact hv
      · rw [fS_n e2]; exact hC.2 i hi
theorem cS_sym {C : F_} {a b : Nat} {v : Int} (hs : symN C) (ha : a < 17) (hb : b < 17) : symN (cS_ C a b v) := by
  intro i j hi hj
  show fS (fS C (17 * a + b) v) (17 * b + a) v (17 * i + j) = fS (fS C (17 * a + b) v) (17 * b + a) v (17 * j + i)
  by_cases e1 : i = b ∧ j = a
  · rw [e1.1, e1.2, fS_s]
    by_cases e2 : 17 * a + b = 17 * b + a
    · rw [e2, fS_s]
    · rw [fS_n e2, fS_s]
  · by_cases e2 : i = a ∧ j = b
    · rw [e2.1, e2.2, fS_s]
      by_cases e3 : 17 * a + b = 17 * b + a
      · rw [e3, fS_s]
      · rw [fS_n e3, fS_s]
    · rw [fS_n (by omega), fS_n (by omega), fS_n (by omega), fS_n (by omega)]
      exact hs i j hi hj
/-- a byte of the tape: the class's, and the reference's -/
theorem bt_i2b {v : Int} (hv : -2147483648 ≤ v ∧ v ≤ 2147483647) : bt_ v 24 = k_i2b (v / 2 ^ 24) % 256 ∧ bt_ v 16 = k_i2b (v / 2 ^ 16) % 256 ∧ bt_ v 8 = k_i2b (v / 2 ^ 8) % 256 ∧ bt_ v 0 = k_i2b (v / 2 ^ 0) % 256 := by
  unfold bt_ k_ushr k_i2b
  refine ⟨?_, ?_, ?_, ?_⟩ <;> split <;> omega
end Symm89
