/-! the JVM's ints and longs as whole numbers -/
theorem n_t {z : Int} (h : iR z) : (Int32.ofInt z).toInt = z := Int32.toInt_ofInt_of_le (by have := h.1; omega) (by have := h.2; omega)
theorem n_tL {z : Int} (h : lR z) : (Int64.ofInt z).toInt = z := Int64.toInt_ofInt_of_le (by have := h.1; omega) (by have := h.2; omega)
theorem n_lt {x y : Int} (hx : iR x) (hy : iR y) : Int32.ofInt x < Int32.ofInt y ↔ x < y := by rw [Int32.lt_iff_toInt_lt, n_t hx, n_t hy]
theorem n_le {x y : Int} (hx : iR x) (hy : iR y) : Int32.ofInt x ≤ Int32.ofInt y ↔ x ≤ y := by rw [Int32.le_iff_toInt_le, n_t hx, n_t hy]
theorem n_eq {x y : Int} (hx : iR x) (hy : iR y) : Int32.ofInt x = Int32.ofInt y ↔ x = y := by rw [← Int32.toInt_inj, n_t hx, n_t hy]
theorem n_0 : Int32.ofInt 0 = 0 := by decide +kernel
theorem n_r0 : iR 0 := by decide
theorem n_lt0 {x : Int} (hx : iR x) : Int32.ofInt x < 0 ↔ x < 0 := by rw [← n_0, n_lt hx n_r0]
theorem n_le0 {x : Int} (hx : iR x) : Int32.ofInt x ≤ 0 ↔ x ≤ 0 := by rw [← n_0, n_le hx n_r0]
theorem n_ge0 {x : Int} (hx : iR x) : 0 ≤ Int32.ofInt x ↔ 0 ≤ x := by rw [← n_0, n_le n_r0 hx]
theorem n_gt0 {x : Int} (hx : iR x) : 0 < Int32.ofInt x ↔ 0 < x := by rw [← n_0, n_lt n_r0 hx]
theorem n_eq0 {x : Int} (hx : iR x) : Int32.ofInt x = 0 ↔ x = 0 := by rw [← n_0, n_eq hx n_r0]
theorem n_cl {x : Int} (hx : iR x) : (Int32.ofInt x).toNatClampNeg = x.toNat := by rw [← Int32.toNat_toInt, n_t hx]
theorem n_nI (n : Nat) : Int32.ofInt (n : Int) = nI n := Int32.ofInt_eq_ofNat
theorem n_of (x : Int32) : Int32.ofInt x.toInt = x := Int32.ofInt_toInt x
theorem n_rng (x : Int32) : iR x.toInt := ⟨by have := x.le_toInt; omega, by have := x.toInt_lt; omega⟩
theorem n_pos {x : Int} (h : 0 ≤ x) : Int32.ofInt x = nI x.toNat := by
  rw [← n_nI]; congr 1; omega
theorem n_in {x : Int} {n : Nat} (hx : iR x) (h0 : 0 ≤ x) (h1 : x < n) : ¬ (Int32.ofInt x < 0 ∨ n ≤ (Int32.ofInt x).toNatClampNeg) := by
  rw [n_lt0 hx, n_cl hx]; omega
theorem n_div {x y : Int} (hx : iR x) (hy : iR y) (h0 : 0 ≤ x) (h1 : 0 < y) : Int32.ofInt x / Int32.ofInt y = Int32.ofInt (x / y) := by
  obtain ⟨a, rfl⟩ := Int.eq_ofNat_of_zero_le h0
  obtain ⟨b, rfl⟩ := Int.eq_ofNat_of_zero_le (Int.le_of_lt h1)
  have := hx.2; have := hy.2
  rw [n_nI, n_nI, pk_div (by omega) (by omega) (by omega), ← n_nI]
  congr 1
theorem n_rem {x y : Int} (hx : iR x) (hy : iR y) (h0 : 0 ≤ x) (h1 : 0 < y) : Int32.ofInt x - Int32.ofInt x / Int32.ofInt y * Int32.ofInt y = Int32.ofInt (x % y) := by
  obtain ⟨a, rfl⟩ := Int.eq_ofNat_of_zero_le h0
  obtain ⟨b, rfl⟩ := Int.eq_ofNat_of_zero_le (Int.le_of_lt h1)
  have := hx.2; have := hy.2
  rw [n_nI, n_nI, pk_rem (by omega) (by omega) (by omega), ← n_nI]
  congr 1
theorem n_bv (x : Int) : ((Int32.ofInt x).toBitVec.toNat : Int) = x % 4294967296 := by
  rw [Int32.toBitVec_ofInt, BitVec.toNat_ofInt]
  omega
theorem n_and {x : Int} (k : Nat) {m : Int} (hm : (Int32.ofInt m).toBitVec.toNat = 2 ^ k - 1) (hk : k ≤ 31) : Int32.ofInt x &&& Int32.ofInt m = Int32.ofInt (x % 2 ^ k) := by
  rw [pk_and _ k hm, ← n_nI]
  congr 1
  have h := n_bv x
  rw [Int.natCast_emod, h]
  have h2 : ((2 ^ k : Nat) : Int) = (2 : Int) ^ k := by simp
  rw [h2]
  apply Int.emod_emod_of_dvd
  have h3 : (4294967296 : Int) = 2 ^ k * 2 ^ (32 - k) := by
    rw [← Int.pow_add]
    rw [show k + (32 - k) = 32 by omega]
    rfl
  rw [h3]
  exact Int.dvd_mul_right _ _
theorem n_and255 (x : Int) : Int32.ofInt x &&& Int32.ofInt 255 = Int32.ofInt (x % 256) := n_and 8 (by decide +kernel) (by decide)
theorem n_and31 (x : Int) : Int32.ofInt x &&& Int32.ofInt 31 = Int32.ofInt (x % 32) := n_and 5 (by decide +kernel) (by decide)
theorem n_sl : ∀ n, n < 32 → ((nI n &&& 31).toBitVec.smod 32).toNat = n := by decide +kernel
theorem n_su : ∀ n, n < 32 → (((nI n).toUInt32 &&& Int32.toUInt32 31).toBitVec % 32).toNat = n := by decide +kernel
theorem n_shr {x y : Int} (hx : iR x) (h0 : 0 ≤ y) (h1 : y < 32) : Int32.ofInt x >>> (Int32.ofInt y &&& 31) = Int32.ofInt (x / 2 ^ y.toNat) := by
  have hp : (0 : Int) < 2 ^ y.toNat := Int.pow_pos (by decide)
  have h2 : (1 : Int) ≤ 2 ^ y.toNat := hp
  have hr : iR (x / 2 ^ y.toNat) := by
    refine ⟨?_, ?_⟩
    · rw [Int.le_ediv_iff_mul_le hp]
      have h3 : (-2147483648 : Int) * 2 ^ y.toNat ≤ -2147483648 * 1 := Int.mul_le_mul_of_nonpos_left (by decide) h2
      have := hx.1; omega
    · apply Int.le_of_lt_add_one
      rw [Int.ediv_lt_iff_lt_mul hp]
      have h3 : (2147483648 : Int) * 1 ≤ 2147483648 * 2 ^ y.toNat := Int.mul_le_mul_of_nonneg_left h2 (by decide)
      have := hx.2; omega
  apply Int32.toInt_inj.mp
  rw [n_pos h0, pk_shr _ _ y.toNat (n_sl _ (by omega)), n_t hx, n_t hr, Int.shiftRight_eq_div_pow]
  simp
def k_ushr (x : Int) (y : Nat) : Int := if (x % 4294967296) / 2 ^ y ≤ 2147483647 then (x % 4294967296) / 2 ^ y else (x % 4294967296) / 2 ^ y - 4294967296
theorem n_ushr {x y : Int} (h0 : 0 ≤ y) (h1 : y < 32) : (((Int32.ofInt x).toUInt32 >>> ((Int32.ofInt y).toUInt32 &&& Int32.toUInt32 31)).toInt32) = Int32.ofInt (k_ushr x y.toNat) ∧ iR (k_ushr x y.toNat) := by
  have hp : (0 : Int) < 2 ^ y.toNat := Int.pow_pos (by decide)
  have h2 : (1 : Int) ≤ 2 ^ y.toNat := hp
  have hu0 : 0 ≤ x % 4294967296 := Int.emod_nonneg _ (by decide)
  have hu1 : x % 4294967296 < 4294967296 := Int.emod_lt_of_pos _ (by decide)
  have hd0 : 0 ≤ (x % 4294967296) / 2 ^ y.toNat := Int.ediv_nonneg hu0 (Int.le_of_lt hp)
  have hd1 : (x % 4294967296) / 2 ^ y.toNat < 4294967296 := by
    rw [Int.ediv_lt_iff_lt_mul hp]
    have h3 : (4294967296 : Int) * 1 ≤ 4294967296 * 2 ^ y.toNat := Int.mul_le_mul_of_nonneg_left h2 (by decide)
    omega
  refine ⟨?_, ?_⟩
  · apply Int32.toBitVec_inj.mp
    apply BitVec.eq_of_toNat_eq
    rw [n_pos h0, pk_ushr _ _ y.toNat (n_su _ (by omega))]
    apply Int.ofNat.inj
    show (((Int32.ofInt x).toBitVec.toNat / 2 ^ y.toNat : Nat) : Int) = (((Int32.ofInt (k_ushr x y.toNat)).toBitVec.toNat : Nat) : Int)
    rw [n_bv, Int.natCast_ediv, n_bv]
    have h5 : ((2 ^ y.toNat : Nat) : Int) = (2 : Int) ^ y.toNat := by simp
    rw [h5]
    unfold k_ushr
    split <;> omega
  · unfold k_ushr
    split <;> omega
def k_i2b (x : Int) : Int := (x + 128) % 256 - 128
theorem n_i2b {x : Int} (hx : iR x) : (Int32.ofInt x).toInt8.toInt32 = Int32.ofInt (k_i2b x) ∧ -128 ≤ k_i2b x ∧ k_i2b x ≤ 127 := by
  have hb : -128 ≤ k_i2b x ∧ k_i2b x ≤ 127 := by unfold k_i2b; omega
  refine ⟨?_, hb⟩
  apply Int32.toInt_inj.mp
  rw [n_t ⟨by omega, by omega⟩, Int8.toInt_toInt32, Int32.toInt_toInt8, n_t hx]
  unfold k_i2b
  rw [Int.bmod_def]
  split <;> omega
theorem n_i2l {x : Int} (hx : iR x) : (Int32.ofInt x).toInt64 = Int64.ofInt x := by
  apply Int64.toInt_inj.mp
  rw [Int32.toInt_toInt64, n_t hx, n_tL ⟨by have := hx.1; omega, by have := hx.2; omega⟩]
theorem n_shl5 (x : Int) : Int64.ofInt x <<< ((Int32.ofInt 5).toInt64 &&& 63) = Int64.ofInt (x * 32) := by
  have e : ((Int32.ofInt 5).toInt64 &&& 63 : Int64) = 5 := by decide +kernel
  rw [e]
  have h2 : ((5 : Int64).toBitVec.smod 64).toNat = 5 := by decide +kernel
  apply Int64.toBitVec_inj.mp
  apply BitVec.eq_of_toNat_eq
  show ((Int64.ofInt x).toBitVec <<< ((5 : Int64).toBitVec.smod 64).toNat).toNat = _
  rw [h2, BitVec.toNat_shiftLeft, Nat.shiftLeft_eq, Int64.toBitVec_ofInt, Int64.toBitVec_ofInt, BitVec.toNat_ofInt, BitVec.toNat_ofInt]
  omega
def k_lcmp (x y : Int) : Int := if y < x then 1 else if x = y then 0 else -1
theorem n_lcmp {x y : Int} (hx : lR x) (hy : lR y) : lg_cmp (Int64.ofInt x) (Int64.ofInt y) = Int32.ofInt (k_lcmp x y) ∧ iR (k_lcmp x y) := by
  unfold lg_cmp k_lcmp
  simp only [gt_iff_lt, Int64.lt_iff_toInt_lt, ← Int64.toInt_inj, n_tL hx, n_tL hy]
  split
  · exact ⟨by decide +kernel, by decide⟩
  · split
    · exact ⟨by decide +kernel, by decide⟩
    · exact ⟨by decide +kernel, by decide⟩
theorem n_min {x y : Int} (hx : iR x) (hy : iR y) : (if Int32.ofInt y < Int32.ofInt x then Int32.ofInt y else Int32.ofInt x) = Int32.ofInt (if y < x then y else x) := by
  simp only [n_lt hy hx]
  split <;> rfl
theorem n_max {x y : Int} (hx : iR x) (hy : iR y) : (if Int32.ofInt x < Int32.ofInt y then Int32.ofInt y else Int32.ofInt x) = Int32.ofInt (if x < y then y else x) := by
  simp only [n_lt hx hy]
  split <;> rfl
theorem n_nb {x : Int} (h : -128 ≤ x ∧ x ≤ 127) : narrow .byte (.int (Int32.ofInt x)) = .int (Int32.ofInt x) := by
  have h1 := (n_i2b (x := x) ⟨by omega, by omega⟩).1
  have h2 : k_i2b x = x := by unfold k_i2b; omega
  rw [h2] at h1
  have := pk_nb (Int32.ofInt x)
  rw [h1] at this
  exact this
theorem n_nz {x : Int} (h : x = 0 ∨ x = 1) : narrow .boolean (.int (Int32.ofInt x)) = .int (Int32.ofInt x) := by
  rcases h with rfl | rfl <;> decide +kernel
theorem n_fz {x : Int} (h : x = 0 ∨ x = 1) : fits .boolean (.int (Int32.ofInt x)) = true := by
  rcases h with rfl | rfl <;> decide +kernel
