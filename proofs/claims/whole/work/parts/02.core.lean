/-! A PURE MACHINE over whole numbers: values, cells, heap, code; what it means of the JVM's states -/
abbrev PV : Type := Int ⊕ (Int ⊕ Option Nat)
abbrev vI (z : Int) : PV := Sum.inl z
abbrev vL (z : Int) : PV := Sum.inr (Sum.inl z)
abbrev vR (a : Nat) : PV := Sum.inr (Sum.inr (some a))
abbrev vN : PV := Sum.inr (Sum.inr none)
/-- a cell: an array (kind 0 int, 1 byte, 2 boolean, 3 long, 4 the script), its length, what it holds; or an object: its number among the kinds of object, its fields -/
abbrev PC : Type := (Nat × Nat × (Nat → Int)) ⊕ (Nat × List PV)
abbrev PH : Type := Nat × (Nat → Option PC)
abbrev PI : Type := Nat × Int × Nat × Nat × List Nat
abbrev PM : Type := Nat × MethodName × ByteArray × Nat × Option FieldType × List (Nat × Nat × Nat × Nat) × List (Nat × PI × Nat)
abbrev PO : Type := Option PV ⊕ String
abbrev pm_o (m : PM) : Nat := m.1
abbrev pm_y (m : PM) : MethodName := m.2.1
abbrev pm_b (m : PM) : ByteArray := m.2.2.1
abbrev pm_n (m : PM) : Nat := m.2.2.2.1
abbrev pm_r (m : PM) : Option FieldType := m.2.2.2.2.1
abbrev pm_h (m : PM) : List (Nat × Nat × Nat × Nat) := m.2.2.2.2.2.1
abbrev pm_c (m : PM) : List (Nat × PI × Nat) := m.2.2.2.2.2.2
abbrev Cx : Type := Launch × Nat × Nat × Heap × (Nat → ClassId) × (Nat → Nat → Nat) × (Nat → ClassId) × (Nat → Nat) × Nat × (Nat → Int32)
abbrev cx_l (X : Cx) : Launch := X.1
abbrev cx_z (X : Cx) : Nat := X.2.1
abbrev cx_b (X : Cx) : Nat := X.2.2.1
abbrev cx_H (X : Cx) : Heap := X.2.2.2.1
abbrev cx_C (X : Cx) : Nat → ClassId := X.2.2.2.2.1
abbrev cx_I (X : Cx) : Nat → Nat → Nat := X.2.2.2.2.2.1
abbrev cx_A (X : Cx) : Nat → ClassId := X.2.2.2.2.2.2.1
abbrev cx_S (X : Cx) : Nat → Nat := X.2.2.2.2.2.2.2.1
abbrev cx_L (X : Cx) : Nat := X.2.2.2.2.2.2.2.2.1
abbrev cx_x (X : Cx) : Nat → Int32 := X.2.2.2.2.2.2.2.2.2
abbrev iR (z : Int) : Prop := -2147483648 ≤ z ∧ z ≤ 2147483647
abbrev lR (z : Int) : Prop := -9223372036854775808 ≤ z ∧ z ≤ 9223372036854775807
def k_wfV : PV → Prop
  | .inl z => iR z
  | .inr (.inl z) => lR z
  | .inr (.inr _) => True
def k_rg (kd : Nat) (z : Int) : Prop := match kd with
  | 1 => -128 ≤ z ∧ z ≤ 127
  | 2 => z = 0 ∨ z = 1
  | 3 => lR z
  | _ => iR z
def k_wfC : PC → Prop
  | .inl a => a.2.1 < 2147483648 ∧ ∀ j : Nat, j < a.2.1 → k_rg a.1 (a.2.2 j)
  | .inr o => ∀ v ∈ o.2, k_wfV v
def k_ad (X : Cx) : Nat → Nat
  | 0 => cx_b X
  | a + 1 => cx_z X + a
def k_v (X : Cx) : PV → Value
  | .inl z => .int (Int32.ofInt z)
  | .inr (.inl z) => .long (Int64.ofInt z)
  | .inr (.inr none) => .null
  | .inr (.inr (some a)) => .ref (k_ad X a)
def k_cl : List vw_C := [(RX0, TX0, 4), (RX1, TX1, 14), (RX2, TX2, 6), (RX3, TX3, 5), (RX4, TX4, 8), (RX5, TX5, 5), (RX6, TX6, 4), (RX7, TX7, 3), (RX8, TX8, 3), (RX9, TX9, 9), (RX10, TX10, 2), (RX11, TX11, 13), (RX12, TX12, 56)]
def k_R : Nat → String
  | 0 => RX0 | 1 => RX1 | 2 => RX2 | 3 => RX3 | 4 => RX4 | 5 => RX5 | 6 => RX6 | 7 => RX7 | 8 => RX8 | 9 => RX9 | 10 => RX10 | 11 => RX11 | 12 => RX12 | 13 => RL | _ => RJ7
/-- the element's type by the array's kind -/
def k_et : Nat → FieldType
  | 1 => .byte
  | 2 => .boolean
  | 3 => .long
  | _ => .int
def k_ev (kd : Nat) (z : Int) : Value := match kd with
  | 3 => .long (Int64.ofInt z)
  | _ => .int (Int32.ofInt z)
def k_at (X : Cx) (a : Nat) (c : PC) (H : Heap) : Prop := match c with
  | .inl (4, n, f) => a = 0 ∧ n = cx_L X ∧ f = fun j => (cx_x X j).toInt
  | .inl (kd, n, f) => 0 < a ∧ kd < 4 ∧ H[k_ad X a]? = some (arrV (cx_A X kd) n (fun j => k_ev kd (f j)))
  | .inr (ci, fs) => 0 < a ∧ ∃ r : vw_C, k_cl[ci]? = some r ∧ fs.length = r.2.2 ∧ t_OB (k_ad X a) (cx_C X ci) r.2.2 (cx_I X ci) H (vp_V (fs.map (k_v X)))
/-- the JVM's heap H holds the pure heap h; x: nothing else was made -/
def k_Rp (X : Cx) (x : Bool) (h : PH) (H : Heap) : Prop :=
  (∀ q : Nat, q < cx_z X → H[q]? = (cx_H X)[q]?) ∧ 0 < h.1 ∧ cx_z X + h.1 ≤ H.size + 1 ∧ (x = true → H.size + 1 = cx_z X + h.1) ∧
  ∀ (a : Nat) (c : PC), h.2 a = some c → a < h.1 ∧ k_wfC c ∧ k_at X a c H
abbrev k_tys (X : Cx) : List (ClassId × FieldType) := [(cx_A X 0, .int), (cx_A X 1, .byte), (cx_A X 2, .boolean), (cx_A X 3, .long)]
def k_strs : List (Nat × String × Nat) := [(109, "the two are the same", 0), (114, "the cost is not 1 to 100", 1), (124, "no such sound", 2), (199, "no such point", 3), (219, "neither the lower nor the other one", 4), (234, "nothing of this kind was heard", 5), (242, "there are 8 slots", 6), (254, "the slot has 4 words", 7), (271, "neither a sound nor nothing", 8), (273, "the tape has not so many bytes", 9), (277, "no such command", 10), (280, "no such slot", 11)]
def k_nest : List (Nat × Nat × MethodName) := [(11, 36, yX10_init), (11, 73, yX5_init), (11, 80, yX2_init), (11, 87, yX9_init), (11, 94, yX1_init), (6, 52, yX11_isLetter), (7, 27, yX11_codeOf), (7, 75, yX11_longer), (10, 19, yX11_isLetter)]
def k_E : Nat → String
  | 0 => "java/lang/IllegalArgumentException"
  | 1 => "java/lang/IllegalStateException"
  | _ => "java/lang/IndexOutOfBoundsException"
def k_ncs : List (Nat × Nat) := [(0, 1), (0, 2), (1, 0), (1, 2), (2, 0), (2, 1)]
/-- the tables' words that every call keeps -/
def k_tb : List Cond := lw_tbl.filter goodWord
theorem k_in {w : Cond} (i : Nat) (h : lw_tbl[i]? = some w) (hg : goodWord w = true) : w ∈ k_tb := List.mem_filter.mpr ⟨List.mem_of_getElem? h, hg⟩
theorem k_goodin {ws : List Cond} (h : ∀ w ∈ ws, w ∈ k_tb) : GoodIn k_tb ws := fun w hw => ⟨h w hw, good_of_word (List.mem_filter.mp (h w hw)).2⟩
/-- words that move by laws of their own -/
def k_isdc : Cond → Bool
  | .declares _ => true
  | .castable _ _ => true
  | _ => false
def k_dcw : List Cond := lw_tbl.filter k_isdc
/-- what the tables and the heap ahead of the law say, the same for every method -/
def k_Kn (X : Cx) (U : State) : Prop :=
  va_K (cx_C X, cx_I X) k_cl (k_tys X) U ∧ (cx_l X).stackTraces = false ∧
  vx_Zq Bundle.tN "UNASSIGNED_STACK" Bundle.steD (fun q => cx_z X ≤ q) U (cx_H X) ∧ vx_Zq Bundle.tN "SUPPRESSED_SENTINEL" Bundle.listD (fun q => cx_z X ≤ q) U (cx_H X) ∧
  (∀ q ∈ k_strs, vk_R RX11 q.1 q.2.1 (cx_S X q.2.2) U) ∧ (∀ q ∈ k_nest, va_Nw (.methodLinkNest (k_R q.1) q.2.1 q.2.2 RX11) U) ∧
  va_X (cx_b X) (cx_L X) (cx_x X) U (cx_H X) ∧ cx_b X < cx_z X ∧ cx_z X = (cx_H X).size ∧ cx_L X ≤ 3072 ∧
  (∀ q ∈ k_ncs, va_Nc (k_E q.1) (k_E q.2) U) ∧ (∀ w ∈ k_dcw, va_Nw w U)
theorem k_Kn.warm {X : Cx} {s U : State} (hW : s.WarmedH U.vm) (h : k_Kn X s) : k_Kn X U := by
  obtain ⟨h1, h2, h3, h4, h5, h6, h7, h8, h9, h10, h11, h12⟩ := h
  exact ⟨va_K.moved hW.alike h1, h2, vx_Zq.moved hW.alike h3, vx_Zq.moved hW.alike h4, fun q hq => vk_R.warm hW (h5 q hq), fun q hq => va_Nw.warmM hW (h6 q hq), va_X.moved hW.alike h7, h8, h9, h10, fun q hq => va_Nc.moved hW.alike (h11 q hq), fun w hw => by
    have h13 := h12 w hw
    have h14 := (List.mem_filter.mp hw).2
    cases w <;> first | exact va_Nw.warmD hW h13 | exact va_Nw.warmC hW h13 | (simp [k_isdc] at h14)⟩
/-! locals -/
def k_get : List (Option PV) → Nat → Option PV
  | [], _ => none
  | a :: _, 0 => a
  | _ :: t, j + 1 => k_get t j
def k_unl : Option PV → Option PV
  | some (.inr (.inl _)) => none
  | a => a
def k_put : List (Option PV) → Nat → PV → List (Option PV)
  | [], _, _ => []
  | _ :: t, 0, v => some v :: t
  | a :: t, j + 1, v => (if j = 0 then k_unl a else a) :: k_put t j v
def k_clr : List (Option PV) → Nat → List (Option PV)
  | [], _ => []
  | _ :: t, 0 => none :: t
  | a :: t, j + 1 => a :: k_clr t j
def k_lv (X : Cx) : Nat → List (Option PV) → List (Nat × Value)
  | _, [] => []
  | i, none :: t => k_lv X (i + 1) t
  | i, some v :: t => (i, k_v X v) :: k_lv X (i + 1) t
theorem k_lv_mem {X : Cx} : ∀ (ls : List (Option PV)) (i : Nat) (q : Nat × Value), q ∈ k_lv X i ls ↔ ∃ j v, k_get ls j = some v ∧ q = (i + j, k_v X v)
  | [], i, q => by simp [k_lv, k_get]
  | none :: t, i, q => by
    rw [k_lv, k_lv_mem t (i + 1) q]
    constructor
    · rintro ⟨j, v, h1, h2⟩
      exact ⟨j + 1, v, h1, by rw [h2]; congr 1; omega⟩
    · rintro ⟨j, v, h1, h2⟩
      cases j with
      | zero => simp [k_get] at h1
      | succ j => exact ⟨j, v, h1, by rw [h2]; congr 1; omega⟩
  | some w :: t, i, q => by
    rw [k_lv, List.mem_cons, k_lv_mem t (i + 1) q]
    constructor
    · rintro (h | ⟨j, v, h1, h2⟩)
      · exact ⟨0, w, rfl, h⟩
      · exact ⟨j + 1, v, h1, by rw [h2]; congr 1; omega⟩
    · rintro ⟨j, v, h1, h2⟩
      cases j with
      | zero => left; simp [k_get] at h1; subst h1; exact h2
      | succ j => right; exact ⟨j, v, h1, by rw [h2]; congr 1; omega⟩
theorem k_get_mem : ∀ (ls : List (Option PV)) (j : Nat) (v : PV), k_get ls j = some v → some v ∈ ls
  | [], _, _, h => by simp [k_get] at h
  | a :: t, 0, v, h => by simp [k_get] at h; simp [h]
  | a :: t, j + 1, v, h => List.mem_cons_of_mem _ (k_get_mem t j v h)
theorem k_get_put : ∀ (ls : List (Option PV)) (j : Nat) (v : PV) (i : Nat) (w : PV), k_get (k_put ls j v) i = some w → (i = j ∧ w = v) ∨ (i ≠ j ∧ k_get ls i = some w ∧ ¬ (i + 1 = j ∧ ∃ z, w = vL z))
  | [], j, v, i, w, h => by simp [k_put, k_get] at h
  | a :: t, 0, v, 0, w, h => by simp [k_put, k_get] at h; exact Or.inl ⟨rfl, h.symm⟩
  | a :: t, 0, v, i + 1, w, h => Or.inr ⟨by omega, h, by omega⟩
  | a :: t, j + 1, v, 0, w, h => by
    right
    refine ⟨by omega, ?_, ?_⟩
    · by_cases hj : j = 0
      · subst hj
        simp [k_put, k_get] at h ⊢
        unfold k_unl at h
        split at h
        · cases h
        · exact h
      · simpa [k_put, k_get, hj] using h
    · rintro ⟨h1, z, rfl⟩
      have hj : j = 0 := by omega
      subst hj
      simp [k_put, k_get] at h
      unfold k_unl at h
      split at h
      · cases h
      · rename_i h2
        exact h2 z h
  | a :: t, j + 1, v, i + 1, w, h => by
    rcases k_get_put t j v i w h with ⟨h1, h2⟩ | ⟨h1, h2, h3⟩
    · exact Or.inl ⟨by omega, h2⟩
    · exact Or.inr ⟨by omega, h2, fun q => h3 ⟨by omega, q.2⟩⟩
theorem k_get_clr : ∀ (ls : List (Option PV)) (j i : Nat) (w : PV), k_get (k_clr ls j) i = some w → i ≠ j ∧ k_get ls i = some w
  | [], j, i, w, h => by simp [k_clr, k_get] at h
  | a :: t, 0, 0, w, h => by simp [k_clr, k_get] at h
  | a :: t, 0, i + 1, w, h => ⟨by omega, h⟩
  | a :: t, j + 1, 0, w, h => ⟨by omega, h⟩
  | a :: t, j + 1, i + 1, w, h => by
    obtain ⟨h1, h2⟩ := k_get_clr t j i w h
    exact ⟨by omega, h2⟩
theorem k_mem_get : ∀ (ls : List (Option PV)) (v : PV), some v ∈ ls → ∃ j, k_get ls j = some v
  | a :: t, v, h => by
    rcases List.mem_cons.mp h with h | h
    · exact ⟨0, h.symm⟩
    · obtain ⟨j, hj⟩ := k_mem_get t v h
      exact ⟨j + 1, hj⟩
theorem k_v_cat (X : Cx) (v : PV) : (k_v X v).category = 2 ↔ ∃ z, v = vL z := by
  rcases v with z | z | z | z <;> simp [k_v, Value.category]
/-- fewer locals are known -/
def k_le (a b : List (Option PV)) : Prop := ∀ j v, k_get a j = some v → k_get b j = some v
theorem k_lv_le {X : Cx} {lj : Array Slot} {nL : Nat} {a b : List (Option PV)} (h : lv_has lj nL (k_lv X 0 b)) (hab : k_le a b) : lv_has lj nL (k_lv X 0 a) := by
  refine ⟨h.1, h.2.1, fun q hq => ?_⟩
  obtain ⟨j, v, h1, h2⟩ := (k_lv_mem a 0 q).mp hq
  exact h.2.2 q ((k_lv_mem b 0 q).mpr ⟨j, v, hab j v h1, h2⟩)
theorem k_lv_put1 {X : Cx} {lj : Array Slot} {nL j : Nat} {ls : List (Option PV)} {v : PV} (h : lv_has lj nL ((j, k_v X v) :: (k_lv X 0 ls).filter (fun q => !(q.1 == j) && !(q.1 + 1 == j && q.2.category == 2)))) : lv_has lj nL (k_lv X 0 (k_put ls j v)) := by
  refine ⟨h.1, h.2.1, fun q hq => h.2.2 q ?_⟩
  obtain ⟨i, w, h1, rfl⟩ := (k_lv_mem _ 0 q).mp hq
  rcases k_get_put ls j v i w h1 with ⟨rfl, rfl⟩ | ⟨h2, h3, h4⟩
  · simp
  · refine List.mem_cons_of_mem _ (List.mem_filter.mpr ⟨(k_lv_mem ls 0 _).mpr ⟨i, w, h3, rfl⟩, ?_⟩)
    simp only [Nat.zero_add, Bool.and_eq_true, Bool.not_eq_true', beq_eq_false_iff_ne, Bool.and_eq_false_iff]
    refine ⟨h2, ?_⟩
    by_cases h5 : i + 1 = j
    · right
      intro h6
      exact h4 ⟨h5, (k_v_cat X w).mp h6⟩
    · left; exact h5
theorem k_lv_put2 {X : Cx} {lj : Array Slot} {nL j : Nat} {ls : List (Option PV)} {v : PV} (h : lv_has lj nL ((j, k_v X v) :: (k_lv X 0 ls).filter (fun q => !(q.1 == j) && (!(q.1 == j + 1) && !(q.1 + 1 == j && q.2.category == 2))))) : lv_has lj nL (k_lv X 0 (k_clr (k_put ls j v) (j + 1))) := by
  refine ⟨h.1, h.2.1, fun q hq => h.2.2 q ?_⟩
  obtain ⟨i, w, h1, rfl⟩ := (k_lv_mem _ 0 q).mp hq
  obtain ⟨h0, h1⟩ := k_get_clr _ _ _ _ h1
  rcases k_get_put ls j v i w h1 with ⟨rfl, rfl⟩ | ⟨h2, h3, h4⟩
  · simp
  · refine List.mem_cons_of_mem _ (List.mem_filter.mpr ⟨(k_lv_mem ls 0 _).mpr ⟨i, w, h3, rfl⟩, ?_⟩)
    simp only [Nat.zero_add, Bool.and_eq_true, Bool.not_eq_true', beq_eq_false_iff_ne, Bool.and_eq_false_iff]
    refine ⟨h2, h0, ?_⟩
    by_cases h5 : i + 1 = j
    · right
      intro h6
      exact h4 ⟨h5, (k_v_cat X w).mp h6⟩
    · left; exact h5
