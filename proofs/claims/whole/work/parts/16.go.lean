/-! many instructions at once: what is to be shown so that the machine comes through -/
def k_nth : List PV → Nat → Option PV
  | [], _ => none
  | a :: _, 0 => some a
  | _ :: t, j + 1 => k_nth t j
theorem k_nth_eq : ∀ (l : List PV) (j : Nat), k_nth l j = l[j]?
  | [], j => by simp [k_nth]
  | a :: t, 0 => by simp [k_nth]
  | a :: t, j + 1 => by simp [k_nth, k_nth_eq t j]
def k_sf : List PV → Nat → PV → List PV
  | [], _, _ => []
  | _ :: t, 0, v => v :: t
  | a :: t, j + 1, v => a :: k_sf t j v
theorem k_sf_eq : ∀ (l : List PV) (j : Nat) (v : PV), k_sf l j v = l.set j v
  | [], j, v => by simp [k_sf]
  | a :: t, 0, v => by simp [k_sf]
  | a :: t, j + 1, v => by simp [k_sf, k_sf_eq t j v]
/-- a branch -/
def k_br (c A B : Prop) : Prop := (c → A) ∧ (¬ c → B)
theorem k_brI {c A B : Prop} (f : c → A) (g : ¬ c → B) : k_br c A B := ⟨f, g⟩
theorem k_brT {c A B : Prop} (hc : c) (f : A) : k_br c A B := ⟨fun _ => f, fun h => absurd hc h⟩
theorem k_brF {c A B : Prop} (hc : ¬ c) (f : B) : k_br c A B := ⟨fun h => absurd h hc, fun _ => f⟩
theorem kb_t {A B : Prop} : k_br True A B = A := propext ⟨fun h => h.1 trivial, fun h => ⟨fun _ => h, fun q => absurd trivial q⟩⟩
theorem kb_f {A B : Prop} : k_br False A B = B := propext ⟨fun h => h.2 not_false, fun h => ⟨fun q => q.elim, fun _ => h⟩⟩
theorem kb_n {c A B : Prop} : k_br (¬ c) A B = k_br c B A := propext ⟨fun h => ⟨fun q => h.2 (fun z => z q), fun q => h.1 q⟩, fun h => ⟨fun q => h.2 q, fun q => h.1 (Classical.byContradiction q)⟩⟩
theorem sw_0 {z lo : Int} {kt : Nat → Prop} {dt : Nat} : k_sw z kt dt lo [] = kt dt := Eq.trans rfl rfl
theorem sw_s {z lo : Int} {kt : Nat → Prop} {dt t : Nat} {ts : List Nat} : k_sw z kt dt lo (t :: ts) = k_br (z = lo) (kt t) (k_sw z kt dt (lo + 1) ts) := Eq.trans rfl rfl
def k_cut (pc : Nat) (a b : Prop) : List Nat → Prop
  | [] => b
  | c :: cs => if pc = c then a else k_cut pc a b cs
theorem k_cut_ok {pc : Nat} {a b : Prop} : ∀ (cs : List Nat), k_cut pc a b cs → a ∨ b
  | [], h => Or.inr h
  | c :: cs, h => by
    unfold k_cut at h
    split at h
    · exact Or.inl h
    · exact k_cut_ok cs h
def k_stp (x : Bool) (d K N : Nat) (m : PM) (P : PO → PH → Prop) (kk : Nat → List (Option PV) → List PV → PH → Prop) (i : PI) (nx k n pc : Nat) (ls : List (Option PV)) (st : List PV) (h : PH) : Prop :=
  match i with
  | (0, z, _, _, _) => kk nx ls (vI z :: st) h
  | (1, _, j, _, _) => match k_get ls j with | some (.inl z) => kk nx ls (vI z :: st) h | _ => False
  | (2, _, j, _, _) => match k_get ls j with | some (.inr (.inl z)) => kk nx ls (vL z :: st) h | _ => False
  | (3, _, j, _, _) => match k_get ls j with | some (.inr (.inr (some a))) => kk nx ls (vR a :: st) h | _ => False
  | (4, _, j, _, _) => match st with | .inl z :: st' => kk nx (k_put ls j (vI z)) st' h | _ => False
  | (5, _, j, _, _) => match st with | .inr (.inl z) :: st' => kk nx (k_clr (k_put ls j (vL z)) (j + 1)) st' h | _ => False
  | (6, _, j, _, _) => match st with | .inr (.inr (some a)) :: st' => kk nx (k_put ls j (vR a)) st' h | _ => False
  | (7, z, j, _, _) => match k_get ls j with | some (.inl y) => iR (y + z) ∧ kk nx (k_put ls j (vI (y + z))) st h | _ => False
  | (8, _, _, _, _) => match st with | .inl v :: .inl u :: st' => iR (u + v) ∧ kk nx ls (vI (u + v) :: st') h | _ => False
  | (9, _, _, _, _) => match st with | .inl v :: .inl u :: st' => iR (u - v) ∧ kk nx ls (vI (u - v) :: st') h | _ => False
  | (10, _, _, _, _) => match st with | .inl v :: .inl u :: st' => iR (u * v) ∧ kk nx ls (vI (u * v) :: st') h | _ => False
  | (11, _, _, _, _) => match st with | .inl v :: .inl u :: st' => (0 ≤ u ∧ 0 < v) ∧ kk nx ls (vI (u / v) :: st') h | _ => False
  | (12, _, _, _, _) => match st with | .inl v :: .inl u :: st' => (0 ≤ u ∧ 0 < v) ∧ kk nx ls (vI (u % v) :: st') h | _ => False
  | (13, _, _, _, _) => match st with | .inl v :: .inl u :: st' => (v = 255 ∨ v = 31) ∧ kk nx ls (vI (u % (v + 1)) :: st') h | _ => False
  | (14, _, _, _, _) => match st with | .inl v :: .inl u :: st' => (0 ≤ v ∧ v < 32) ∧ kk nx ls (vI (u / 2 ^ v.toNat) :: st') h | _ => False
  | (15, _, _, _, _) => match st with | .inl v :: .inl u :: st' => (0 ≤ v ∧ v < 32) ∧ kk nx ls (vI (k_ushr u v.toNat) :: st') h | _ => False
  | (16, _, _, _, _) => match st with | .inl u :: st' => kk nx ls (vI (k_i2b u) :: st') h | _ => False
  | (17, _, _, _, _) => match st with | .inl u :: st' => kk nx ls (vL u :: st') h | _ => False
  | (18, _, _, _, _) => match st with | .inl v :: .inr (.inl u) :: st' => (v = 5 ∧ lR (u * 32)) ∧ kk nx ls (vL (u * 32) :: st') h | _ => False
  | (19, _, _, _, _) => match st with | .inr (.inl v) :: .inr (.inl u) :: st' => lR (u + v) ∧ kk nx ls (vL (u + v) :: st') h | _ => False
  | (20, _, _, _, _) => match st with | .inr (.inl v) :: .inr (.inl u) :: st' => kk nx ls (vI (k_lcmp u v) :: st') h | _ => False
  | (21, z, _, _, _) => kk nx ls (vL z :: st) h
  | (22, _, ci, kf, _) => match st with | .inr (.inr (some a)) :: st' => (match h.2 a with | some (.inr (c', fs)) => c' = ci ∧ (match k_nth fs kf with | some v => kk nx ls (v :: st') h | none => False) | _ => False) | _ => False
  | (23, _, ci, kf, t) => match st with | v :: .inr (.inr (some a)) :: st' => k_fit t v ∧ (match h.2 a with | some (.inr (c', fs)) => c' = ci ∧ kk nx ls st' (hS h a (.inr (c', k_sf fs kf v))) | _ => False) | _ => False
  | (24, _, _, _, _) => match st with | .inl i :: .inr (.inr (some a)) :: st' => (match h.2 a with | some (.inl (kd, nn, f)) => (kd = 0 ∨ kd = 4) ∧ (0 ≤ i ∧ i < (nn : Int)) ∧ kk nx ls (vI (f i.toNat) :: st') h | _ => False) | _ => False
  | (25, _, _, _, _) => match st with | .inl v :: .inl i :: .inr (.inr (some a)) :: st' => (match h.2 a with | some (.inl (kd, nn, f)) => kd = 0 ∧ (0 ≤ i ∧ i < (nn : Int)) ∧ kk nx ls st' (hS h a (.inl (kd, nn, fS f i.toNat v))) | _ => False) | _ => False
  | (26, _, _, _, _) => match st with | .inl i :: .inr (.inr (some a)) :: st' => (match h.2 a with | some (.inl (kd, nn, f)) => (kd = 1 ∨ kd = 2) ∧ (0 ≤ i ∧ i < (nn : Int)) ∧ kk nx ls (vI (f i.toNat) :: st') h | _ => False) | _ => False
  | (27, _, _, _, _) => match st with | .inl v :: .inl i :: .inr (.inr (some a)) :: st' => (match h.2 a with | some (.inl (kd, nn, f)) => ((kd = 1 ∧ -128 ≤ v ∧ v ≤ 127) ∨ (kd = 2 ∧ (v = 0 ∨ v = 1))) ∧ (0 ≤ i ∧ i < (nn : Int)) ∧ kk nx ls st' (hS h a (.inl (kd, nn, fS f i.toNat v))) | _ => False) | _ => False
  | (28, _, _, _, _) => match st with | .inl i :: .inr (.inr (some a)) :: st' => (match h.2 a with | some (.inl (kd, nn, f)) => kd = 3 ∧ (0 ≤ i ∧ i < (nn : Int)) ∧ kk nx ls (vL (f i.toNat) :: st') h | _ => False) | _ => False
  | (29, _, _, _, _) => match st with | .inr (.inl v) :: .inl i :: .inr (.inr (some a)) :: st' => (match h.2 a with | some (.inl (kd, nn, f)) => kd = 3 ∧ (0 ≤ i ∧ i < (nn : Int)) ∧ kk nx ls st' (hS h a (.inl (kd, nn, fS f i.toNat v))) | _ => False) | _ => False
  | (30, _, _, _, _) => match st with | .inr (.inr (some a)) :: st' => (match h.2 a with | some (.inl (_, nn, _)) => kk nx ls (vI (nn : Int) :: st') h | _ => False) | _ => False
  | (31, _, c, t, _) => match st with | .inl v :: .inl u :: st' => k_br (k_cnd c u v) (kk t ls st' h) (kk nx ls st' h) | _ => False
  | (32, _, c, t, _) => match st with | .inl u :: st' => k_br (k_cnd c u 0) (kk t ls st' h) (kk nx ls st' h) | _ => False
  | (33, _, _, t, _) => kk t ls st h
  | (34, _, _, _, _) => match st with | .inl z :: st' => kk nx ls (vI z :: vI z :: st') h | .inr (.inr (some a)) :: st' => kk nx ls (vR a :: vR a :: st') h | _ => False
  | (35, _, _, _, _) => match st with | .inl z :: .inr (.inr (some a)) :: st' => kk nx ls (vI z :: vR a :: vI z :: vR a :: st') h | _ => False
  | (36, _, _, _, _) => match st with | [.inl v] => (pm_r m = some .int ∨ (pm_r m = some .boolean ∧ (v = 0 ∨ v = 1))) ∧ (k ≤ K ∧ n ≤ N) ∧ P (.inl (some (vI v))) h | _ => False
  | (37, _, _, _, _) => match st with | [.inr (.inl v)] => pm_r m = some .long ∧ (k ≤ K ∧ n ≤ N) ∧ P (.inl (some (vL v))) h | _ => False
  | (38, _, _, _, _) => match st with | [.inr (.inr (some a))] => k_isref (pm_r m) = true ∧ (k ≤ K ∧ n ≤ N) ∧ P (.inl (some (vR a))) h | _ => False
  | (39, _, _, _, _) => match st with | [] => pm_r m = none ∧ (k ≤ K ∧ n ≤ N) ∧ P (.inl none) h | _ => False
  | (42, lo, dt, _, ts) => match st with | .inl z :: st' => k_sw z (fun t => kk t ls st' h) dt lo ts | _ => False
  | (44, _, _, _, _) => match st with | .inl v :: .inl u :: st' => (1 ≤ d ∧ k_cs st' ≤ 40 ∧ k ≤ K ∧ n ≤ N) ∧ kk nx ls (vI (if v < u then v else u) :: st') h | _ => False
  | (45, _, _, _, _) => match st with | .inl v :: .inl u :: st' => (1 ≤ d ∧ k_cs st' ≤ 40 ∧ k ≤ K ∧ n ≤ N) ∧ kk nx ls (vI (if u < v then v else u) :: st') h | _ => False
  | (47, _, _, _, _) => match st with | .inr (.inr (some _)) :: st' => (1 ≤ d ∧ k_cs st' ≤ 40) ∧ kk nx ls st' h | _ => False
  | _ => k_Wp x d K N m P k n pc ls st h
theorem k_swm {z : Int} {f g : Nat → Prop} (hfg : ∀ t, f t → g t) (dt : Nat) : ∀ (ts : List Nat) (lo : Int), k_sw z f dt lo ts → k_sw z g dt lo ts
  | [], _, h => hfg _ h
  | _ :: ts, lo, h => ⟨fun e => hfg _ (h.1 e), fun e => k_swm hfg dt ts (lo + 1) (h.2 e)⟩
theorem k_stp_ok {x : Bool} {d K N : Nat} {m : PM} {P : PO → PH → Prop} {kk : Nat → List (Option PV) → List PV → PH → Prop} {i : PI} {nx k n pc : Nat} {ls : List (Option PV)} {st : List PV} {h : PH}
    (hk : ∀ pc ls st h, kk pc ls st h → k_Wp x d K N m P k n pc ls st h) (hc : k_lk (pm_c m) pc = some (i, nx)) (hs : k_stp x d K N m P kk i nx k n pc ls st h) : k_Wp x d K N m P k n pc ls st h := by
  unfold k_stp at hs
  split at hs
  · exact p_push hc (hk _ _ _ _ hs)
  · split at hs
    · rename_i hj; exact p_iload hc hj (hk _ _ _ _ hs)
    · exact hs.elim
  · split at hs
    · rename_i hj; exact p_lload hc hj (hk _ _ _ _ hs)
    · exact hs.elim
  · split at hs
    · rename_i hj; exact p_aload hc hj (hk _ _ _ _ hs)
    · exact hs.elim
  · split at hs
    · exact p_istore hc (hk _ _ _ _ hs)
    · exact hs.elim
  · split at hs
    · exact p_lstore hc (hk _ _ _ _ hs)
    · exact hs.elim
  · split at hs
    · exact p_astore hc (hk _ _ _ _ hs)
    · exact hs.elim
  · split at hs
    · rename_i hj; exact p_iinc hc hj hs.1 (hk _ _ _ _ hs.2)
    · exact hs.elim
  · split at hs
    · exact p_iadd hc hs.1 (hk _ _ _ _ hs.2)
    · exact hs.elim
  · split at hs
    · exact p_isub hc hs.1 (hk _ _ _ _ hs.2)
    · exact hs.elim
  · split at hs
    · exact p_imul hc hs.1 (hk _ _ _ _ hs.2)
    · exact hs.elim
  · split at hs
    · exact p_idiv hc hs.1.1 hs.1.2 (hk _ _ _ _ hs.2)
    · exact hs.elim
  · split at hs
    · exact p_irem hc hs.1.1 hs.1.2 (hk _ _ _ _ hs.2)
    · exact hs.elim
  · split at hs
    · exact p_iand hc hs.1 (hk _ _ _ _ hs.2)
    · exact hs.elim
  · split at hs
    · exact p_ishr hc hs.1.1 hs.1.2 (hk _ _ _ _ hs.2)
    · exact hs.elim
  · split at hs
    · exact p_iushr hc hs.1.1 hs.1.2 (hk _ _ _ _ hs.2)
    · exact hs.elim
  · split at hs
    · exact p_i2b hc (hk _ _ _ _ hs)
    · exact hs.elim
  · split at hs
    · exact p_i2l hc (hk _ _ _ _ hs)
    · exact hs.elim
  · split at hs
    · exact p_lshl hc hs.1.1 hs.1.2 (hk _ _ _ _ hs.2)
    · exact hs.elim
  · split at hs
    · exact p_ladd hc hs.1 (hk _ _ _ _ hs.2)
    · exact hs.elim
  · split at hs
    · exact p_lcmp hc (hk _ _ _ _ hs)
    · exact hs.elim
  · exact p_lconst hc (hk _ _ _ _ hs)
  · split at hs
    · split at hs
      · rename_i h1
        obtain ⟨rfl, hs⟩ := hs
        split at hs
        · rename_i h2
          exact p_get hc h1 (by rw [← k_nth_eq]; exact h2) (hk _ _ _ _ hs)
        · exact hs.elim
      · exact hs.elim
    · exact hs.elim
  · split at hs
    · obtain ⟨h0, hs⟩ := hs
      split at hs
      · rename_i h1
        obtain ⟨rfl, hs⟩ := hs
        rw [k_sf_eq] at hs
        exact p_put hc h1 h0 (hk _ _ _ _ hs)
      · exact hs.elim
    · exact hs.elim
  · split at hs
    · split at hs
      · rename_i h1; obtain ⟨h2, h3, h4⟩ := hs; exact p_iald hc h1 h2 h3.1 h3.2 (hk _ _ _ _ h4)
      · exact hs.elim
    · exact hs.elim
  · split at hs
    · split at hs
      · rename_i h1; obtain ⟨rfl, h3, h4⟩ := hs; exact p_iast hc h1 h3.1 h3.2 (hk _ _ _ _ h4)
      · exact hs.elim
    · exact hs.elim
  · split at hs
    · split at hs
      · rename_i h1; obtain ⟨h2, h3, h4⟩ := hs; exact p_bald hc h1 h2 h3.1 h3.2 (hk _ _ _ _ h4)
      · exact hs.elim
    · exact hs.elim
  · split at hs
    · split at hs
      · rename_i h1; obtain ⟨h2, h3, h4⟩ := hs; exact p_bast hc h1 h2 h3.1 h3.2 (hk _ _ _ _ h4)
      · exact hs.elim
    · exact hs.elim
  · split at hs
    · split at hs
      · rename_i h1; obtain ⟨rfl, h3, h4⟩ := hs; exact p_lald hc h1 h3.1 h3.2 (hk _ _ _ _ h4)
      · exact hs.elim
    · exact hs.elim
  · split at hs
    · split at hs
      · rename_i h1; obtain ⟨rfl, h3, h4⟩ := hs; exact p_last hc h1 h3.1 h3.2 (hk _ _ _ _ h4)
      · exact hs.elim
    · exact hs.elim
  · split at hs
    · split at hs
      · rename_i h1; exact p_alen hc h1 (hk _ _ _ _ hs)
      · exact hs.elim
    · exact hs.elim
  · split at hs
    · exact p_icmp hc (fun q => hk _ _ _ _ (And.left hs q)) (fun q => hk _ _ _ _ (And.right hs q))
    · exact hs.elim
  · split at hs
    · exact p_if hc (fun q => hk _ _ _ _ (And.left hs q)) (fun q => hk _ _ _ _ (And.right hs q))
    · exact hs.elim
  · exact p_goto hc (hk _ _ _ _ hs)
  · split at hs
    · exact p_dup hc (fun z h9 => by cases h9) (hk _ _ _ _ hs)
    · exact p_dup hc (fun z h9 => by cases h9) (hk _ _ _ _ hs)
    · exact hs.elim
  · split at hs
    · exact p_dup2 hc (fun z h9 => by cases h9) (fun z h9 => by cases h9) (hk _ _ _ _ hs)
    · exact hs.elim
  · split at hs
    · exact p_iret hc hs.1 hs.2.1.1 hs.2.1.2 hs.2.2
    · exact hs.elim
  · split at hs
    · exact p_lret hc hs.1 hs.2.1.1 hs.2.1.2 hs.2.2
    · exact hs.elim
  · split at hs
    · exact p_aret hc hs.1 hs.2.1.1 hs.2.1.2 hs.2.2
    · exact hs.elim
  · split at hs
    · exact p_vret hc hs.1 hs.2.1.1 hs.2.1.2 hs.2.2
    · exact hs.elim
  · split at hs
    · exact p_tsw hc (k_swm (fun t ht => hk _ _ _ _ ht) _ _ _ hs)
    · exact hs.elim
  · split at hs
    · exact p_min hc hs.1.1 hs.1.2.1 hs.1.2.2.1 hs.1.2.2.2 (hk _ _ _ _ hs.2)
    · exact hs.elim
  · split at hs
    · exact p_max hc hs.1.1 hs.1.2.1 hs.1.2.2.1 hs.1.2.2.2 (hk _ _ _ _ hs.2)
    · exact hs.elim
  · split at hs
    · exact p_oinit hc hs.1.1 hs.1.2 (hk _ _ _ _ hs.2)
    · exact hs.elim
  · exact hs
/-- so many instructions, up to a cut, a call, a making, a throw or the end -/
def k_go (x : Bool) (d K N : Nat) (m : PM) (P : PO → PH → Prop) (cut : List Nat) (k n : Nat) : Nat → Nat → List (Option PV) → List PV → PH → Prop
  | 0, pc, ls, st, h => k_Wp x d K N m P k n pc ls st h
  | f + 1, pc, ls, st, h => match k_lk (pm_c m) pc with
    | none => False
    | some (i, nx) => k_stp x d K N m P (fun pc ls st h => k_cut pc (k_Wp x d K N m P k n pc ls st h) (k_go x d K N m P cut k n f pc ls st h) cut) i nx k n pc ls st h
theorem k_go_ok {x : Bool} {d K N : Nat} {m : PM} {P : PO → PH → Prop} {k n : Nat} (cut : List Nat) : ∀ (f pc : Nat) (ls : List (Option PV)) (st : List PV) (h : PH), k_go x d K N m P cut k n f pc ls st h → k_Wp x d K N m P k n pc ls st h
  | 0, pc, ls, st, h, hg => hg
  | f + 1, pc, ls, st, h, hg => by
    unfold k_go at hg
    split at hg
    · exact hg.elim
    · rename_i i nx hc
      refine k_stp_ok (fun pc ls st h h9 => ?_) hc hg
      rcases k_cut_ok cut h9 with h9 | h9
      · exact h9
      · exact k_go_ok cut f pc ls st h h9
theorem p_go {x : Bool} {d K N : Nat} {m : PM} {P : PO → PH → Prop} {k n pc : Nat} {ls : List (Option PV)} {st : List PV} {h : PH} (cut : List Nat) (f : Nat) (hg : k_go x d K N m P cut k n f pc ls st h) : k_Wp x d K N m P k n pc ls st h := k_go_ok cut f pc ls st h hg
