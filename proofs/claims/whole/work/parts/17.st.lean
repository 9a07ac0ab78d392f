/-! the steps one by one, for simp -/
section Rows17
variable {x : Bool} {d K N : Nat} {m : PM} {P : PO → PH → Prop} {kk : Nat → List (Option PV) → List PV → PH → Prop} {nx k n pc : Nat} {ls : List (Option PV)} {st : List PV} {h : PH}
theorem st_0 {z : Int} {w2 : Nat} {w3 : Nat} {w4 : List Nat} : k_stp x d K N m P kk (0, z, w2, w3, w4) nx k n pc ls st h = (kk nx ls (vI z :: st) h) := Eq.trans rfl rfl
theorem st_1 {w1 : Int} {j : Nat} {w3 : Nat} {w4 : List Nat} : k_stp x d K N m P kk (1, w1, j, w3, w4) nx k n pc ls st h = (match k_get ls j with | some (.inl z) => kk nx ls (vI z :: st) h | _ => False) := Eq.trans rfl rfl
theorem st_2 {w1 : Int} {j : Nat} {w3 : Nat} {w4 : List Nat} : k_stp x d K N m P kk (2, w1, j, w3, w4) nx k n pc ls st h = (match k_get ls j with | some (.inr (.inl z)) => kk nx ls (vL z :: st) h | _ => False) := Eq.trans rfl rfl
theorem st_3 {w1 : Int} {j : Nat} {w3 : Nat} {w4 : List Nat} : k_stp x d K N m P kk (3, w1, j, w3, w4) nx k n pc ls st h = (match k_get ls j with | some (.inr (.inr (some a))) => kk nx ls (vR a :: st) h | _ => False) := Eq.trans rfl rfl
theorem st_4 {w1 : Int} {j : Nat} {w3 : Nat} {w4 : List Nat} {z : Int} {st' : List PV} : k_stp x d K N m P kk (4, w1, j, w3, w4) nx k n pc ls (vI z :: st') h = (kk nx (k_put ls j (vI z)) st' h) := Eq.trans rfl rfl
theorem st_5 {w1 : Int} {j : Nat} {w3 : Nat} {w4 : List Nat} {z : Int} {st' : List PV} : k_stp x d K N m P kk (5, w1, j, w3, w4) nx k n pc ls (vL z :: st') h = (kk nx (k_clr (k_put ls j (vL z)) (j + 1)) st' h) := Eq.trans rfl rfl
theorem st_6 {w1 : Int} {j : Nat} {w3 : Nat} {w4 : List Nat} {a : Nat} {st' : List PV} : k_stp x d K N m P kk (6, w1, j, w3, w4) nx k n pc ls (vR a :: st') h = (kk nx (k_put ls j (vR a)) st' h) := Eq.trans rfl rfl
theorem st_7 {z : Int} {j : Nat} {w3 : Nat} {w4 : List Nat} : k_stp x d K N m P kk (7, z, j, w3, w4) nx k n pc ls st h = (match k_get ls j with | some (.inl y) => iR (y + z) ∧ kk nx (k_put ls j (vI (y + z))) st h | _ => False) := Eq.trans rfl rfl
theorem st_8 {w1 : Int} {w2 : Nat} {w3 : Nat} {w4 : List Nat} {v : Int} {u : Int} {st' : List PV} : k_stp x d K N m P kk (8, w1, w2, w3, w4) nx k n pc ls (vI v :: vI u :: st') h = (iR (u + v) ∧ kk nx ls (vI (u + v) :: st') h) := Eq.trans rfl rfl
theorem st_9 {w1 : Int} {w2 : Nat} {w3 : Nat} {w4 : List Nat} {v : Int} {u : Int} {st' : List PV} : k_stp x d K N m P kk (9, w1, w2, w3, w4) nx k n pc ls (vI v :: vI u :: st') h = (iR (u - v) ∧ kk nx ls (vI (u - v) :: st') h) := Eq.trans rfl rfl
theorem st_10 {w1 : Int} {w2 : Nat} {w3 : Nat} {w4 : List Nat} {v : Int} {u : Int} {st' : List PV} : k_stp x d K N m P kk (10, w1, w2, w3, w4) nx k n pc ls (vI v :: vI u :: st') h = (iR (u * v) ∧ kk nx ls (vI (u * v) :: st') h) := Eq.trans rfl rfl
theorem st_11 {w1 : Int} {w2 : Nat} {w3 : Nat} {w4 : List Nat} {v : Int} {u : Int} {st' : List PV} : k_stp x d K N m P kk (11, w1, w2, w3, w4) nx k n pc ls (vI v :: vI u :: st') h = ((0 ≤ u ∧ 0 < v) ∧ kk nx ls (vI (u / v) :: st') h) := Eq.trans rfl rfl
theorem st_12 {w1 : Int} {w2 : Nat} {w3 : Nat} {w4 : List Nat} {v : Int} {u : Int} {st' : List PV} : k_stp x d K N m P kk (12, w1, w2, w3, w4) nx k n pc ls (vI v :: vI u :: st') h = ((0 ≤ u ∧ 0 < v) ∧ kk nx ls (vI (u % v) :: st') h) := Eq.trans rfl rfl
theorem st_13 {w1 : Int} {w2 : Nat} {w3 : Nat} {w4 : List Nat} {v : Int} {u : Int} {st' : List PV} : k_stp x d K N m P kk (13, w1, w2, w3, w4) nx k n pc ls (vI v :: vI u :: st') h = ((v = 255 ∨ v = 31) ∧ kk nx ls (vI (u % (v + 1)) :: st') h) := Eq.trans rfl rfl
theorem st_14 {w1 : Int} {w2 : Nat} {w3 : Nat} {w4 : List Nat} {v : Int} {u : Int} {st' : List PV} : k_stp x d K N m P kk (14, w1, w2, w3, w4) nx k n pc ls (vI v :: vI u :: st') h = ((0 ≤ v ∧ v < 32) ∧ kk nx ls (vI (u / 2 ^ v.toNat) :: st') h) := Eq.trans rfl rfl
theorem st_15 {w1 : Int} {w2 : Nat} {w3 : Nat} {w4 : List Nat} {v : Int} {u : Int} {st' : List PV} : k_stp x d K N m P kk (15, w1, w2, w3, w4) nx k n pc ls (vI v :: vI u :: st') h = ((0 ≤ v ∧ v < 32) ∧ kk nx ls (vI (k_ushr u v.toNat) :: st') h) := Eq.trans rfl rfl
theorem st_16 {w1 : Int} {w2 : Nat} {w3 : Nat} {w4 : List Nat} {u : Int} {st' : List PV} : k_stp x d K N m P kk (16, w1, w2, w3, w4) nx k n pc ls (vI u :: st') h = (kk nx ls (vI (k_i2b u) :: st') h) := Eq.trans rfl rfl
theorem st_17 {w1 : Int} {w2 : Nat} {w3 : Nat} {w4 : List Nat} {u : Int} {st' : List PV} : k_stp x d K N m P kk (17, w1, w2, w3, w4) nx k n pc ls (vI u :: st') h = (kk nx ls (vL u :: st') h) := Eq.trans rfl rfl
theorem st_18 {w1 : Int} {w2 : Nat} {w3 : Nat} {w4 : List Nat} {u : Int} {v : Int} {st' : List PV} : k_stp x d K N m P kk (18, w1, w2, w3, w4) nx k n pc ls (vI v :: vL u :: st') h = ((v = 5 ∧ lR (u * 32)) ∧ kk nx ls (vL (u * 32) :: st') h) := Eq.trans rfl rfl
theorem st_19 {w1 : Int} {w2 : Nat} {w3 : Nat} {w4 : List Nat} {v : Int} {u : Int} {st' : List PV} : k_stp x d K N m P kk (19, w1, w2, w3, w4) nx k n pc ls (vL v :: vL u :: st') h = (lR (u + v) ∧ kk nx ls (vL (u + v) :: st') h) := Eq.trans rfl rfl
theorem st_20 {w1 : Int} {w2 : Nat} {w3 : Nat} {w4 : List Nat} {v : Int} {u : Int} {st' : List PV} : k_stp x d K N m P kk (20, w1, w2, w3, w4) nx k n pc ls (vL v :: vL u :: st') h = (kk nx ls (vI (k_lcmp u v) :: st') h) := Eq.trans rfl rfl
theorem st_21 {z : Int} {w2 : Nat} {w3 : Nat} {w4 : List Nat} : k_stp x d K N m P kk (21, z, w2, w3, w4) nx k n pc ls st h = (kk nx ls (vL z :: st) h) := Eq.trans rfl rfl
theorem st_22 {w1 : Int} {ci : Nat} {kf : Nat} {w4 : List Nat} {a : Nat} {st' : List PV} : k_stp x d K N m P kk (22, w1, ci, kf, w4) nx k n pc ls (vR a :: st') h = ((match h.2 a with | some (.inr (c', fs)) => c' = ci ∧ (match k_nth fs kf with | some v => kk nx ls (v :: st') h | none => False) | _ => False)) := Eq.trans rfl rfl
theorem st_23 {w1 : Int} {ci : Nat} {kf : Nat} {t : List Nat} {v : PV} {a : Nat} {st' : List PV} : k_stp x d K N m P kk (23, w1, ci, kf, t) nx k n pc ls (v :: vR a :: st') h = (k_fit t v ∧ (match h.2 a with | some (.inr (c', fs)) => c' = ci ∧ kk nx ls st' (hS h a (.inr (c', k_sf fs kf v))) | _ => False)) := Eq.trans rfl rfl
theorem st_24 {w1 : Int} {w2 : Nat} {w3 : Nat} {w4 : List Nat} {a : Nat} {i : Int} {st' : List PV} : k_stp x d K N m P kk (24, w1, w2, w3, w4) nx k n pc ls (vI i :: vR a :: st') h = ((match h.2 a with | some (.inl (kd, nn, f)) => (kd = 0 ∨ kd = 4) ∧ (0 ≤ i ∧ i < (nn : Int)) ∧ kk nx ls (vI (f i.toNat) :: st') h | _ => False)) := Eq.trans rfl rfl
theorem st_25 {w1 : Int} {w2 : Nat} {w3 : Nat} {w4 : List Nat} {a : Nat} {v : Int} {i : Int} {st' : List PV} : k_stp x d K N m P kk (25, w1, w2, w3, w4) nx k n pc ls (vI v :: vI i :: vR a :: st') h = ((match h.2 a with | some (.inl (kd, nn, f)) => kd = 0 ∧ (0 ≤ i ∧ i < (nn : Int)) ∧ kk nx ls st' (hS h a (.inl (kd, nn, fS f i.toNat v))) | _ => False)) := Eq.trans rfl rfl
theorem st_26 {w1 : Int} {w2 : Nat} {w3 : Nat} {w4 : List Nat} {a : Nat} {i : Int} {st' : List PV} : k_stp x d K N m P kk (26, w1, w2, w3, w4) nx k n pc ls (vI i :: vR a :: st') h = ((match h.2 a with | some (.inl (kd, nn, f)) => (kd = 1 ∨ kd = 2) ∧ (0 ≤ i ∧ i < (nn : Int)) ∧ kk nx ls (vI (f i.toNat) :: st') h | _ => False)) := Eq.trans rfl rfl
theorem st_27 {w1 : Int} {w2 : Nat} {w3 : Nat} {w4 : List Nat} {a : Nat} {v : Int} {i : Int} {st' : List PV} : k_stp x d K N m P kk (27, w1, w2, w3, w4) nx k n pc ls (vI v :: vI i :: vR a :: st') h = ((match h.2 a with | some (.inl (kd, nn, f)) => ((kd = 1 ∧ -128 ≤ v ∧ v ≤ 127) ∨ (kd = 2 ∧ (v = 0 ∨ v = 1))) ∧ (0 ≤ i ∧ i < (nn : Int)) ∧ kk nx ls st' (hS h a (.inl (kd, nn, fS f i.toNat v))) | _ => False)) := Eq.trans rfl rfl
theorem st_28 {w1 : Int} {w2 : Nat} {w3 : Nat} {w4 : List Nat} {a : Nat} {i : Int} {st' : List PV} : k_stp x d K N m P kk (28, w1, w2, w3, w4) nx k n pc ls (vI i :: vR a :: st') h = ((match h.2 a with | some (.inl (kd, nn, f)) => kd = 3 ∧ (0 ≤ i ∧ i < (nn : Int)) ∧ kk nx ls (vL (f i.toNat) :: st') h | _ => False)) := Eq.trans rfl rfl
theorem st_29 {w1 : Int} {w2 : Nat} {w3 : Nat} {w4 : List Nat} {a : Nat} {v : Int} {i : Int} {st' : List PV} : k_stp x d K N m P kk (29, w1, w2, w3, w4) nx k n pc ls (vL v :: vI i :: vR a :: st') h = ((match h.2 a with | some (.inl (kd, nn, f)) => kd = 3 ∧ (0 ≤ i ∧ i < (nn : Int)) ∧ kk nx ls st' (hS h a (.inl (kd, nn, fS f i.toNat v))) | _ => False)) := Eq.trans rfl rfl
theorem st_30 {w1 : Int} {w2 : Nat} {w3 : Nat} {w4 : List Nat} {a : Nat} {st' : List PV} : k_stp x d K N m P kk (30, w1, w2, w3, w4) nx k n pc ls (vR a :: st') h = ((match h.2 a with | some (.inl (_, nn, _)) => kk nx ls (vI (nn : Int) :: st') h | _ => False)) := Eq.trans rfl rfl
theorem st_31 {w1 : Int} {c : Nat} {t : Nat} {w4 : List Nat} {v : Int} {u : Int} {st' : List PV} : k_stp x d K N m P kk (31, w1, c, t, w4) nx k n pc ls (vI v :: vI u :: st') h = (k_br (k_cnd c u v) (kk t ls st' h) (kk nx ls st' h)) := Eq.trans rfl rfl
theorem st_32 {w1 : Int} {c : Nat} {t : Nat} {w4 : List Nat} {u : Int} {st' : List PV} : k_stp x d K N m P kk (32, w1, c, t, w4) nx k n pc ls (vI u :: st') h = (k_br (k_cnd c u 0) (kk t ls st' h) (kk nx ls st' h)) := Eq.trans rfl rfl
theorem st_33 {w1 : Int} {w2 : Nat} {t : Nat} {w4 : List Nat} : k_stp x d K N m P kk (33, w1, w2, t, w4) nx k n pc ls st h = (kk t ls st h) := Eq.trans rfl rfl
theorem st_34 {w1 : Int} {w2 : Nat} {w3 : Nat} {w4 : List Nat} {z : Int} {st' : List PV} : k_stp x d K N m P kk (34, w1, w2, w3, w4) nx k n pc ls (vI z :: st') h = (kk nx ls (vI z :: vI z :: st') h) := Eq.trans rfl rfl
theorem st_34a {w1 : Int} {w2 : Nat} {w3 : Nat} {w4 : List Nat} {a : Nat} {st' : List PV} : k_stp x d K N m P kk (34, w1, w2, w3, w4) nx k n pc ls (vR a :: st') h = (kk nx ls (vR a :: vR a :: st') h) := Eq.trans rfl rfl
theorem st_35 {w1 : Int} {w2 : Nat} {w3 : Nat} {w4 : List Nat} {a : Nat} {z : Int} {st' : List PV} : k_stp x d K N m P kk (35, w1, w2, w3, w4) nx k n pc ls (vI z :: vR a :: st') h = (kk nx ls (vI z :: vR a :: vI z :: vR a :: st') h) := Eq.trans rfl rfl
theorem st_36 {w1 : Int} {w2 : Nat} {w3 : Nat} {w4 : List Nat} {v : Int} : k_stp x d K N m P kk (36, w1, w2, w3, w4) nx k n pc ls [vI v] h = ((pm_r m = some .int ∨ (pm_r m = some .boolean ∧ (v = 0 ∨ v = 1))) ∧ (k ≤ K ∧ n ≤ N) ∧ P (.inl (some (vI v))) h) := Eq.trans rfl rfl
theorem st_37 {w1 : Int} {w2 : Nat} {w3 : Nat} {w4 : List Nat} {v : Int} : k_stp x d K N m P kk (37, w1, w2, w3, w4) nx k n pc ls [vL v] h = (pm_r m = some .long ∧ (k ≤ K ∧ n ≤ N) ∧ P (.inl (some (vL v))) h) := Eq.trans rfl rfl
theorem st_38 {w1 : Int} {w2 : Nat} {w3 : Nat} {w4 : List Nat} {a : Nat} : k_stp x d K N m P kk (38, w1, w2, w3, w4) nx k n pc ls [vR a] h = (k_isref (pm_r m) = true ∧ (k ≤ K ∧ n ≤ N) ∧ P (.inl (some (vR a))) h) := Eq.trans rfl rfl
theorem st_39 {w1 : Int} {w2 : Nat} {w3 : Nat} {w4 : List Nat} : k_stp x d K N m P kk (39, w1, w2, w3, w4) nx k n pc ls [] h = (pm_r m = none ∧ (k ≤ K ∧ n ≤ N) ∧ P (.inl none) h) := Eq.trans rfl rfl
theorem st_42 {lo : Int} {dt : Nat} {w3 : Nat} {ts : List Nat} {z : Int} {st' : List PV} : k_stp x d K N m P kk (42, lo, dt, w3, ts) nx k n pc ls (vI z :: st') h = (k_sw z (fun t => kk t ls st' h) dt lo ts) := Eq.trans rfl rfl
theorem st_44 {w1 : Int} {w2 : Nat} {w3 : Nat} {w4 : List Nat} {v : Int} {u : Int} {st' : List PV} : k_stp x d K N m P kk (44, w1, w2, w3, w4) nx k n pc ls (vI v :: vI u :: st') h = ((1 ≤ d ∧ k_cs st' ≤ 40 ∧ k ≤ K ∧ n ≤ N) ∧ kk nx ls (vI (if v < u then v else u) :: st') h) := Eq.trans rfl rfl
theorem st_45 {w1 : Int} {w2 : Nat} {w3 : Nat} {w4 : List Nat} {v : Int} {u : Int} {st' : List PV} : k_stp x d K N m P kk (45, w1, w2, w3, w4) nx k n pc ls (vI v :: vI u :: st') h = ((1 ≤ d ∧ k_cs st' ≤ 40 ∧ k ≤ K ∧ n ≤ N) ∧ kk nx ls (vI (if u < v then v else u) :: st') h) := Eq.trans rfl rfl
theorem st_47 {w1 : Int} {w2 : Nat} {w3 : Nat} {w4 : List Nat} {w9 : Nat} {st' : List PV} : k_stp x d K N m P kk (47, w1, w2, w3, w4) nx k n pc ls (vR w9 :: st') h = ((1 ≤ d ∧ k_cs st' ≤ 40) ∧ kk nx ls st' h) := Eq.trans rfl rfl
theorem st_40 {w1 : Int} {w2 w3 : Nat} {w4 : List Nat} : k_stp x d K N m P kk (40, w1, w2, w3, w4) nx k n pc ls st h = (k_Wp x d K N m P k n pc ls st h) := Eq.trans rfl rfl
theorem st_41 {w1 : Int} {w2 w3 : Nat} {w4 : List Nat} : k_stp x d K N m P kk (41, w1, w2, w3, w4) nx k n pc ls st h = (k_Wp x d K N m P k n pc ls st h) := Eq.trans rfl rfl
theorem st_46 {w1 : Int} {w2 w3 : Nat} {w4 : List Nat} : k_stp x d K N m P kk (46, w1, w2, w3, w4) nx k n pc ls st h = (k_Wp x d K N m P k n pc ls st h) := Eq.trans rfl rfl
theorem st_48 {w1 : Int} {w2 w3 : Nat} {w4 : List Nat} : k_stp x d K N m P kk (48, w1, w2, w3, w4) nx k n pc ls st h = (k_Wp x d K N m P k n pc ls st h) := Eq.trans rfl rfl
theorem st_49 {w1 : Int} {w2 w3 : Nat} {w4 : List Nat} : k_stp x d K N m P kk (49, w1, w2, w3, w4) nx k n pc ls st h = (k_Wp x d K N m P k n pc ls st h) := Eq.trans rfl rfl
theorem st_43 {w1 : Int} {w2 w3 : Nat} {w4 : List Nat} : k_stp x d K N m P kk (43, w1, w2, w3, w4) nx k n pc ls st h = (k_Wp x d K N m P k n pc ls st h) := Eq.trans rfl rfl
end Rows17
theorem go_0 {x : Bool} {d K N : Nat} {m : PM} {P : PO → PH → Prop} {cut : List Nat} {k n pc : Nat} {ls : List (Option PV)} {st : List PV} {h : PH} : k_go x d K N m P cut k n 0 pc ls st h = k_Wp x d K N m P k n pc ls st h := Eq.trans rfl rfl
theorem go_s {x : Bool} {d K N : Nat} {m : PM} {P : PO → PH → Prop} {cut : List Nat} {k n f pc : Nat} {ls : List (Option PV)} {st : List PV} {h : PH} : k_go x d K N m P cut k n (f + 1) pc ls st h = (match k_lk (pm_c m) pc with | none => False | some (i, nx) => k_stp x d K N m P (fun pc ls st h => k_cut pc (k_Wp x d K N m P k n pc ls st h) (k_go x d K N m P cut k n f pc ls st h) cut) i nx k n pc ls st h) := Eq.trans rfl rfl
theorem cut_0 {pc : Nat} {a b : Prop} : k_cut pc a b [] = b := Eq.trans rfl rfl
theorem cut_s {pc c : Nat} {a b : Prop} {cs : List Nat} : k_cut pc a b (c :: cs) = if pc = c then a else k_cut pc a b cs := Eq.trans rfl rfl
theorem get_0 {a : Option PV} {t : List (Option PV)} : k_get (a :: t) 0 = a := Eq.trans rfl rfl
theorem get_s {a : Option PV} {t : List (Option PV)} {j : Nat} : k_get (a :: t) (j + 1) = k_get t j := Eq.trans rfl rfl
theorem put_0 {a : Option PV} {t : List (Option PV)} {v : PV} : k_put (a :: t) 0 v = some v :: t := Eq.trans rfl rfl
theorem put_1 {a : Option PV} {t : List (Option PV)} {v : PV} : k_put (a :: t) 1 v = k_unl a :: k_put t 0 v := Eq.trans rfl rfl
theorem put_s {a : Option PV} {t : List (Option PV)} {j : Nat} {v : PV} : k_put (a :: t) (j + 2) v = a :: k_put t (j + 1) v := Eq.trans rfl rfl
theorem clr_0 {a : Option PV} {t : List (Option PV)} : k_clr (a :: t) 0 = none :: t := Eq.trans rfl rfl
theorem clr_s {a : Option PV} {t : List (Option PV)} {j : Nat} : k_clr (a :: t) (j + 1) = a :: k_clr t j := Eq.trans rfl rfl
theorem unl_i {z : Int} : k_unl (some (vI z)) = some (vI z) := Eq.trans rfl rfl
theorem unl_l {z : Int} : k_unl (some (vL z)) = none := Eq.trans rfl rfl
theorem unl_r {a : Nat} : k_unl (some (vR a)) = some (vR a) := Eq.trans rfl rfl
theorem unl_n : k_unl none = none := Eq.trans rfl rfl
theorem nth_0 {a : PV} {t : List PV} : k_nth (a :: t) 0 = some a := Eq.trans rfl rfl
theorem nth_s {a : PV} {t : List PV} {j : Nat} : k_nth (a :: t) (j + 1) = k_nth t j := Eq.trans rfl rfl
theorem sf_0 {a v : PV} {t : List PV} : k_sf (a :: t) 0 v = v :: t := Eq.trans rfl rfl
theorem sf_s {a v : PV} {t : List PV} {j : Nat} : k_sf (a :: t) (j + 1) v = a :: k_sf t j v := Eq.trans rfl rfl
theorem cnd_0 {u v : Int} : k_cnd 0 u v = (u = v) := Eq.trans rfl rfl
theorem cnd_1 {u v : Int} : k_cnd 1 u v = (¬ u = v) := Eq.trans rfl rfl
theorem cnd_2 {u v : Int} : k_cnd 2 u v = (u < v) := Eq.trans rfl rfl
theorem cnd_3 {u v : Int} : k_cnd 3 u v = (v ≤ u) := Eq.trans rfl rfl
theorem cnd_4 {u v : Int} : k_cnd 4 u v = (v < u) := Eq.trans rfl rfl
theorem cnd_5 {u v : Int} : k_cnd 5 u v = (u ≤ v) := Eq.trans rfl rfl
theorem fit_0 {z : Int} : k_fit [0] (vI z) = True := Eq.trans rfl rfl
theorem fit_1 {z : Int} : k_fit [1] (vI z) = (z = 0 ∨ z = 1) := Eq.trans rfl rfl
theorem fit_2 {a : Nat} : k_fit [2] (vR a) = True := Eq.trans rfl rfl
theorem en_0 : k_en [] = [] := Eq.trans rfl rfl
theorem en_i {z : Int} {t : List PV} : k_en (vI z :: t) = some (vI z) :: k_en t := Eq.trans rfl rfl
theorem en_l {z : Int} {t : List PV} : k_en (vL z :: t) = some (vL z) :: none :: k_en t := Eq.trans rfl rfl
theorem en_r {a : Nat} {t : List PV} : k_en (vR a :: t) = some (vR a) :: k_en t := Eq.trans rfl rfl
