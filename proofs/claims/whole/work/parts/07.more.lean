/-! makings, returns, the library's own, switches -/
def hN (h : PH) (c : PC) : PH := (h.1 + 1, fun b => if b = h.1 then some c else h.2 b)
theorem k_Rp_new {X : Cx} {h : PH} {H H1 : Heap} {c : PC} (hb : cx_b X < cx_z X) (hR : k_Rp X true h H) (hw : k_wfC c) (hz : H1.size = H.size + 1) (ho : ∀ q, q < H.size → H1[q]? = H[q]?) (hc : k_at X h.1 c H1) : k_Rp X true (hN h c) H1 := by
  obtain ⟨r1, r2, r3, r4, r5⟩ := hR
  have r4 := r4 rfl
  refine ⟨fun q hq => ?_, by show 0 < h.1 + 1; omega, by show cx_z X + (h.1 + 1) ≤ _; omega, fun _ => by show _ = cx_z X + (h.1 + 1); omega, fun b cb hbb => ?_⟩
  · rw [ho q (by omega)]; exact r1 q hq
  · show b < h.1 + 1 ∧ _
    have hbb : (if b = h.1 then some c else h.2 b) = some cb := hbb
    by_cases e : b = h.1
    · rw [if_pos e] at hbb
      have e2 : c = cb := Option.some.inj hbb
      rw [← e2, e]
      exact ⟨by omega, hw, hc⟩
    · rw [if_neg e] at hbb
      obtain ⟨q1, q2, q3⟩ := r5 b cb hbb
      refine ⟨by omega, q2, k_at_kept q3 (ho _ ?_)⟩
      cases b with
      | zero => show cx_b X < _; omega
      | succ b => show cx_z X + b < _; omega
theorem k_sz {X : Cx} {h : PH} {H : Heap} (hR : k_Rp X true h H) : k_ad X h.1 = H.size := by
  obtain ⟨r1, r2, r3, r4, r5⟩ := hR
  have r4 := r4 rfl
  cases e : h.1 with
  | zero => omega
  | succ b => show cx_z X + b = _; omega
section Steps3
variable {x : Bool} {d K N : Nat} {m : PM} {P : PO → PH → Prop} {k n pc nx : Nat} {ls : List (Option PV)} {st : List PV} {h : PH}
def k_dv : FieldType → PV
  | .long => vL 0
  | .object _ => vN
  | .array _ => vN
  | _ => vI 0
theorem p_newa {kd : Nat} {z i : Int} {b2 : Nat} {t : List Nat} (hc : k_lk (pm_c m) pc = some ((41, z, kd, b2, t), nx)) (h0 : 0 ≤ i) (h1 : i ≤ 60000000) (hk : k + 1 ≤ K) (hn : n + i.toNat ≤ N) (kk : k_Wp true d K N m P (k + 1) (n + i.toNat) nx ls (vR h.1 :: st) (hN h (.inl (kd, i.toNat, fun _ => 0)))) : k_Wp true d K N m P k n pc ls (vI i :: st) h := by
  intro hg X p e s mi args below meth c H locs lj S hR hz hL hl hs hw
  have h9 := k_at_chk hg hc
  have hi : iR i := hs _ List.mem_cons_self
  have hKn := S.2.2.2.2.2.2.2.2.2.1
  have hsz := k_sz hR
  have fin : ∀ (kd0 : Nat) (H' : Heap), kd0 < 4 → kd0 = kd → H'[H.size]? = some (arrV (cx_A X kd0) i.toNat (fun _ => k_ev kd0 0)) → H'.size = H.size + 1 → (∀ q, q < H.size → H'[q]? = H[q]?) →
      W p (cx_l X) e (k_rm d K N) s mi args below meth c H' locs (k + 1) (n + i.toNat) (vx_MQ below (k_Q X true P) (k_XQ X P) args s K N (fun q => cx_z X ≤ q)) (F0 mi nx lj (.ref H.size :: st.map (k_v X))) := by
    intro kd0 H' hk4 ek e1 e2 e3
    subst ek
    have := kk hg X p e s mi args below meth c H' locs lj S (k_Rp_new (k_bz hKn) hR (c := .inl (kd0, i.toNat, fun _ => 0)) ⟨by show i.toNat < _; omega, fun j _ => by
      show k_rg kd0 0
      match kd0, hk4 with
      | 0, _ => exact (by decide : iR 0)
      | 1, _ => exact (by decide : -128 ≤ (0 : Int) ∧ (0 : Int) ≤ 127)
      | 2, _ => exact Or.inl rfl
      | 3, _ => exact (by decide : lR 0)⟩ e2 e3 (k_atA hk4 hR.2.1 (by rw [hsz]; exact e1))) (by omega) hL hl (k_wcons trivial (fun w hw => hs w (by simp [hw]))) hw
    have e5 : ((vR h.1 :: st).map (k_v X)) = Value.ref H.size :: st.map (k_v X) := by
      show Value.ref (k_ad X h.1) :: _ = _
      rw [hsz]
    rw [e5] at this
    exact this
  have hcl : ∀ (kd0 : Nat), kd0 < 4 → ∀ cA : ClassId, s.vm.findClass ("[" ++ (k_et kd0).toString) = some cA → cA = cx_A X kd0 := by
    intro kd0 hk4 cA hf
    match kd0, hk4 with
    | 0, _ => exact Option.some.inj (hf.symm.trans (hKn.1.2 0 _ rfl).2)
    | 1, _ => exact Option.some.inj (hf.symm.trans (hKn.1.2 1 _ rfl).2)
    | 2, _ => exact Option.some.inj (hf.symm.trans (hKn.1.2 2 _ rfl).2)
    | 3, _ => exact Option.some.inj (hf.symm.trans (hKn.1.2 3 _ rfl).2)
  have hn0 : ¬ Int32.ofInt i < 0 := by rw [n_lt0 hi]; omega
  match kd, h9, fin with
  | 0, h9, fin =>
    obtain ⟨hd, rfl⟩ := k_dc_ok h9
    exact va_newaK S.1 S.2.1 (atype := .int) (S.2.2.2.2.2.1 _ k_ac0) rfl hd rfl hn0 (n_cl hi) (by show _ * 4 ≤ _; omega) hk hn rfl (fun H' cA e1 e2 e3 e4 e5 => fin 0 H' (by decide) rfl (by rw [← hcl 0 (by decide) cA e5]; exact e1) e2 e3)
  | 1, h9, fin =>
    obtain ⟨hd, rfl⟩ := k_dc_ok h9
    exact va_newaK S.1 S.2.1 (atype := .byte) (S.2.2.2.2.2.1 _ k_ac1) rfl hd rfl hn0 (n_cl hi) (by show _ * 1 ≤ _; omega) hk hn rfl (fun H' cA e1 e2 e3 e4 e5 => fin 1 H' (by decide) rfl (by rw [← hcl 1 (by decide) cA e5]; exact e1) e2 e3)
  | 2, h9, fin =>
    obtain ⟨hd, rfl⟩ := k_dc_ok h9
    exact va_newaK S.1 S.2.1 (atype := .boolean) (S.2.2.2.2.2.1 _ k_ac2) rfl hd rfl hn0 (n_cl hi) (by show _ * 1 ≤ _; omega) hk hn rfl (fun H' cA e1 e2 e3 e4 e5 => fin 2 H' (by decide) rfl (by rw [← hcl 2 (by decide) cA e5]; exact e1) e2 e3)
  | 3, h9, fin =>
    obtain ⟨hd, rfl⟩ := k_dc_ok h9
    exact va_newaK S.1 S.2.1 (atype := .long) (S.2.2.2.2.2.1 _ k_ac3) rfl hd rfl hn0 (n_cl hi) (by show _ * 8 ≤ _; omega) hk hn rfl (fun H' cA e1 e2 e3 e4 e5 => fin 3 H' (by decide) rfl (by rw [← hcl 3 (by decide) cA e5]; exact e1) e2 e3)
  | _ + 4, h9, fin => simp [k_chk] at h9
def k_nf (ci : Nat) : Nat := match k_cl[ci]? with | some r => r.2.2 | none => 0
def k_df (ci : Nat) : List PV := (List.range (k_nf ci)).map (fun j => k_dv (k_ty ci j))
theorem k_dv_ok (X : Cx) {ty : FieldType} (h : k_fcode ty ≠ 9) : defaultValue ty = k_v X (k_dv ty) := by
  cases ty <;> first | (exact absurd rfl h) | rfl
theorem k_dv_wf (ty : FieldType) : k_wfV (k_dv ty) := by
  cases ty <;> first | exact (by decide : iR 0) | exact (by decide : lR 0) | trivial
theorem k_tyok : ∀ ci, ci < 13 → ∀ j, j < k_nf ci → k_fcode (k_ty ci j) ≠ 9 := by decide +kernel
theorem k_ci13 {ci : Nat} {r : vw_C} (h : k_cl[ci]? = some r) : ci < 13 := (List.getElem?_eq_some_iff.mp h).1
theorem p_new {ci : Nat} {z : Int} {b2 : Nat} {t : List Nat} (hc : k_lk (pm_c m) pc = some ((40, z, ci, b2, t), nx)) (hk : k + 1 ≤ K) (hn : n + k_nf ci ≤ N) (kk : k_Wp true d K N m P (k + 1) (n + k_nf ci) nx ls (vR h.1 :: st) (hN h (.inr (ci, k_df ci)))) : k_Wp true d K N m P k n pc ls st h := by
  intro hg X p e s mi args below meth c H locs lj S hR hz hL hl hs hw
  have h0 := k_at_chk hg hc
  simp only [k_chk, Bool.and_eq_true] at h0
  obtain ⟨h0, h1⟩ := h0
  obtain ⟨hd, rfl⟩ := k_dc_ok h0
  obtain ⟨r, hr, g1, g2, g3⟩ := k_isnw_ok h1
  obtain ⟨C, T, NN⟩ := r
  have hKn := S.2.2.2.2.2.2.2.2.2.1
  have hnf : k_nf ci = NN := by unfold k_nf; rw [hr]
  rw [hnf] at hn kk
  obtain ⟨w1, w2, w3, w4⟩ := k_cls hr
  have hKc := hKn.1.1 ci _ hr
  have hsz := k_sz hR
  refine W.newcK S.1 S.2.1 S.2.2.2.2.1 (S.2.2.2.2.2.1 _ g1) (S.2.2.2.2.2.1 _ g2) (S.2.2.2.2.2.1 _ g3) rfl hd hk hn hKc.2.1 rfl (fun H1 kC hkC e1 e2 e3 => ?_)
  have e5 : ((vR h.1 :: st).map (k_v X)) = Value.ref H.size :: st.map (k_v X) := by
    show Value.ref (k_ad X h.1) :: _ = _
    rw [hsz]
  have := kk hg X p e s mi args below meth c H1 locs lj S (k_Rp_new (k_bz hKn) hR (c := .inr (ci, k_df ci)) (fun v hv => by
    obtain ⟨j, -, rfl⟩ := List.mem_map.mp hv
    exact k_dv_wf _) e2 e3 ⟨hR.2.1, _, hr, by simp [k_df, hnf], by
      rw [hsz]
      refine (u_born (k_ty ci) S.2.2.2.2.2.1 w1 hKc hkC e1 w2).to (fun j hj => ?_)
      have hj : j < NN := hj
      rw [k_dv_ok X (k_tyok ci (k_ci13 hr) j (by rw [hnf]; exact hj))]
      show _ = vp_V _ j
      unfold vp_V k_df
      rw [List.map_map, List.getD_eq_getElem?_getD, List.getElem?_map, List.getElem?_range (by rw [hnf]; exact hj)]
      rfl⟩) (by omega) hL hl (k_wcons trivial hs) hw
  rw [e5] at this
  exact this
theorem p_iret {z v : Int} {b1 b2 : Nat} {t : List Nat} (hc : k_lk (pm_c m) pc = some ((36, z, b1, b2, t), nx)) (hr : pm_r m = some .int ∨ (pm_r m = some .boolean ∧ (v = 0 ∨ v = 1))) (hk : k ≤ K) (hn : n ≤ N) (hP : P (.inl (some (vI v))) h) : k_Wp x d K N m P k n pc ls [vI v] h := by
  intro hg X p e s mi args below meth c H locs lj S hR hz hL hl hs hw
  obtain ⟨hd, rfl⟩ := k_dc_ok (k_at_chk hg hc)
  refine W.widen hk hn (vx_ret ?_)
  have hq : ∀ t : State, t.heap = H → s.WarmedH t.vm → k_Q X x P args s (.returned (some (.int (Int32.ofInt v)))) t := fun t ht _ => ⟨some (vI v), h, rfl, hP, fun w e => by cases e; exact hs _ List.mem_cons_self, by rw [ht]; exact hR, by rw [ht]; exact hz⟩
  rcases hr with hr | ⟨hr, hv⟩
  · exact W.iret S.1 S.2.1 (S.2.2.1.trans hr) hq hL hd S.2.2.2.2.2.2.1
  · exact W.zret S.1 S.2.1 (S.2.2.1.trans hr) (n_nz hv) hq hL hd S.2.2.2.2.2.2.1
theorem p_lret {z v : Int} {b1 b2 : Nat} {t : List Nat} (hc : k_lk (pm_c m) pc = some ((37, z, b1, b2, t), nx)) (hr : pm_r m = some .long) (hk : k ≤ K) (hn : n ≤ N) (hP : P (.inl (some (vL v))) h) : k_Wp x d K N m P k n pc ls [vL v] h := by
  intro hg X p e s mi args below meth c H locs lj S hR hz hL hl hs hw
  obtain ⟨hd, rfl⟩ := k_dc_ok (k_at_chk hg hc)
  refine W.widen hk hn (vx_ret ?_)
  exact W.lret S.1 S.2.1 (S.2.2.1.trans hr) (fun t ht _ => ⟨some (vL v), h, rfl, hP, fun w e => by cases e; exact hs _ List.mem_cons_self, by rw [ht]; exact hR, by rw [ht]; exact hz⟩) hL hd S.2.2.2.2.2.2.1
def k_isref : Option FieldType → Bool
  | some (.object _) => true
  | some (.array _) => true
  | _ => false
theorem p_aret {z : Int} {a b1 b2 : Nat} {t : List Nat} (hc : k_lk (pm_c m) pc = some ((38, z, b1, b2, t), nx)) (hr : k_isref (pm_r m) = true) (hk : k ≤ K) (hn : n ≤ N) (hP : P (.inl (some (vR a))) h) : k_Wp x d K N m P k n pc ls [vR a] h := by
  intro hg X p e s mi args below meth c H locs lj S hR hz hL hl hs hw
  obtain ⟨hd, rfl⟩ := k_dc_ok (k_at_chk hg hc)
  refine W.widen hk hn (vx_ret ?_)
  have hr2 : ∃ rt, pm_r m = some rt ∧ ((∃ n, rt = .object n) ∨ ∃ t, rt = .array t) := by
    unfold k_isref at hr
    split at hr
    · rename_i e1; exact ⟨_, e1, Or.inl ⟨_, rfl⟩⟩
    · rename_i e1; exact ⟨_, e1, Or.inr ⟨_, rfl⟩⟩
    · cases hr
  obtain ⟨rt, e1, e2⟩ := hr2
  exact W.aret S.1 S.2.1 (S.2.2.1.trans e1) e2 (Or.inr ⟨_, rfl⟩) (fun t ht _ => ⟨some (vR a), h, rfl, hP, fun w e => by cases e; trivial, by rw [ht]; exact hR, by rw [ht]; exact hz⟩) hL hd S.2.2.2.2.2.2.1
theorem p_vret {z : Int} {b1 b2 : Nat} {t : List Nat} (hc : k_lk (pm_c m) pc = some ((39, z, b1, b2, t), nx)) (hr : pm_r m = none) (hk : k ≤ K) (hn : n ≤ N) (hP : P (.inl none) h) : k_Wp x d K N m P k n pc ls [] h := by
  intro hg X p e s mi args below meth c H locs lj S hR hz hL hl hs hw
  obtain ⟨hd, rfl⟩ := k_dc_ok (k_at_chk hg hc)
  refine W.widen hk hn (vx_ret ?_)
  exact W.vret S.1 S.2.1 (S.2.2.1.trans hr) (fun t ht _ => ⟨none, h, rfl, hP, fun w e => by (cases e), by rw [ht]; exact hR, by rw [ht]; exact hz⟩) hL hd S.2.2.2.2.2.2.1
def k_cs (st : List PV) : Nat := (st.map (fun v => match v with | .inr (.inl _) => 2 | _ => 1)).sum
theorem k_cs_eq (X : Cx) (st : List PV) : ((st.map (k_v X)).map fun v => v.category).sum = k_cs st := by
  unfold k_cs
  rw [List.map_map]
  congr 1
  apply List.map_congr_left
  intro v _
  rcases v with z | z | z | z <;> rfl
theorem p_min {u v z : Int} {b1 b2 : Nat} {t : List Nat} (hc : k_lk (pm_c m) pc = some ((44, z, b1, b2, t), nx)) (hd1 : 1 ≤ d) (hcs : k_cs st ≤ 40) (hk : k ≤ K) (hn : n ≤ N) (kk : k_Wp x d K N m P k n nx ls (vI (if v < u then v else u) :: st) h) : k_Wp x d K N m P k n pc ls (vI v :: vI u :: st) h := by
  intro hg X p e s mi args below meth c H locs lj S hR hz hL hl hs hw
  have h0 := k_at_chk hg hc
  simp only [k_chk, Bool.and_eq_true] at h0
  obtain ⟨h0, h1⟩ := h0
  obtain ⟨hd, rfl⟩ := k_dc_ok h0
  have hv : iR v := hs _ List.mem_cons_self
  have hu : iR u := hs (vI u) (by simp)
  have hk2 := kk hg X p e s mi args below meth c H locs lj S hR hz hL hl (k_wcons (show iR _ by split <;> assumption) (fun w hw => hs w (by simp [hw]))) hw
  refine va_mmin S.1 S.2.1 (by rw [S.2.2.2.1]; exact hl.1.symm) S.2.2.2.2.1 (S.2.2.2.2.2.1 _ (k_ismn_ok h1)) (S.2.2.2.2.2.1 _ k_wmn1) (S.2.2.2.2.2.1 _ k_wm0) (S.2.2.2.2.2.1 _ k_wmmin2) hd1 (by rw [k_cs_eq]; show _ ≤ 64 * d; omega) hk hn hd ?_
  rw [n_min hu hv]
  exact hk2
theorem p_max {u v z : Int} {b1 b2 : Nat} {t : List Nat} (hc : k_lk (pm_c m) pc = some ((45, z, b1, b2, t), nx)) (hd1 : 1 ≤ d) (hcs : k_cs st ≤ 40) (hk : k ≤ K) (hn : n ≤ N) (kk : k_Wp x d K N m P k n nx ls (vI (if u < v then v else u) :: st) h) : k_Wp x d K N m P k n pc ls (vI v :: vI u :: st) h := by
  intro hg X p e s mi args below meth c H locs lj S hR hz hL hl hs hw
  have h0 := k_at_chk hg hc
  simp only [k_chk, Bool.and_eq_true] at h0
  obtain ⟨h0, h1⟩ := h0
  obtain ⟨hd, rfl⟩ := k_dc_ok h0
  have hv : iR v := hs _ List.mem_cons_self
  have hu : iR u := hs (vI u) (by simp)
  have hk2 := kk hg X p e s mi args below meth c H locs lj S hR hz hL hl (k_wcons (show iR _ by split <;> assumption) (fun w hw => hs w (by simp [hw]))) hw
  refine va_mmax S.1 S.2.1 (by rw [S.2.2.2.1]; exact hl.1.symm) S.2.2.2.2.1 (S.2.2.2.2.2.1 _ (k_ismx_ok h1)) (S.2.2.2.2.2.1 _ k_wmx1) (S.2.2.2.2.2.1 _ k_wm0) (S.2.2.2.2.2.1 _ k_wmmax2) hd1 (by rw [k_cs_eq]; show _ ≤ 64 * d; omega) hk hn hd ?_
  rw [n_max hu hv]
  exact hk2
theorem p_oinit {a : Nat} {z : Int} {b1 b2 : Nat} {t : List Nat} (hc : k_lk (pm_c m) pc = some ((47, z, b1, b2, t), nx)) (hd1 : 1 ≤ d) (hcs : k_cs st ≤ 40) (kk : k_Wp x d K N m P k n nx ls st h) : k_Wp x d K N m P k n pc ls (vR a :: st) h := by
  intro hg X p e s mi args below meth c H locs lj S hR hz hL hl hs hw
  have h0 := k_at_chk hg hc
  simp only [k_chk, Bool.and_eq_true] at h0
  obtain ⟨h0, h1⟩ := h0
  obtain ⟨hd, rfl⟩ := k_dc_ok h0
  have hk2 := kk hg X p e s mi args below meth c H locs lj S hR hz hL hl (fun w hw => hs w (by simp [hw])) hw
  exact W.objInit S.1 S.2.1 S.2.2.2.2.1 (S.2.2.2.2.2.1 _ (k_isoi_ok h1)) (S.2.2.2.2.2.1 _ k_wo1) (S.2.2.2.2.2.1 _ k_wo2) rfl (by rw [S.2.2.2.1]; exact hl.1) rfl hd hd1 (by rw [k_cs_eq]; show 2 * 0 + _ + 12 ≤ 64 * d; omega) hk2
/-- a switch over a row of numbers -/
def k_sw (z : Int) (kt : Nat → Prop) (dt : Nat) : Int → List Nat → Prop
  | _, [] => kt dt
  | lo, t :: ts => (z = lo → kt t) ∧ (¬ z = lo → k_sw z kt dt (lo + 1) ts)
theorem k_sw_in {z : Int} {kt : Nat → Prop} {dt : Nat} : ∀ (ts : List Nat) (lo : Int), k_sw z kt dt lo ts → (∀ (j : Nat) (t : Nat), ts[j]? = some t → z = lo + j → kt t) ∧ ((z < lo ∨ lo + ts.length ≤ z) → kt dt)
  | [], lo, h => ⟨fun j t hj => by simp at hj, fun _ => h⟩
  | t :: ts, lo, h => by
    by_cases hz : z = lo
    · refine ⟨fun j t' hj e => ?_, fun q => ?_⟩
      · have hj0 : j = 0 := by omega
        subst hj0
        cases hj
        exact h.1 hz
      · rw [List.length_cons] at q; omega
    · obtain ⟨i1, i2⟩ := k_sw_in ts (lo + 1) (h.2 hz)
      refine ⟨fun j t' hj e => ?_, fun q => i2 ?_⟩
      · cases j with
        | zero => omega
        | succ j => exact i1 j t' hj (by omega)
      · rw [List.length_cons] at q; omega
theorem p_tsw {z lo : Int} {dt ln : Nat} {ts : List Nat} (hc : k_lk (pm_c m) pc = some ((42, lo, dt, ln, ts), nx)) (kk : k_sw z (fun t => k_Wp x d K N m P k n t ls st h) dt lo ts) : k_Wp x d K N m P k n pc ls (vI z :: st) h := by
  intro hg X p e s mi args below meth c H locs lj S hR hz hL hl hs hw
  obtain ⟨hd, -⟩ := k_dc_ok (k_at_chk hg hc)
  have hi : iR z := hs _ List.mem_cons_self
  obtain ⟨k1, k2⟩ := k_sw_in ts lo kk
  have go := fun (t : Nat) (q : k_Wp x d K N m P k n t ls st h) => q hg X p e s mi args below meth c H locs lj S hR hz hL hl (fun w hw => hs w (by simp [hw])) hw
  by_cases hin : z < lo ∨ lo + ts.length ≤ z
  · exact lv_tableOut S.1 S.2.1 hd (by rw [n_t hi]; omega) (tgt := dt) (by unfold k_jmp; omega) (go dt (k2 hin))
  · have hj : (z - lo).toNat < ts.length := by omega
    have hjj := List.getElem?_eq_getElem hj
    refine lv_tableIn S.1 S.2.1 hd (by rw [n_t hi]; omega) (by rw [n_t hi]; omega) (off := k_jmp pc (ts[(z - lo).toNat])) (tgt := ts[(z - lo).toNat]) ?_ (by unfold k_jmp; omega) (go _ (k1 _ _ hjj (by omega)))
    rw [n_t hi, List.getElem?_toArray, List.getElem?_map, hjj]
    rfl
end Steps3
