/-! a method's contract; calls; copies; throws -/
theorem k_cpyI (f g : Nat → Int) (sp dp n : Nat) : va_cpy (fun j => Int32.ofInt (f j)) (fun j => Int32.ofInt (g j)) sp dp n = fun j => Int32.ofInt (va_cpy f g sp dp n j) := by
  funext j
  unfold va_cpy
  split <;> rfl
section Steps4
variable {x : Bool} {d K N : Nat} {m : PM} {P : PO → PH → Prop} {k n pc nx : Nat} {ls : List (Option PV)} {st : List PV} {h : PH}
theorem p_copy {a b n0 n1 : Nat} {f g : Nat → Int} {sp dp nn z : Int} {b1 b2 : Nat} {t : List Nat} (hc : k_lk (pm_c m) pc = some ((46, z, b1, b2, t), nx)) (ha : h.2 a = some (.inl (0, n0, f))) (hb : h.2 b = some (.inl (0, n1, g))) (h1 : 0 ≤ sp) (h2 : 0 ≤ dp) (h3 : 0 ≤ nn) (h4 : sp + nn ≤ n0) (h5 : dp + nn ≤ n1) (hd1 : 1 ≤ d) (hcs : k_cs st ≤ 40)
    (kk : k_Wp x d K N m P k n nx ls st (hS h b (.inl (0, n1, va_cpy f g sp.toNat dp.toNat nn.toNat)))) : k_Wp x d K N m P k n pc ls (vI nn :: vI dp :: vR b :: vI sp :: vR a :: st) h := by
  intro hg X p e s mi args below meth c H locs lj S hR hz hL hl hs hw
  have h0 := k_at_chk hg hc
  simp only [k_chk, Bool.and_eq_true] at h0
  obtain ⟨h0, h6⟩ := h0
  obtain ⟨hd, rfl⟩ := k_dc_ok h0
  have hKn := S.2.2.2.2.2.2.2.2.2.1
  have r1 : iR nn := hs _ List.mem_cons_self
  have r2 : iR dp := hs (vI dp) (by simp)
  have r3 : iR sp := hs (vI sp) (by simp)
  obtain ⟨ha0, hca, hna, hra⟩ := k_cellA hR ha (by decide)
  obtain ⟨hb0, hcb, hnb, hrb⟩ := k_cellA hR hb (by decide)
  intro T hT XX
  have nn' : ∀ {v : Int}, iR v → 0 ≤ v → (Int32.ofInt v).toInt = ((Int32.ofInt v).toNatClampNeg : Int) := fun hv h => by rw [n_t hv, n_cl hv]; omega
  obtain ⟨-, k0, hk0, cm0, hkk0⟩ := k_arr hKn (kd := 0) (by decide) n0 (fun j => k_ev 0 (f j))
  obtain ⟨-, k1, hk1, cm1, hkk1⟩ := k_arr hKn (kd := 0) (by decide) n1 (fun j => k_ev 0 (g j))
  obtain ⟨vm', X', step⟩ := XX.arraycopy S.1 S.2.2.2.2.1 (S.2.2.2.2.2.1 _ (k_iscp_ok h6)) (S.2.2.2.2.2.1 _ k_wc1) (S.2.2.2.2.2.1 _ k_wc2) (S.2.2.2.2.2.1 _ k_wc3) (src := k_ad X a) (dst := k_ad X b) (cs := vp_cell (cx_A X 0) (n0, .inl (fun j => Int32.ofInt (f j)))) (cd := vp_cell (cx_A X 0) (n1, .inl (fun j => Int32.ofInt (g j)))) (srcPos := Int32.ofInt sp) (destPos := Int32.ofInt dp) (n := Int32.ofInt nn) (by rw [hT]; exact hca) (by rw [hT]; exact hcb)
    (fun _ h => by cases h) (fun _ h => by cases h) (fun h => by cases h) (fun h => by cases h) hk0 hk1 hkk0 hkk1 (by simp [k_et, refKind]) (by rw [n_lt0 r3]; omega) (by rw [n_lt0 r2]; omega) (by rw [n_lt0 r1]; omega)
    (by rw [nn' r3 h1, nn' r1 h3, n_cl r3, n_cl r1]; show ¬ _ > ((arrV (cx_A X 0) n0 (fun j => .int (Int32.ofInt (f j)))).slots.size : Int); rw [arrV_size]; omega)
    (by rw [nn' r2 h2, nn' r1 h3, n_cl r2, n_cl r1]; show ¬ _ > ((arrV (cx_A X 0) n1 (fun j => .int (Int32.ofInt (g j)))).slots.size : Int); rw [arrV_size]; omega)
    (fun vm₁ _ i hi => by
      rw [n_cl r1] at hi
      rw [n_cl r3]
      have e : (vp_cell (cx_A X 0) (n0, .inl (fun j => Int32.ofInt (f j)))).slots.getD (sp.toNat + i) .null = .int (Int32.ofInt (f (sp.toNat + i))) := by
        show (arrV (cx_A X 0) n0 (fun j => .int (Int32.ofInt (f j)))).slots.getD _ _ = _
        rw [Array.getD_eq_getD_getElem?, arrV_read _ _ (by omega)]
        rfl
      refine ⟨?_, ?_⟩
      · rw [e]; rfl
      · rw [e]; exact trivial)
    (g := F0 mi pc lj (.int (Int32.ofInt nn) :: .int (Int32.ofInt dp) :: .ref (k_ad X b) :: .int (Int32.ofInt sp) :: .ref (k_ad X a) :: st.map (k_v X))) rfl (by rw [S.2.2.2.1]; exact hl.1) (rest := st.map (k_v X)) rfl (by rw [S.2.1]; exact hd) hd1 (by rw [k_cs_eq]; show 2 * 0 + _ + (7 + 11) ≤ 64 * d; omega)
  have e1 : copied (vp_cell (cx_A X 0) (n0, .inl (fun j => Int32.ofInt (f j)))) (vp_cell (cx_A X 0) (n1, .inl (fun j => Int32.ofInt (g j)))) (Int32.ofInt sp) (Int32.ofInt dp) (Int32.ofInt nn) = arrV (cx_A X 0) n1 (fun j => k_ev 0 (va_cpy f g sp.toNat dp.toNat nn.toNat j)) := by
    have e0 : copied (vp_cell (cx_A X 0) (n0, .inl (fun j => Int32.ofInt (f j)))) (vp_cell (cx_A X 0) (n1, .inl (fun j => Int32.ofInt (g j)))) (Int32.ofInt sp) (Int32.ofInt dp) (Int32.ofInt nn) = vp_cell (cx_A X 0) (n1, .inl (va_cpy (fun j => Int32.ofInt (f j)) (fun j => Int32.ofInt (g j)) (Int32.ofInt sp).toNatClampNeg (Int32.ofInt dp).toNatClampNeg (Int32.ofInt nn).toNatClampNeg)) := va_copied (fun z => .int z) (cx_A X 0) (cx_A X 0) (fun j => Int32.ofInt (f j)) (fun j => Int32.ofInt (g j)) (by rw [n_cl r3, n_cl r1]; omega)
    rw [e0, n_cl r3, n_cl r2, n_cl r1, k_cpyI]
    rfl
  rw [e1] at X' step
  have hlt : k_ad X b < H.size := (Array.getElem?_eq_some_iff.mp hcb).1
  have hheap : ((T.setVm vm').setCell (k_ad X b) (arrV (cx_A X 0) n1 (fun j => k_ev 0 (va_cpy f g sp.toNat dp.toNat nn.toNat j)))).heap = H.setIfInBounds (k_ad X b) (arrV (cx_A X 0) n1 (fun j => k_ev 0 (va_cpy f g sp.toNat dp.toNat nn.toNat j))) := by rw [← hT]; rfl
  have hcell : (H.setIfInBounds (k_ad X b) (arrV (cx_A X 0) n1 (fun j => k_ev 0 (va_cpy f g sp.toNat dp.toNat nn.toNat j))))[k_ad X b]? = some (arrV (cx_A X 0) n1 (fun j => k_ev 0 (va_cpy f g sp.toNat dp.toNat nn.toNat j))) := by simp [Array.getElem?_setIfInBounds, hlt]
  have oq : ∀ q : Nat, q ≠ k_ad X b → (H.setIfInBounds (k_ad X b) (arrV (cx_A X 0) n1 (fun j => k_ev 0 (va_cpy f g sp.toNat dp.toNat nn.toNat j))))[q]? = H[q]? := fun q hq => by simp [Array.getElem?_setIfInBounds, Ne.symm hq]
  have hwf : k_wfC (.inl (0, n1, va_cpy f g sp.toNat dp.toNat nn.toNat)) := by
    refine ⟨hnb, fun j hj => ?_⟩
    show k_rg 0 (va_cpy f g sp.toNat dp.toNat nn.toNat j)
    unfold va_cpy
    split
    · exact hra _ (by omega)
    · exact hrb j hj
  obtain ⟨t9, a1, b1⟩ := kk hg X p e s mi args below meth c _ _ lj S (k_Rp_set (k_bz hKn) hR hb hb0 hwf (k_atA (by decide) hb0 hcell) (by simp) oq) (by simp; exact hz) (fun q hq => by
      rcases List.mem_append.mp hq with h9 | h9
      · exact hL q h9
      · obtain ⟨z9, -, hz9⟩ := List.mem_map.mp h9
        rw [← hz9]
        show cx_z X ≤ k_ad X b
        cases b with
        | zero => omega
        | succ b => simp [k_ad]) hl (fun w hw => hs w (by simp [hw])) hw _ hheap X'
  exact ⟨t9, step t9 a1, b1⟩
/-- a method's contract: from these arguments and this heap it ends as P says; it makes at most K cells of N slots; at most d calls stand open over it -/
def k_Ev (x : Bool) (d K N : Nat) (m : PM) (as : List PV) (h : PH) (P : PO → PH → Prop) : Prop :=
  k_gd m → ∀ X : Cx, (∀ v ∈ as, k_wfV v) → vx_Met (cx_l X) (pm_y m) (k_ws m) (k_rm d K N) (fun v U => v = (as.map (k_v X)).toArray ∧ k_Rp X x h U.heap ∧ k_Kn X U) (k_Q X x P) (k_XQ X P) K N (fun q => cx_z X ≤ q)
def k_en : List PV → List (Option PV)
  | [] => []
  | .inr (.inl z) :: t => some (vL z) :: none :: k_en t
  | v :: t => some v :: k_en t
theorem k_en_lv (X : Cx) : ∀ (as : List PV) (i : Nat), k_lv X i (k_en as) = lv_args i (as.map (k_v X)) ∧ (lg_sl (as.map (k_v X))).length = (k_en as).length
  | [], i => ⟨rfl, rfl⟩
  | v :: t, i => by
    rcases v with z | z | z | z
    · have := k_en_lv X t (i + 1)
      refine ⟨?_, ?_⟩
      · simp only [k_en, k_lv, List.map_cons, lv_args]
        rw [this.1]; rfl
      · simp only [k_en, List.map_cons, lg_sl, List.flatMap_cons, List.length_append, List.length_cons]
        rw [← this.2]; simp [k_v, Value.category, lg_sl]; omega
    · have := k_en_lv X t (i + 2)
      refine ⟨?_, ?_⟩
      · simp only [k_en, k_lv, List.map_cons, lv_args]
        rw [this.1]; rfl
      · simp only [k_en, List.map_cons, lg_sl, List.flatMap_cons, List.length_append, List.length_cons]
        rw [← this.2]; simp [k_v, Value.category, lg_sl]; omega
    · have := k_en_lv X t (i + 1)
      refine ⟨?_, ?_⟩
      · simp only [k_en, k_lv, List.map_cons, lv_args]
        rw [this.1]; rfl
      · simp only [k_en, List.map_cons, lg_sl, List.flatMap_cons, List.length_append, List.length_cons]
        rw [← this.2]; simp [k_v, Value.category, lg_sl]; omega
    · have := k_en_lv X t (i + 1)
      refine ⟨?_, ?_⟩
      · simp only [k_en, k_lv, List.map_cons, lv_args]
        rw [this.1]; rfl
      · simp only [k_en, List.map_cons, lg_sl, List.flatMap_cons, List.length_append, List.length_cons]
        rw [← this.2]; simp [k_v, Value.category, lg_sl]; omega
theorem k_en_mem : ∀ (as : List PV) (j : Nat) (v : PV), k_get (k_en as) j = some v → v ∈ as
  | [], j, v, h => by simp [k_en, k_get] at h
  | w :: t, j, v, h => by
    rcases w with z | z | z | z <;> rcases j with _ | j <;> simp only [k_en, k_get] at h
    · cases h; simp
    · exact List.mem_cons_of_mem _ (k_en_mem t j v h)
    · cases h; simp
    · rcases j with _ | j <;> simp only [k_get] at h
      · cases h
      · exact List.mem_cons_of_mem _ (k_en_mem t j v h)
    · cases h; simp
    · exact List.mem_cons_of_mem _ (k_en_mem t j v h)
    · cases h; simp
    · exact List.mem_cons_of_mem _ (k_en_mem t j v h)
theorem k_ent {as : List PV} (hlen : (k_en as).length ≤ pm_n m) (kk : k_Wp x d K N m P 0 0 0 (k_en as) [] h) : k_Ev x d K N m as h P := by
  intro hg X hwf
  have main : ∀ (p : Program) (e : Env) (s : State) (mi : MethodId) (args : Array Value) (below : List Frame) (meth : Method) (c : Code) (s₁ : State), BodyLoose p (cx_l X) (pm_y m) (headSpec (k_ws m) (k_rm d K N)) (pm_b m) (pm_n m) (pm_r m) e s mi args below meth c s₁ → c.maxLocals = pm_n m → c.exceptionTable.toList = tableOf (pm_h m) → (args = (as.map (k_v X)).toArray ∧ k_Rp X x h s.heap ∧ k_Kn X s) →
      W p (cx_l X) e (headSpec (k_ws m) (k_rm d K N)).room s mi args below meth c s.heap [] 0 0 (vx_MQ below (k_Q X x P) (k_XQ X P) args s K N (fun q => cx_z X ≤ q)) (entryFrame mi args (pm_n m)) := by
    intro p e s mi args below meth c s₁ B hml hex hpre
    obtain ⟨rfl, hR, hKn⟩ := hpre
    have hts := atoms_spec (ws := k_ws m) B.pre
    have hle := hR.2.2.1
    have hpos := hR.2.1
    rw [lg_entry_eq]
    have hl := lv_entry (as.map (k_v X)) (n := pm_n m) (by rw [(k_en_lv X as 0).2]; exact hlen)
    rw [← (k_en_lv X as 0).1] at hl
    exact kk hg X p e s mi _ below meth c s.heap [] _ ⟨B.exec, B.bytes, B.returns, hml, by rw [← hg.2.2.2]; exact findClass_of_methodNamed B.named, fun w hw => hts w (List.mem_cons_of_mem _ hw), B.notSynchronized, hex, (name_of_methodNamed B.named B.method).1, hKn, by omega, hR.1⟩ hR (Nat.le_refl _) (fun q hq => by cases hq) hl (fun v hv => by cases hv) (fun j v hj => hwf v (k_en_mem as j v hj))
  by_cases hh : pm_h m = []
  · refine vx_ofW (cc := pm_b m) (maxL := pm_n m) (ret := pm_r m) hg.2.2.1 (ws' := k_tb) (by unfold k_ws k_cw; rw [hh]) ?_
    intro p e s mi args below meth c s₁ B hml hex hpre
    exact main p e s mi args below meth c s₁ B hml (by rw [hh]; exact List.eq_nil_iff_forall_not_mem.mpr (fun q hq => hex q hq)) hpre
  · have hcw : k_cw m = Cond.codeWith (pm_y m) (pm_b m) (pm_n m) (pm_r m) (pm_h m) := by
      unfold k_cw
      split
      · rename_i e1; exact absurd e1 hh
      · rfl
    refine vx_ofWH (cc := pm_b m) (maxL := pm_n m) (ret := pm_r m) (hh := pm_h m) hg.2.2.1 (ws' := k_tb) (by unfold k_ws; rw [hcw]) ?_
    intro p e s mi args below meth c s₁ B hml hpre
    exact main p e s mi args below meth c s₁ B hml (vx_table (x := pm_y m) B (by have := atoms_spec (ws := k_ws m) B.pre _ List.mem_cons_self; rw [hcw] at this; exact this)) hpre
end Steps4
