/-! throws; the one switch over scattered numbers -/
def k_nms : List String := ["java/lang/RuntimeException", "java/lang/Exception"]
def k_ik : Nat → Nat × Nat
  | 0 => (107, 111)
  | 1 => (240, 244)
  | _ => (275, 279)
theorem k_thr_w : ∀ ei, ei < 3 → (vx_atS RX11 (k_ik ei).2 (k_E ei) k_nms).all (fun w => decide (w ∈ lw_tbl) && (goodWord w || k_isdc w) && vx_ot w) = true := by decide +kernel
theorem k_thr_f : ∀ ei, ei < 3 → Bundle.fit (k_E ei) = true := by decide +kernel
theorem k_thr_n : ∀ n ∈ k_nms, Bundle.fit n = true := by decide +kernel
theorem k_thr_l : ∀ ei, ei < 3 → Cond.classLink RX11 (k_ik ei).1 (k_E ei) ∈ lw_tbl ∧ Cond.initialized (k_E ei) ∈ lw_tbl := by decide +kernel
section Steps5
variable {x : Bool} {d K N : Nat} {m : PM} {P : PO → PH → Prop} {k n pc nx : Nat} {ls : List (Option PV)} {st : List PV} {h : PH}
theorem k_Rp_grow {X : Cx} {x : Bool} {h : PH} {H H1 : Heap} (hR : k_Rp X x h H) (hbz : cx_b X < cx_z X) (hz : H.size ≤ H1.size) (ho : ∀ q : Nat, q < H.size → H1[q]? = H[q]?) : k_Rp X false h H1 := by
  obtain ⟨r1, r2, r3, r4, r5⟩ := hR
  refine ⟨fun q hq => ?_, r2, by omega, fun hx => (by cases hx), fun a c ha => ?_⟩
  · rw [ho q (by omega)]; exact r1 q hq
  · obtain ⟨q1, q2, q3⟩ := r5 a c ha
    refine ⟨q1, q2, k_at_kept q3 (ho _ ?_)⟩
    cases a with
    | zero => show cx_b X < _; omega
    | succ a => show cx_z X + a < _; omega
theorem p_throw {z : Int} {is ic ei si wd : Nat} (hc : k_lk (pm_c m) pc = some ((49, z, is, ic, [ei, si, wd]), nx)) (hh : pm_h m = []) (hd1 : 6 ≤ d) (hcs : k_cs st ≤ 40) (hk : k + 1 ≤ K) (hn : n + 6 ≤ N) (hP : P (.inr (k_E ei)) h) : k_Wp x d K N m P k n pc ls st h := by
  intro hg X p e s mi args below meth c H locs lj S hR hz hL hl hs hw
  have h0 := k_at_chk hg hc
  simp only [k_chk, Bool.and_eq_true, Bool.or_eq_true, decide_eq_true_eq] at h0
  obtain ⟨⟨⟨⟨⟨ho, dd0⟩, dd3⟩, hex⟩, hst⟩, hwd⟩ := h0
  have hei : ei < 3 ∧ z.toNat = (k_ik ei).1 ∧ ic = (k_ik ei).2 := by
    rcases hex with (h9 | h9) | h9 <;> (cases h9; exact ⟨by decide, rfl, rfl⟩)
  obtain ⟨he3, hz1, rfl⟩ := hei
  rw [hz1] at dd0
  obtain ⟨q, hq, hq2⟩ := List.any_eq_true.mp hst
  simp only [Bool.and_eq_true, beq_iff_eq] at hq2
  obtain ⟨rfl, rfl⟩ := hq2
  have hKn := S.2.2.2.2.2.2.2.2.2.1
  have hstr := hKn.2.2.2.2.1 q hq
  have hown : s.vm.findClass RX11 = some mi.cls := by have := S.2.2.2.2.1; rw [ho] at this; exact this
  have tr : ∀ w, w ∈ lw_tbl → (goodWord w || k_isdc w) = true → w.before args s = true := fun w h1 h2 => by
    rcases Bool.or_eq_true _ _ |>.mp h2 with h3 | h3
    · exact S.2.2.2.2.2.1 w (List.mem_filter.mpr ⟨h1, h3⟩)
    · have h4 := hKn.2.2.2.2.2.2.2.2.2.2.2 w (List.mem_filter.mpr ⟨h1, h3⟩)
      cases w <;> first | exact va_Nw.use rfl h4 | (simp [k_isdc] at h3)
  have hw9 := fun w hw => List.all_eq_true.mp (k_thr_w ei he3) w hw
  simp only [Bool.and_eq_true, decide_eq_true_eq] at hw9
  obtain ⟨hk1, hk2⟩ := k_thr_l ei he3
  have hk1' := tr _ hk1 rfl
  have hk2' := tr _ hk2 rfl
  have hat : ∀ w ∈ vx_atS RX11 (k_ik ei).2 (k_E ei) k_nms, w.before args s = true := fun w hw => tr w (hw9 w hw).1.1 (by have := (hw9 w hw).1.2; simpa using this)
  have hgd : ∀ w ∈ Cond.classLink RX11 (k_ik ei).1 (k_E ei) :: Cond.initialized (k_E ei) :: vx_atS RX11 (k_ik ei).2 (k_E ei) k_nms, vx_ot w = true := by
    intro w hw
    rcases List.mem_cons.mp hw with rfl | hw
    · rfl
    rcases List.mem_cons.mp hw with rfl | hw
    · rfl
    · exact (hw9 w hw).2
  have hbz := k_bz hKn
  have hsz := hKn.2.2.2.2.2.2.2.2.1
  have hag : ∀ a : Nat, a < (cx_H X).size → ¬ (cx_z X ≤ a) → s.heap[a]? = (cx_H X)[a]? := fun a h1 _ => S.2.2.2.2.2.2.2.2.2.2.2 a (by omega)
  have hU := vx_Zq.kept hKn.2.2.1 hag
  have hN := vx_Zq.kept hKn.2.2.2.1 hag
  have hS : va_S (fun q => cx_z X ≤ q) s.heap H locs := ⟨hz, fun a h1 h2 => by
    have h2 : ¬ cx_z X ≤ a := h2
    rw [hR.1 a (by omega), S.2.2.2.2.2.2.2.2.2.2.2 a (by omega)], hL⟩
  have hout : ∀ y ∈ c.exceptionTable.toList, ∀ pc, covers y pc = false := by rw [S.2.2.2.2.2.2.2.1, hh]; intro z9 hz9; cases hz9
  have hx : ∀ t : State, s.vm.Alike t.vm → H.size ≤ t.heap.size → (∀ q : Nat, q < H.size → t.heap[q]? = H[q]?) → k_XQ X P (k_E ei) s t := fun t _ h1 h2 => ⟨h, hP, k_Rp_grow hR hbz h1 h2, Nat.le_trans hz h1⟩
  have hloc : ((st.map (k_v X)).map fun v => v.category).sum + (13 * (k_nms.length + 1) + 43) ≤ (k_rm d K N).locals := by
    rw [k_cs_eq]; show _ + (13 * 3 + 43) ≤ 64 * d; omega
  have hsl : lj.size = c.maxLocals := by rw [S.2.2.2.1]; exact hl.1
  cases wd with
  | zero =>
    simp only [Bool.and_eq_true, decide_eq_true_eq] at hwd
    obtain ⟨⟨d4, d6⟩, d9⟩ := hwd
    exact vx_throwS (A := fun q => cx_z X ≤ q) S.1 S.2.1 hKn.2.1 hown (k_thr_f ei he3) k_thr_n hk1' hk2' hstr hat hgd hU hN hS hsl dd0 dd3 d4 d6 d9 (fun y hy => hout y hy _) (by show 2 + 3 < d; omega) hloc hk hn S.2.2.2.2.2.2.1 hx hL hk hn
  | succ wd =>
    simp only [Bool.and_eq_true, decide_eq_true_eq] at hwd
    obtain ⟨⟨d4, d7⟩, d10⟩ := hwd
    exact vx_throwSW (A := fun q => cx_z X ≤ q) S.1 S.2.1 hKn.2.1 hown (k_thr_f ei he3) k_thr_n hk1' hk2' hstr hat hgd hU hN hS hsl dd0 dd3 d4 d7 d10 (fun y hy => hout y hy _) (by show 2 + 3 < d; omega) hloc hk hn S.2.2.2.2.2.2.1 hx hL hk hn
theorem p_lsw {u z : Int} {dt ln t0 t1 t2 t3 t4 t5 : Nat} (hc : k_lk (pm_c m) pc = some ((43, z, dt, ln, [t0, t1, t2, t3, t4, t5]), nx)) (kk : k_Wp x d K N m P k n (if u = 32 then t0 else if u = 40 then t1 else if u = 41 then t2 else if u = 91 then t3 else if u = 93 then t4 else if u = 124 then t5 else dt) ls st h) : k_Wp x d K N m P k n pc ls (vI u :: st) h := by
  intro hg X p e s mi args below meth c H locs lj S hR hz hL hl hs hw
  have h0 := k_at_chk hg hc
  simp only [k_chk, Bool.and_eq_true] at h0
  obtain ⟨hd, -⟩ := k_dc_ok h0.2
  have hi : iR u := hs _ List.mem_cons_self
  have hk2 := kk hg X p e s mi args below meth c H locs lj S hR hz hL hl (fun w hw => hs w (by simp [hw])) hw
  refine lv_lookup S.1 S.2.1 hd (by rfl) (tgt := if u = 32 then t0 else if u = 40 then t1 else if u = 41 then t2 else if u = 91 then t3 else if u = 93 then t4 else if u = 124 then t5 else dt) (off := k_jmp pc (if u = 32 then t0 else if u = 40 then t1 else if u = 41 then t2 else if u = 91 then t3 else if u = 93 then t4 else if u = 124 then t5 else dt)) ?_ (by unfold k_jmp; omega) hk2
  rw [n_t hi]
  have hne : ∀ (a b : Int), a ≠ b → (b = a) = False := fun a b hab => by simp [Ne.symm hab]
  simp only [Op.lookupswitch.offset_cons]
  by_cases e0 : u = 32
  · simp [e0]
  by_cases e1 : u = 40
  · simp [e1]
  by_cases e2 : u = 41
  · simp [e2]
  by_cases e3 : u = 91
  · simp [e3]
  by_cases e4 : u = 93
  · simp [e4]
  by_cases e5 : u = 124
  · simp [e5]
  simp [e0, e1, e2, e3, e4, e5, Ne.symm e0, Ne.symm e1, Ne.symm e2, Ne.symm e3, Ne.symm e4, Ne.symm e5, Op.lookupswitch.offset]
end Steps5
