/-! code, checked; what a method's run means; a row an instruction -/
def k_dc (b : ByteArray) (pc : Nat) (ins : Instr) (len nx : Nat) : Bool := decide (decode b pc = .ok (ins, len)) && (nx == pc + len)
def k_ic : Nat → Option Jvm.ClassFile.Cond
  | 0 => some .eq | 1 => some .ne | 2 => some .lt | 3 => some .ge | 4 => some .gt | 5 => some .le | _ => none
def k_f4 (j : Nat) : Fin 4 := Fin.ofNat 4 j
def k_fcode : FieldType → Nat
  | .int => 0 | .boolean => 1 | .object _ => 2 | .array _ => 2 | _ => 9
def k_jmp (pc : Nat) (t : Nat) : Int := (t : Int) - pc
def k_chk (m : PM) (pc : Nat) (i : PI) (nx : Nat) : Bool :=
  let b := pm_b m
  match i with
  | (0, z, a, _, _) => decide (iR z) && (k_dc b pc (.iconst z) 1 nx || (k_dc b pc (.bipush z) 2 nx && decide ((Int8.ofInt z).toInt32 = Int32.ofInt z)) || (k_dc b pc (.sipush z) 3 nx && decide ((Int16.ofInt z).toInt32 = Int32.ofInt z)) || (k_dc b pc (.ldc a) 2 nx && k_isct (pm_o m) a z))
  | (1, _, j, _, _) => (decide (j < 4) && k_dc b pc (.iload_n (k_f4 j)) 1 nx) || k_dc b pc (.iload j) 2 nx
  | (2, _, j, _, _) => (decide (j < 4) && k_dc b pc (.lload_n (k_f4 j)) 1 nx) || k_dc b pc (.lload j) 2 nx
  | (3, _, j, _, _) => (decide (j < 4) && k_dc b pc (.aload_n (k_f4 j)) 1 nx) || k_dc b pc (.aload j) 2 nx
  | (4, _, j, _, _) => decide (j < pm_n m) && ((decide (j < 4) && k_dc b pc (.istore_n (k_f4 j)) 1 nx) || k_dc b pc (.istore j) 2 nx)
  | (5, _, j, _, _) => decide (j + 1 < pm_n m) && ((decide (j < 4) && k_dc b pc (.lstore_n (k_f4 j)) 1 nx) || k_dc b pc (.lstore j) 2 nx)
  | (6, _, j, _, _) => decide (j < pm_n m) && ((decide (j < 4) && k_dc b pc (.astore_n (k_f4 j)) 1 nx) || k_dc b pc (.astore j) 2 nx)
  | (7, z, j, _, _) => decide (j < pm_n m) && k_dc b pc (.iinc j z) 3 nx
  | (8, _, _, _, _) => k_dc b pc .iadd 1 nx
  | (9, _, _, _, _) => k_dc b pc .isub 1 nx
  | (10, _, _, _, _) => k_dc b pc .imul 1 nx
  | (11, _, _, _, _) => k_dc b pc .idiv 1 nx
  | (12, _, _, _, _) => k_dc b pc .irem 1 nx
  | (13, _, _, _, _) => k_dc b pc .iand 1 nx
  | (14, _, _, _, _) => k_dc b pc .ishr 1 nx
  | (15, _, _, _, _) => k_dc b pc .iushr 1 nx
  | (16, _, _, _, _) => k_dc b pc .i2b 1 nx
  | (17, _, _, _, _) => k_dc b pc .i2l 1 nx
  | (18, _, _, _, _) => k_dc b pc .lshl 1 nx
  | (19, _, _, _, _) => k_dc b pc .ladd 1 nx
  | (20, _, _, _, _) => k_dc b pc .lcmp 1 nx
  | (21, z, _, _, _) => decide (z = 0) && k_dc b pc (.lconst 0) 1 nx
  | (22, z, ci, k, _) => k_dc b pc (.getfield z.toNat) 3 nx && k_isfl (pm_o m) z.toNat ci k
  | (23, z, ci, k, t) => k_dc b pc (.putfield z.toNat) 3 nx && k_isfl (pm_o m) z.toNat ci k && decide (t = [k_fcode (k_ty ci k)]) && (match k_cl[ci]? with | some r => !(r.2.1 k).2.2.2 || (decide ((pm_y m).name = "<init>") && decide ((r.2.1 k).1 = k_R (pm_o m))) | none => false)
  | (24, _, _, _, _) => k_dc b pc .iaload 1 nx
  | (25, _, _, _, _) => k_dc b pc .iastore 1 nx
  | (26, _, _, _, _) => k_dc b pc .baload 1 nx
  | (27, _, _, _, _) => k_dc b pc .bastore 1 nx
  | (28, _, _, _, _) => k_dc b pc .laload 1 nx
  | (29, _, _, _, _) => k_dc b pc .lastore 1 nx
  | (30, _, _, _, _) => k_dc b pc .arraylength 1 nx
  | (31, _, c, t, _) => match k_ic c with | some c => k_dc b pc (.if_icmp c (k_jmp pc t)) 3 nx | none => false
  | (32, _, c, t, _) => match k_ic c with | some c => k_dc b pc (.ifCond c (k_jmp pc t)) 3 nx | none => false
  | (33, _, _, t, _) => k_dc b pc (.goto (k_jmp pc t)) 3 nx
  | (34, _, _, _, _) => k_dc b pc .dup 1 nx
  | (35, _, _, _, _) => k_dc b pc .dup2 1 nx
  | (36, _, _, _, _) => k_dc b pc .ireturn 1 nx
  | (37, _, _, _, _) => k_dc b pc .lreturn 1 nx
  | (38, _, _, _, _) => k_dc b pc .areturn 1 nx
  | (39, _, _, _, _) => k_dc b pc .return_ 1 nx
  | (40, z, ci, _, _) => k_dc b pc (.new z.toNat) 3 nx && k_isnw (pm_o m) z.toNat ci
  | (41, _, kd, _, _) => match kd with | 0 => k_dc b pc (.newarray .int) 2 nx | 1 => k_dc b pc (.newarray .byte) 2 nx | 2 => k_dc b pc (.newarray .boolean) 2 nx | 3 => k_dc b pc (.newarray .long) 2 nx | _ => false
  | (42, lo, dt, ln, ts) => k_dc b pc (.tableswitch (k_jmp pc dt) lo (lo + ts.length - 1) (ts.map (k_jmp pc)).toArray) ln nx
  | (44, z, _, _, _) => k_dc b pc (.invokestatic z.toNat) 3 nx && k_ismn (pm_o m) z.toNat
  | (45, z, _, _, _) => k_dc b pc (.invokestatic z.toNat) 3 nx && k_ismx (pm_o m) z.toNat
  | (46, z, _, _, _) => k_dc b pc (.invokestatic z.toNat) 3 nx && k_iscp (pm_o m) z.toNat
  | (47, z, _, _, _) => k_dc b pc (.invokespecial z.toNat) 3 nx && k_isoi (pm_o m) z.toNat
  | (48, z, kd, _, _) => match kd with | 0 => k_dc b pc (.invokevirtual z.toNat) 3 nx | 1 => k_dc b pc (.invokestatic z.toNat) 3 nx | 2 => k_dc b pc (.invokespecial z.toNat) 3 nx | _ => false
  | (49, z, is, ic, [ei, si, wd]) => decide (pm_o m = 11) && decide (decode b pc = .ok (.new z.toNat, 3)) && decide (decode b (pc + 3) = .ok (.dup, 1)) && (decide ((ei, z, ic) = (0, 107, 111)) || decide ((ei, z, ic) = (1, 240, 244)) || decide ((ei, z, ic) = (2, 275, 279))) && k_strs.any (fun q => q.1 == is && q.2.2 == si) &&
    (match wd with
     | 0 => decide (decode b (pc + 4) = .ok (.ldc is, 2)) && decide (decode b (pc + 6) = .ok (.invokespecial ic, 3)) && decide (decode b (pc + 9) = .ok (.athrow, 1))
     | _ => decide (decode b (pc + 4) = .ok (.ldc_w is, 3)) && decide (decode b (pc + 7) = .ok (.invokespecial ic, 3)) && decide (decode b (pc + 10) = .ok (.athrow, 1)))
  | (43, z, dt, ln, [t0, t1, t2, t3, t4, t5]) => decide (z = 0) && k_dc b pc (.lookupswitch (k_jmp pc dt) #[(32, k_jmp pc t0), (40, k_jmp pc t1), (41, k_jmp pc t2), (91, k_jmp pc t3), (93, k_jmp pc t4), (124, k_jmp pc t5)]) ln nx
  | _ => false
theorem k_dc_ok {b : ByteArray} {pc : Nat} {ins : Instr} {len nx : Nat} (h : k_dc b pc ins len nx = true) : decode b pc = .ok (ins, len) ∧ nx = pc + len := by
  simp only [k_dc, Bool.and_eq_true, decide_eq_true_eq, beq_iff_eq] at h
  exact h
def k_lk : List (Nat × PI × Nat) → Nat → Option (PI × Nat)
  | [], _ => none
  | q :: t, pc => if q.1 == pc then some q.2 else k_lk t pc
theorem k_lk_mem : ∀ (l : List (Nat × PI × Nat)) (pc : Nat) (i : PI) (nx : Nat), k_lk l pc = some (i, nx) → (pc, i, nx) ∈ l
  | [], pc, i, nx, h => by simp [k_lk] at h
  | (q1, q2) :: t, pc, i, nx, h => by
    unfold k_lk at h
    split at h
    · rename_i h1
      simp only [beq_iff_eq] at h1
      have h2 : q2 = (i, nx) := Option.some.inj h
      subst h1
      rw [h2]
      exact List.mem_cons_self
    · exact List.mem_cons_of_mem _ (k_lk_mem t pc i nx h)
/-- the method's own word -/
def k_cw (m : PM) : Cond := match pm_h m with
  | [] => .code (pm_y m) (pm_b m) (pm_n m) (pm_r m)
  | hh => .codeWith (pm_y m) (pm_b m) (pm_n m) (pm_r m) hh
def k_ws (m : PM) : List Cond := k_cw m :: k_tb
def k_ca (m : PM) : Bool := (pm_c m).all (fun q => k_chk m q.1 q.2.1 q.2.2)
/-- the method's text is the machine's -/
def k_gd (m : PM) : Prop := k_ca m = true ∧ True ∧ plainName (pm_y m).cls = true ∧ (pm_y m).cls = k_R (pm_o m)
/-- and its word stands in the tables -/
def k_good (m : PM) : Prop := k_ca m = true ∧ k_cw m ∈ k_tb ∧ plainName (pm_y m).cls = true ∧ (pm_y m).cls = k_R (pm_o m)
theorem k_good.z {m : PM} (h : k_good m) : k_gd m := ⟨h.1, trivial, h.2.2⟩
theorem k_at_chk {m : PM} {pc : Nat} {i : PI} {nx : Nat} (hg : k_gd m) (h : k_lk (pm_c m) pc = some (i, nx)) : k_chk m pc i nx = true :=
  List.all_eq_true.mp hg.1 _ (k_lk_mem _ _ _ _ h)
def k_rm (d K N : Nat) : Room := { frames := d, cells := K, slots := N, locals := 64 * d }
def k_Q (X : Cx) (x : Bool) (P : PO → PH → Prop) : Array Value → State → Outcome → State → Prop := fun _ st oc t =>
  ∃ (r : Option PV) (h : PH), oc = .returned (r.map (k_v X)) ∧ P (.inl r) h ∧ (∀ v, r = some v → k_wfV v) ∧ k_Rp X x h t.heap ∧ st.heap.size ≤ t.heap.size
def k_XQ (X : Cx) (P : PO → PH → Prop) : String → State → State → Prop := fun E st t =>
  ∃ h : PH, P (.inr E) h ∧ k_Rp X false h t.heap ∧ st.heap.size ≤ t.heap.size
/-- the setting of a method's run -/
def k_Set (X : Cx) (m : PM) (p : Program) (s : State) (mi : MethodId) (args : Array Value) (meth : Method) (c : Code) : Prop :=
  p.tables.exec = Jvm.exec ∧ c.code = pm_b m ∧ meth.sig.returnType = pm_r m ∧ c.maxLocals = pm_n m ∧ s.vm.findClass (k_R (pm_o m)) = some mi.cls ∧
  (∀ w ∈ k_tb, w.before args s = true) ∧ meth.locks = false ∧ c.exceptionTable.toList = tableOf (pm_h m) ∧ meth.name = (pm_y m).name ∧ k_Kn X s ∧
  cx_z X ≤ s.heap.size ∧ ∀ q : Nat, q < cx_z X → s.heap[q]? = (cx_H X)[q]?
/-- from here on the method ends as P says -/
def k_Wp (x : Bool) (d K N : Nat) (m : PM) (P : PO → PH → Prop) (k n pc : Nat) (ls : List (Option PV)) (st : List PV) (h : PH) : Prop :=
  k_gd m → ∀ (X : Cx) (p : Program) (e : Env) (s : State) (mi : MethodId) (args : Array Value) (below : List Frame) (meth : Method) (c : Code) (H : Heap) (locs : List Loc) (lj : Array Slot),
    k_Set X m p s mi args meth c → k_Rp X x h H → s.heap.size ≤ H.size → (∀ q ∈ locs, cx_z X ≤ q.base) → lv_has lj (pm_n m) (k_lv X 0 ls) → (∀ v ∈ st, k_wfV v) → (∀ j v, k_get ls j = some v → k_wfV v) →
    W p (cx_l X) e (k_rm d K N) s mi args below meth c H locs k n (vx_MQ below (k_Q X x P) (k_XQ X P) args s K N (fun q => cx_z X ≤ q)) (F0 mi pc lj (st.map (k_v X)))
section Steps1
variable {x : Bool} {d K N : Nat} {m : PM} {P : PO → PH → Prop} {k n pc nx : Nat} {ls : List (Option PV)} {st : List PV} {h : PH}
theorem p_push {z : Int} {a b : Nat} {t : List Nat} (hc : k_lk (pm_c m) pc = some ((0, z, a, b, t), nx)) (kk : k_Wp x d K N m P k n nx ls (vI z :: st) h) : k_Wp x d K N m P k n pc ls st h := by
  intro hg X p e s mi args below meth c H locs lj S hR hz hL hl hs hw
  have h0 := k_at_chk hg hc
  simp only [k_chk, Bool.and_eq_true, Bool.or_eq_true, decide_eq_true_eq] at h0
  obtain ⟨hr, h0⟩ := h0
  have hk := kk hg X p e s mi args below meth c H locs lj S hR hz hL hl (by
    intro v hv
    rcases List.mem_cons.mp hv with rfl | hv
    · exact hr
    · exact hs v hv) hw
  rcases h0 with ((h0 | ⟨h0, h1⟩) | ⟨h0, h1⟩) | ⟨h0, h1⟩
  · obtain ⟨hd, rfl⟩ := k_dc_ok h0
    exact lv_iconst S.1 S.2.1 hd rfl hk
  · obtain ⟨hd, rfl⟩ := k_dc_ok h0
    exact lv_bipush S.1 S.2.1 hd h1 hk
  · obtain ⟨hd, rfl⟩ := k_dc_ok h0
    exact lv_sipush S.1 S.2.1 hd h1 hk
  · obtain ⟨hd, rfl⟩ := k_dc_ok h0
    exact W.ldc S.1 S.2.1 S.2.2.2.2.1 (S.2.2.2.2.2.1 _ (k_isct_ok h1)) rfl hd hk
theorem k_f4v {j : Nat} (h : j < 4) : ((k_f4 j : Fin 4) : Nat) = j := by
  show j % 4 = j
  omega
theorem k_lvat {X : Cx} {lj : Array Slot} {nL j : Nat} {v : PV} (hl : lv_has lj nL (k_lv X 0 ls)) (h : k_get ls j = some v) : lj[j]? = some (.val (k_v X v)) := by
  have := hl.2.2 (0 + j, k_v X v) ((k_lv_mem ls 0 _).mpr ⟨j, v, h, rfl⟩)
  simpa using this
theorem k_wcons {v : PV} {st : List PV} (h1 : k_wfV v) (h2 : ∀ v ∈ st, k_wfV v) : ∀ w ∈ v :: st, k_wfV w := fun w hw => (List.mem_cons.mp hw).elim (fun e => e ▸ h1) (h2 w)
theorem p_iload {z : Int} {j b : Nat} {y : Int} {t : List Nat} (hc : k_lk (pm_c m) pc = some ((1, y, j, b, t), nx)) (hj : k_get ls j = some (vI z)) (kk : k_Wp x d K N m P k n nx ls (vI z :: st) h) : k_Wp x d K N m P k n pc ls st h := by
  intro hg X p e s mi args below meth c H locs lj S hR hz hL hl hs hw
  have h0 := k_at_chk hg hc
  simp only [k_chk, Bool.and_eq_true, Bool.or_eq_true, decide_eq_true_eq] at h0
  have hk := kk hg X p e s mi args below meth c H locs lj S hR hz hL hl (k_wcons (hw j _ hj) hs) hw
  rcases h0 with ⟨h1, h0⟩ | h0
  · obtain ⟨hd, rfl⟩ := k_dc_ok h0
    exact lv_iload_n S.1 S.2.1 hd (k_f4v h1) (k_lvat hl hj) hk
  · obtain ⟨hd, rfl⟩ := k_dc_ok h0
    exact lv_iload S.1 S.2.1 hd (k_lvat hl hj) hk
theorem p_lload {z : Int} {j b : Nat} {y : Int} {t : List Nat} (hc : k_lk (pm_c m) pc = some ((2, y, j, b, t), nx)) (hj : k_get ls j = some (vL z)) (kk : k_Wp x d K N m P k n nx ls (vL z :: st) h) : k_Wp x d K N m P k n pc ls st h := by
  intro hg X p e s mi args below meth c H locs lj S hR hz hL hl hs hw
  have h0 := k_at_chk hg hc
  simp only [k_chk, Bool.and_eq_true, Bool.or_eq_true, decide_eq_true_eq] at h0
  have hk := kk hg X p e s mi args below meth c H locs lj S hR hz hL hl (k_wcons (hw j _ hj) hs) hw
  rcases h0 with ⟨h1, h0⟩ | h0
  · obtain ⟨hd, rfl⟩ := k_dc_ok h0
    exact lv_lload_n S.1 S.2.1 hd (k_f4v h1) (k_lvat hl hj) hk
  · obtain ⟨hd, rfl⟩ := k_dc_ok h0
    exact lv_lload S.1 S.2.1 hd (k_lvat hl hj) hk
theorem p_aload {z : Nat} {j b : Nat} {y : Int} {t : List Nat} (hc : k_lk (pm_c m) pc = some ((3, y, j, b, t), nx)) (hj : k_get ls j = some (vR z)) (kk : k_Wp x d K N m P k n nx ls (vR z :: st) h) : k_Wp x d K N m P k n pc ls st h := by
  intro hg X p e s mi args below meth c H locs lj S hR hz hL hl hs hw
  have h0 := k_at_chk hg hc
  simp only [k_chk, Bool.and_eq_true, Bool.or_eq_true, decide_eq_true_eq] at h0
  have hk := kk hg X p e s mi args below meth c H locs lj S hR hz hL hl (k_wcons (hw j _ hj) hs) hw
  rcases h0 with ⟨h1, h0⟩ | h0
  · obtain ⟨hd, rfl⟩ := k_dc_ok h0
    exact lv_aload_n S.1 S.2.1 hd (k_f4v h1) (k_lvat hl hj) hk
  · obtain ⟨hd, rfl⟩ := k_dc_ok h0
    exact lv_aload S.1 S.2.1 hd (k_lvat hl hj) hk
theorem k_wput {j : Nat} {v : PV} (h1 : k_wfV v) (h2 : ∀ i w, k_get ls i = some w → k_wfV w) : ∀ i w, k_get (k_put ls j v) i = some w → k_wfV w := fun i w hw => by
  rcases k_get_put ls j v i w hw with ⟨-, rfl⟩ | ⟨-, h3, -⟩
  · exact h1
  · exact h2 i w h3
theorem p_istore {z : Int} {j b : Nat} {y : Int} {t : List Nat} (hc : k_lk (pm_c m) pc = some ((4, y, j, b, t), nx)) (kk : k_Wp x d K N m P k n nx (k_put ls j (vI z)) st h) : k_Wp x d K N m P k n pc ls (vI z :: st) h := by
  intro hg X p e s mi args below meth c H locs lj S hR hz hL hl hs hw
  have h0 := k_at_chk hg hc
  simp only [k_chk, Bool.and_eq_true, Bool.or_eq_true, decide_eq_true_eq] at h0
  have hk := fun lj2 h2 => kk hg X p e s mi args below meth c H locs lj2 S hR hz hL (k_lv_put1 h2) (fun v hv => hs v (List.mem_cons_of_mem _ hv)) (k_wput (hs _ List.mem_cons_self) hw)
  obtain ⟨h2, h0⟩ := h0
  rcases h0 with ⟨h1, h0⟩ | h0
  · obtain ⟨hd, rfl⟩ := k_dc_ok h0
    exact lv_istore_n S.1 S.2.1 hd (k_f4v h1) hl h2 rfl hk
  · obtain ⟨hd, rfl⟩ := k_dc_ok h0
    exact lv_istore S.1 S.2.1 hd hl h2 rfl hk
theorem p_lstore {z : Int} {j b : Nat} {y : Int} {t : List Nat} (hc : k_lk (pm_c m) pc = some ((5, y, j, b, t), nx)) (kk : k_Wp x d K N m P k n nx (k_clr (k_put ls j (vL z)) (j + 1)) st h) : k_Wp x d K N m P k n pc ls (vL z :: st) h := by
  intro hg X p e s mi args below meth c H locs lj S hR hz hL hl hs hw
  have h0 := k_at_chk hg hc
  simp only [k_chk, Bool.and_eq_true, Bool.or_eq_true, decide_eq_true_eq] at h0
  have hk := fun lj2 h2 => kk hg X p e s mi args below meth c H locs lj2 S hR hz hL (k_lv_put2 h2) (fun v hv => hs v (List.mem_cons_of_mem _ hv)) (fun i w hi => k_wput (hs _ List.mem_cons_self) hw i w (k_get_clr _ _ _ _ hi).2)
  obtain ⟨h2, h0⟩ := h0
  rcases h0 with ⟨h1, h0⟩ | h0
  · obtain ⟨hd, rfl⟩ := k_dc_ok h0
    exact lv_lstore_n S.1 S.2.1 hd (k_f4v h1) hl h2 rfl hk
  · obtain ⟨hd, rfl⟩ := k_dc_ok h0
    exact lv_lstore S.1 S.2.1 hd hl h2 rfl hk
theorem p_astore {z : Nat} {j b : Nat} {y : Int} {t : List Nat} (hc : k_lk (pm_c m) pc = some ((6, y, j, b, t), nx)) (kk : k_Wp x d K N m P k n nx (k_put ls j (vR z)) st h) : k_Wp x d K N m P k n pc ls (vR z :: st) h := by
  intro hg X p e s mi args below meth c H locs lj S hR hz hL hl hs hw
  have h0 := k_at_chk hg hc
  simp only [k_chk, Bool.and_eq_true, Bool.or_eq_true, decide_eq_true_eq] at h0
  have hk := fun lj2 h2 => kk hg X p e s mi args below meth c H locs lj2 S hR hz hL (k_lv_put1 h2) (fun v hv => hs v (List.mem_cons_of_mem _ hv)) (k_wput (hs _ List.mem_cons_self) hw)
  obtain ⟨h2, h0⟩ := h0
  rcases h0 with ⟨h1, h0⟩ | h0
  · obtain ⟨hd, rfl⟩ := k_dc_ok h0
    exact lv_astore_n S.1 S.2.1 hd (k_f4v h1) hl h2 rfl hk
  · obtain ⟨hd, rfl⟩ := k_dc_ok h0
    exact lv_astore S.1 S.2.1 hd hl h2 rfl hk
theorem p_iinc {z y : Int} {j b : Nat} {t : List Nat} (hc : k_lk (pm_c m) pc = some ((7, z, j, b, t), nx)) (hj : k_get ls j = some (vI y)) (hr : iR (y + z)) (kk : k_Wp x d K N m P k n nx (k_put ls j (vI (y + z))) st h) : k_Wp x d K N m P k n pc ls st h := by
  intro hg X p e s mi args below meth c H locs lj S hR hz hL hl hs hw
  have h0 := k_at_chk hg hc
  simp only [k_chk, Bool.and_eq_true, decide_eq_true_eq] at h0
  have hk := fun lj2 h2 => kk hg X p e s mi args below meth c H locs lj2 S hR hz hL (k_lv_put1 h2) hs (k_wput hr hw)
  obtain ⟨h2, h0⟩ := h0
  obtain ⟨hd, rfl⟩ := k_dc_ok h0
  obtain ⟨q, hq⟩ := List.getElem?_of_mem ((k_lv_mem (X := X) ls 0 (0 + j, k_v X (vI y))).mpr ⟨j, vI y, hj, rfl⟩)
  rw [Nat.zero_add] at hq
  exact lv_iinc (v := Int32.ofInt (y + z)) S.1 S.2.1 hd hl hq (Int32.ofInt_add y z).symm h2 rfl hk
theorem p_iadd {u v a : Int} {b1 b2 : Nat} {t : List Nat} (hc : k_lk (pm_c m) pc = some ((8, a, b1, b2, t), nx)) (hr : iR (u + v)) (kk : k_Wp x d K N m P k n nx ls (vI (u + v) :: st) h) : k_Wp x d K N m P k n pc ls (vI v :: vI u :: st) h := by
  intro hg X p e s mi args below meth c H locs lj S hR hz hL hl hs hw
  obtain ⟨hd, rfl⟩ := k_dc_ok (k_at_chk hg hc)
  have hk := kk hg X p e s mi args below meth c H locs lj S hR hz hL hl (k_wcons hr (fun w hw => hs w (by simp [hw]))) hw
  refine lv_iadd S.1 S.2.1 hd ?_
  rw [← Int32.ofInt_add]
  exact hk
theorem p_isub {u v a : Int} {b1 b2 : Nat} {t : List Nat} (hc : k_lk (pm_c m) pc = some ((9, a, b1, b2, t), nx)) (hr : iR (u - v)) (kk : k_Wp x d K N m P k n nx ls (vI (u - v) :: st) h) : k_Wp x d K N m P k n pc ls (vI v :: vI u :: st) h := by
  intro hg X p e s mi args below meth c H locs lj S hR hz hL hl hs hw
  obtain ⟨hd, rfl⟩ := k_dc_ok (k_at_chk hg hc)
  have hk := kk hg X p e s mi args below meth c H locs lj S hR hz hL hl (k_wcons hr (fun w hw => hs w (by simp [hw]))) hw
  refine lv_isub S.1 S.2.1 hd ?_
  rw [← Int32.ofInt_sub]
  exact hk
theorem p_imul {u v a : Int} {b1 b2 : Nat} {t : List Nat} (hc : k_lk (pm_c m) pc = some ((10, a, b1, b2, t), nx)) (hr : iR (u * v)) (kk : k_Wp x d K N m P k n nx ls (vI (u * v) :: st) h) : k_Wp x d K N m P k n pc ls (vI v :: vI u :: st) h := by
  intro hg X p e s mi args below meth c H locs lj S hR hz hL hl hs hw
  obtain ⟨hd, rfl⟩ := k_dc_ok (k_at_chk hg hc)
  have hk := kk hg X p e s mi args below meth c H locs lj S hR hz hL hl (k_wcons hr (fun w hw => hs w (by simp [hw]))) hw
  refine lv_imul S.1 S.2.1 hd ?_
  rw [← Int32.ofInt_mul]
  exact hk
theorem k_rdiv {u v : Int} (hu : iR u) (h0 : 0 ≤ u) (h1 : 0 < v) : iR (u / v) := by
  have a := Int.ediv_nonneg h0 (Int.le_of_lt h1)
  have b := Int.ediv_le_self v h0
  exact ⟨by omega, by have := hu.2; omega⟩
theorem k_rmod {u v : Int} (hv : iR v) (h1 : 0 < v) : iR (u % v) := by
  have a := Int.emod_nonneg u (Int.ne_of_gt h1)
  have b := Int.emod_lt_of_pos u h1
  exact ⟨by omega, by have := hv.2; omega⟩
theorem p_idiv {u v a : Int} {b1 b2 : Nat} {t : List Nat} (hc : k_lk (pm_c m) pc = some ((11, a, b1, b2, t), nx)) (h0 : 0 ≤ u) (h1 : 0 < v) (kk : k_Wp x d K N m P k n nx ls (vI (u / v) :: st) h) : k_Wp x d K N m P k n pc ls (vI v :: vI u :: st) h := by
  intro hg X p e s mi args below meth c H locs lj S hR hz hL hl hs hw
  obtain ⟨hd, rfl⟩ := k_dc_ok (k_at_chk hg hc)
  have hv : iR v := hs _ List.mem_cons_self
  have hu : iR u := hs (vI u) (by simp)
  have hk := kk hg X p e s mi args below meth c H locs lj S hR hz hL hl (k_wcons (k_rdiv hu h0 h1) (fun w hw => hs w (by simp [hw]))) hw
  refine lv_idiv S.1 S.2.1 hd (by rw [n_eq0 hv]; omega) ?_
  rw [n_div hu hv h0 h1]
  exact hk
theorem p_irem {u v a : Int} {b1 b2 : Nat} {t : List Nat} (hc : k_lk (pm_c m) pc = some ((12, a, b1, b2, t), nx)) (h0 : 0 ≤ u) (h1 : 0 < v) (kk : k_Wp x d K N m P k n nx ls (vI (u % v) :: st) h) : k_Wp x d K N m P k n pc ls (vI v :: vI u :: st) h := by
  intro hg X p e s mi args below meth c H locs lj S hR hz hL hl hs hw
  obtain ⟨hd, rfl⟩ := k_dc_ok (k_at_chk hg hc)
  have hv : iR v := hs _ List.mem_cons_self
  have hu : iR u := hs (vI u) (by simp)
  have hk := kk hg X p e s mi args below meth c H locs lj S hR hz hL hl (k_wcons (k_rmod hv h1) (fun w hw => hs w (by simp [hw]))) hw
  refine lv_irem S.1 S.2.1 hd (by rw [n_eq0 hv]; omega) ?_
  rw [n_rem hu hv h0 h1]
  exact hk
theorem p_iand {u v a : Int} {b1 b2 : Nat} {t : List Nat} (hc : k_lk (pm_c m) pc = some ((13, a, b1, b2, t), nx)) (hm : v = 255 ∨ v = 31) (kk : k_Wp x d K N m P k n nx ls (vI (u % (v + 1)) :: st) h) : k_Wp x d K N m P k n pc ls (vI v :: vI u :: st) h := by
  intro hg X p e s mi args below meth c H locs lj S hR hz hL hl hs hw
  obtain ⟨hd, rfl⟩ := k_dc_ok (k_at_chk hg hc)
  have hk := kk hg X p e s mi args below meth c H locs lj S hR hz hL hl (k_wcons (show iR _ by rcases hm with rfl | rfl <;> constructor <;> omega) (fun w hw => hs w (by simp [hw]))) hw
  refine lv_iand S.1 S.2.1 hd ?_
  rcases hm with rfl | rfl
  · rw [n_and255]; exact hk
  · rw [n_and31]; exact hk
theorem p_ishr {u v a : Int} {b1 b2 : Nat} {t : List Nat} (hc : k_lk (pm_c m) pc = some ((14, a, b1, b2, t), nx)) (h0 : 0 ≤ v) (h1 : v < 32) (kk : k_Wp x d K N m P k n nx ls (vI (u / 2 ^ v.toNat) :: st) h) : k_Wp x d K N m P k n pc ls (vI v :: vI u :: st) h := by
  intro hg X p e s mi args below meth c H locs lj S hR hz hL hl hs hw
  obtain ⟨hd, rfl⟩ := k_dc_ok (k_at_chk hg hc)
  have hu : iR u := hs (vI u) (by simp)
  have hr : iR (u / 2 ^ v.toNat) := by
    have := n_t (z := u) hu
    have e := n_shr hu h0 h1
    have e2 := congrArg Int32.toInt e
    have hp : (0 : Int) < 2 ^ v.toNat := Int.pow_pos (by decide)
    have h2 : (1 : Int) ≤ 2 ^ v.toNat := hp
    refine ⟨?_, ?_⟩
    · rw [Int.le_ediv_iff_mul_le hp]
      have h3 : (-2147483648 : Int) * 2 ^ v.toNat ≤ -2147483648 * 1 := Int.mul_le_mul_of_nonpos_left (by decide) h2
      have := hu.1; omega
    · apply Int.le_of_lt_add_one
      rw [Int.ediv_lt_iff_lt_mul hp]
      have h3 : (2147483648 : Int) * 1 ≤ 2147483648 * 2 ^ v.toNat := Int.mul_le_mul_of_nonneg_left h2 (by decide)
      have := hu.2; omega
  have hk := kk hg X p e s mi args below meth c H locs lj S hR hz hL hl (k_wcons hr (fun w hw => hs w (by simp [hw]))) hw
  refine lv_ishr S.1 S.2.1 hd ?_
  rw [n_shr hu h0 h1]
  exact hk
theorem p_iushr {u v a : Int} {b1 b2 : Nat} {t : List Nat} (hc : k_lk (pm_c m) pc = some ((15, a, b1, b2, t), nx)) (h0 : 0 ≤ v) (h1 : v < 32) (kk : k_Wp x d K N m P k n nx ls (vI (k_ushr u v.toNat) :: st) h) : k_Wp x d K N m P k n pc ls (vI v :: vI u :: st) h := by
  intro hg X p e s mi args below meth c H locs lj S hR hz hL hl hs hw
  obtain ⟨hd, rfl⟩ := k_dc_ok (k_at_chk hg hc)
  obtain ⟨e1, hr⟩ := n_ushr (x := u) h0 h1
  have hk := kk hg X p e s mi args below meth c H locs lj S hR hz hL hl (k_wcons hr (fun w hw => hs w (by simp [hw]))) hw
  exact lv_iushr S.1 S.2.1 hd e1 hk
theorem p_i2b {u a : Int} {b1 b2 : Nat} {t : List Nat} (hc : k_lk (pm_c m) pc = some ((16, a, b1, b2, t), nx)) (kk : k_Wp x d K N m P k n nx ls (vI (k_i2b u) :: st) h) : k_Wp x d K N m P k n pc ls (vI u :: st) h := by
  intro hg X p e s mi args below meth c H locs lj S hR hz hL hl hs hw
  obtain ⟨hd, rfl⟩ := k_dc_ok (k_at_chk hg hc)
  obtain ⟨e1, h1, h2⟩ := n_i2b (x := u) (hs _ List.mem_cons_self)
  have hk := kk hg X p e s mi args below meth c H locs lj S hR hz hL hl (k_wcons (show iR _ from ⟨by omega, by omega⟩) (fun w hw => hs w (by simp [hw]))) hw
  exact lv_i2b S.1 S.2.1 hd e1 hk
theorem p_i2l {u a : Int} {b1 b2 : Nat} {t : List Nat} (hc : k_lk (pm_c m) pc = some ((17, a, b1, b2, t), nx)) (kk : k_Wp x d K N m P k n nx ls (vL u :: st) h) : k_Wp x d K N m P k n pc ls (vI u :: st) h := by
  intro hg X p e s mi args below meth c H locs lj S hR hz hL hl hs hw
  obtain ⟨hd, rfl⟩ := k_dc_ok (k_at_chk hg hc)
  have hu : iR u := hs _ List.mem_cons_self
  have hk := kk hg X p e s mi args below meth c H locs lj S hR hz hL hl (k_wcons (show lR u from ⟨by have := hu.1; omega, by have := hu.2; omega⟩) (fun w hw => hs w (by simp [hw]))) hw
  exact lv_i2l S.1 S.2.1 hd (n_i2l hu) hk
theorem p_lshl {u v a : Int} {b1 b2 : Nat} {t : List Nat} (hc : k_lk (pm_c m) pc = some ((18, a, b1, b2, t), nx)) (h0 : v = 5) (hr : lR (u * 32)) (kk : k_Wp x d K N m P k n nx ls (vL (u * 32) :: st) h) : k_Wp x d K N m P k n pc ls (vI v :: vL u :: st) h := by
  intro hg X p e s mi args below meth c H locs lj S hR hz hL hl hs hw
  obtain ⟨hd, rfl⟩ := k_dc_ok (k_at_chk hg hc)
  subst h0
  have hk := kk hg X p e s mi args below meth c H locs lj S hR hz hL hl (k_wcons hr (fun w hw => hs w (by simp [hw]))) hw
  exact lv_lshl S.1 S.2.1 hd (n_shl5 u) hk
theorem p_ladd {u v a : Int} {b1 b2 : Nat} {t : List Nat} (hc : k_lk (pm_c m) pc = some ((19, a, b1, b2, t), nx)) (hr : lR (u + v)) (kk : k_Wp x d K N m P k n nx ls (vL (u + v) :: st) h) : k_Wp x d K N m P k n pc ls (vL v :: vL u :: st) h := by
  intro hg X p e s mi args below meth c H locs lj S hR hz hL hl hs hw
  obtain ⟨hd, rfl⟩ := k_dc_ok (k_at_chk hg hc)
  have hk := kk hg X p e s mi args below meth c H locs lj S hR hz hL hl (k_wcons hr (fun w hw => hs w (by simp [hw]))) hw
  refine lv_ladd S.1 S.2.1 hd ?_
  rw [← Int64.ofInt_add]
  exact hk
theorem p_lcmp {u v a : Int} {b1 b2 : Nat} {t : List Nat} (hc : k_lk (pm_c m) pc = some ((20, a, b1, b2, t), nx)) (kk : k_Wp x d K N m P k n nx ls (vI (k_lcmp u v) :: st) h) : k_Wp x d K N m P k n pc ls (vL v :: vL u :: st) h := by
  intro hg X p e s mi args below meth c H locs lj S hR hz hL hl hs hw
  obtain ⟨hd, rfl⟩ := k_dc_ok (k_at_chk hg hc)
  obtain ⟨e1, hr⟩ := n_lcmp (x := u) (y := v) (hs (vL u) (by simp)) (hs (vL v) (by simp))
  have hk := kk hg X p e s mi args below meth c H locs lj S hR hz hL hl (k_wcons hr (fun w hw => hs w (by simp [hw]))) hw
  refine W.lcmp S.1 S.2.1 hd ?_
  rw [e1]
  exact hk
theorem p_lconst {z : Int} {b1 b2 : Nat} {t : List Nat} (hc : k_lk (pm_c m) pc = some ((21, z, b1, b2, t), nx)) (kk : k_Wp x d K N m P k n nx ls (vL z :: st) h) : k_Wp x d K N m P k n pc ls st h := by
  intro hg X p e s mi args below meth c H locs lj S hR hz hL hl hs hw
  have h0 := k_at_chk hg hc
  simp only [k_chk, Bool.and_eq_true, decide_eq_true_eq] at h0
  obtain ⟨rfl, h0⟩ := h0
  obtain ⟨hd, rfl⟩ := k_dc_ok h0
  have hk := kk hg X p e s mi args below meth c H locs lj S hR hz hL hl (k_wcons (show lR 0 by decide) hs) hw
  exact lv_lconst S.1 S.2.1 hd (v := Int64.ofInt 0) (by decide +kernel) hk
theorem p_goto {z : Int} {b1 tg : Nat} {t : List Nat} (hc : k_lk (pm_c m) pc = some ((33, z, b1, tg, t), nx)) (kk : k_Wp x d K N m P k n tg ls st h) : k_Wp x d K N m P k n pc ls st h := by
  intro hg X p e s mi args below meth c H locs lj S hR hz hL hl hs hw
  obtain ⟨hd, -⟩ := k_dc_ok (k_at_chk hg hc)
  exact lv_goto S.1 S.2.1 hd (by unfold k_jmp; omega) (kk hg X p e s mi args below meth c H locs lj S hR hz hL hl hs hw)
theorem k_cat1 (X : Cx) {v : PV} (h : ∀ z, v ≠ vL z) : (k_v X v).category = 1 := by
  rcases v with z | z | z | z
  · rfl
  · exact absurd rfl (h z)
  · rfl
  · rfl
theorem p_dup {v : PV} {z : Int} {b1 b2 : Nat} {t : List Nat} (hc : k_lk (pm_c m) pc = some ((34, z, b1, b2, t), nx)) (hv : ∀ z, v ≠ vL z) (kk : k_Wp x d K N m P k n nx ls (v :: v :: st) h) : k_Wp x d K N m P k n pc ls (v :: st) h := by
  intro hg X p e s mi args below meth c H locs lj S hR hz hL hl hs hw
  obtain ⟨hd, rfl⟩ := k_dc_ok (k_at_chk hg hc)
  exact lv_dup S.1 S.2.1 hd (k_cat1 X hv) (kk hg X p e s mi args below meth c H locs lj S hR hz hL hl (k_wcons (hs _ List.mem_cons_self) hs) hw)
theorem p_dup2 {v w : PV} {z : Int} {b1 b2 : Nat} {t : List Nat} (hc : k_lk (pm_c m) pc = some ((35, z, b1, b2, t), nx)) (hv : ∀ z, v ≠ vL z) (hw2 : ∀ z, w ≠ vL z) (kk : k_Wp x d K N m P k n nx ls (v :: w :: v :: w :: st) h) : k_Wp x d K N m P k n pc ls (v :: w :: st) h := by
  intro hg X p e s mi args below meth c H locs lj S hR hz hL hl hs hw
  obtain ⟨hd, rfl⟩ := k_dc_ok (k_at_chk hg hc)
  exact lv_dup2_11 S.1 S.2.1 hd (k_cat1 X hv) (k_cat1 X hw2) (kk hg X p e s mi args below meth c H locs lj S hR hz hL hl (k_wcons (hs _ List.mem_cons_self) (k_wcons (hs w (by simp)) hs)) hw)
def k_cnd (c : Nat) (u v : Int) : Prop := match c with
  | 0 => u = v | 1 => ¬ u = v | 2 => u < v | 3 => v ≤ u | 4 => v < u | _ => u ≤ v
theorem p_icmp {u v a : Int} {cd tg : Nat} {t : List Nat} (hc : k_lk (pm_c m) pc = some ((31, a, cd, tg, t), nx)) (kt : k_cnd cd u v → k_Wp x d K N m P k n tg ls st h) (kf : ¬ k_cnd cd u v → k_Wp x d K N m P k n nx ls st h) : k_Wp x d K N m P k n pc ls (vI v :: vI u :: st) h := by
  intro hg X p e s mi args below meth c H locs lj S hR hz hL hl hs hw
  have h0 := k_at_chk hg hc
  have hv : iR v := hs _ List.mem_cons_self
  have hu : iR u := hs (vI u) (by simp)
  have kt' := fun q => kt q hg X p e s mi args below meth c H locs lj S hR hz hL hl (fun w hw => hs w (by simp [hw])) hw
  have kf' := fun q => kf q hg X p e s mi args below meth c H locs lj S hR hz hL hl (fun w hw => hs w (by simp [hw])) hw
  have ht : (pc : Int) + k_jmp pc tg = (tg : Int) := by unfold k_jmp; omega
  match cd, h0, kt', kf' with
  | 0, h0, kt', kf' => obtain ⟨hd, rfl⟩ := k_dc_ok h0; exact lv_icmp_eq S.1 S.2.1 hd ht (fun q => kt' ((n_eq hu hv).mp q)) (fun q => kf' (fun z => q ((n_eq hu hv).mpr z)))
  | 1, h0, kt', kf' => obtain ⟨hd, rfl⟩ := k_dc_ok h0; exact lv_icmp_ne S.1 S.2.1 hd ht (fun q => kt' (fun z => q ((n_eq hu hv).mpr z))) (fun q => kf' (fun z => z ((n_eq hu hv).mp q)))
  | 2, h0, kt', kf' => obtain ⟨hd, rfl⟩ := k_dc_ok h0; exact lv_icmp_lt S.1 S.2.1 hd ht (fun q => kt' ((n_lt hu hv).mp q)) (fun q => kf' (fun z => q ((n_lt hu hv).mpr z)))
  | 3, h0, kt', kf' => obtain ⟨hd, rfl⟩ := k_dc_ok h0; exact lv_icmp_ge S.1 S.2.1 hd ht (fun q => kt' ((n_le hv hu).mp q)) (fun q => kf' (fun z => q ((n_le hv hu).mpr z)))
  | 4, h0, kt', kf' => obtain ⟨hd, rfl⟩ := k_dc_ok h0; exact lv_icmp_gt S.1 S.2.1 hd ht (fun q => kt' ((n_lt hv hu).mp q)) (fun q => kf' (fun z => q ((n_lt hv hu).mpr z)))
  | 5, h0, kt', kf' => obtain ⟨hd, rfl⟩ := k_dc_ok h0; exact lv_icmp_le S.1 S.2.1 hd ht (fun q => kt' ((n_le hu hv).mp q)) (fun q => kf' (fun z => q ((n_le hu hv).mpr z)))
  | _ + 6, h0, kt', kf' => simp [k_chk, k_ic] at h0
theorem p_if {u a : Int} {cd tg : Nat} {t : List Nat} (hc : k_lk (pm_c m) pc = some ((32, a, cd, tg, t), nx)) (kt : k_cnd cd u 0 → k_Wp x d K N m P k n tg ls st h) (kf : ¬ k_cnd cd u 0 → k_Wp x d K N m P k n nx ls st h) : k_Wp x d K N m P k n pc ls (vI u :: st) h := by
  intro hg X p e s mi args below meth c H locs lj S hR hz hL hl hs hw
  have h0 := k_at_chk hg hc
  have hu : iR u := hs _ List.mem_cons_self
  have kt' := fun q => kt q hg X p e s mi args below meth c H locs lj S hR hz hL hl (fun w hw => hs w (by simp [hw])) hw
  have kf' := fun q => kf q hg X p e s mi args below meth c H locs lj S hR hz hL hl (fun w hw => hs w (by simp [hw])) hw
  have ht : (pc : Int) + k_jmp pc tg = (tg : Int) := by unfold k_jmp; omega
  match cd, h0, kt', kf' with
  | 0, h0, kt', kf' => obtain ⟨hd, rfl⟩ := k_dc_ok h0; exact lv_if_eq S.1 S.2.1 hd ht (fun q => kt' ((n_eq0 hu).mp q)) (fun q => kf' (fun z => q ((n_eq0 hu).mpr z)))
  | 1, h0, kt', kf' => obtain ⟨hd, rfl⟩ := k_dc_ok h0; exact lv_if_ne S.1 S.2.1 hd ht (fun q => kt' (fun z => q ((n_eq0 hu).mpr z))) (fun q => kf' (fun z => z ((n_eq0 hu).mp q)))
  | 2, h0, kt', kf' => obtain ⟨hd, rfl⟩ := k_dc_ok h0; exact lv_if_lt S.1 S.2.1 hd ht (fun q => kt' ((n_lt0 hu).mp q)) (fun q => kf' (fun z => q ((n_lt0 hu).mpr z)))
  | 3, h0, kt', kf' => obtain ⟨hd, rfl⟩ := k_dc_ok h0; exact lv_if_ge S.1 S.2.1 hd ht (fun q => kt' ((n_ge0 hu).mp q)) (fun q => kf' (fun z => q ((n_ge0 hu).mpr z)))
  | 4, h0, kt', kf' => obtain ⟨hd, rfl⟩ := k_dc_ok h0; exact lv_if_gt S.1 S.2.1 hd ht (fun q => kt' ((n_gt0 hu).mp q)) (fun q => kf' (fun z => q ((n_gt0 hu).mpr z)))
  | 5, h0, kt', kf' => obtain ⟨hd, rfl⟩ := k_dc_ok h0; exact lv_if_le S.1 S.2.1 hd ht (fun q => kt' ((n_le0 hu).mp q)) (fun q => kf' (fun z => q ((n_le0 hu).mpr z)))
  | _ + 6, h0, kt', kf' => simp [k_chk, k_ic] at h0
/-- fewer locals may be known -/
theorem p_sub {ls' : List (Option PV)} (hl : k_le ls' ls) (kk : k_Wp x d K N m P k n pc ls' st h) : k_Wp x d K N m P k n pc ls st h := by
  intro hg X p e s mi args below meth c H locs lj S hR hz hL hl2 hs hw
  exact kk hg X p e s mi args below meth c H locs lj S hR hz hL (k_lv_le hl2 hl) hs (fun j v hj => hw j v (hl j v hj))
end Steps1
