/-! a thrown object caught: what the law's wrappers need -/
theorem k_lv_sub {X : Cx} {lj : Array Slot} {nL j : Nat} {ls ls' : List (Option PV)} {v : Value} (h : lv_has lj nL ((j, v) :: (k_lv X 0 ls).filter (fun q => !(q.1 == j) && !(q.1 + 1 == j && q.2.category == 2)))) (hle : ∀ i w, k_get ls' i = some w → i ≠ j ∧ k_get ls i = some w ∧ ∀ z, w ≠ vL z) : lv_has lj nL (k_lv X 0 ls') := by
  refine ⟨h.1, h.2.1, fun q hq => h.2.2 q ?_⟩
  obtain ⟨i, w, h1, rfl⟩ := (k_lv_mem _ 0 q).mp hq
  obtain ⟨h2, h3, h4⟩ := hle i w h1
  refine List.mem_cons_of_mem _ (List.mem_filter.mpr ⟨(k_lv_mem ls 0 _).mpr ⟨i, w, h3, rfl⟩, ?_⟩)
  simp only [Nat.zero_add, Bool.and_eq_true, Bool.not_eq_true', beq_eq_false_iff_ne, Bool.and_eq_false_iff]
  refine ⟨h2, Or.inr ?_⟩
  intro h6
  obtain ⟨z, hz⟩ := (k_v_cat X w).mp h6
  exact h4 z hz
/-- in a method with a table: the row that catches E, and how it goes on there -/
def k_Ct (d K N : Nat) (m : PM) (P : PO → PH → Prop) (k n pc : Nat) (ls : List (Option PV)) (E : String) (h : PH) : Prop :=
  ∃ (pre rest : List ExceptionTableEntry) (row : ExceptionTableEntry) (j : Nat) (y : Int) (b : Nat) (t : List Nat) (nx : Nat) (ls' : List (Option PV)),
    tableOf (pm_h m) = pre ++ row :: rest ∧ covers row pc = true ∧ row.catchType ≠ 0 ∧ Cond.classLink (k_R (pm_o m)) row.catchType E ∈ k_tb ∧
    (∀ z ∈ pre, covers z pc = true ∧ z.catchType ≠ 0 ∧ ∃ a c, (a, c) ∈ k_ncs ∧ E = k_E a ∧ Cond.classLink (k_R (pm_o m)) z.catchType (k_E c) ∈ k_tb) ∧
    k_lk (pm_c m) row.handlerPc = some ((6, y, j, b, t), nx) ∧ (∀ i v, k_get ls' i = some v → i ≠ j ∧ k_get ls i = some v ∧ ∀ z, v ≠ vL z) ∧ k_Wp false d K N m P k n nx ls' [] h
theorem k_asg (vm : Vm) (c : ClassId) : vm.assignable c c = true := by
  show vm.assignableAux _ c c = true
  unfold Vm.assignableAux
  simp
/-- one row of a table: it covers the place and names a class that the tables link -/
theorem k_fgo {e : _root_.Jvm.Env} {S : State} {f : JFrame} {a : Addr} {y : ExceptionTableEntry} {t : List ExceptionTableEntry} {cy : ClassId} {cell : Cell} (hx : covers y f.pc = true) (h0 : y.catchType ≠ 0)
    (hl : S.vm.ClassLinks e.platform f.method.cls y.catchType cy) (hcell : S.heap[a]? = some cell) (hobj : ∀ k, cell.vm ≠ .statics k) (hk : ∃ k, S.vm.classes[cell.cls]? = some k) (hc : ∃ k, S.vm.classes[cy]? = some k)
    (Q : Handler → Pre) (E : CtlPost) (d : Bool) (acts : List Action) :
    wp (findHandler.go f a (y :: t)) Q E e d acts S ↔ (if S.vm.assignable cell.cls cy = true then Q (.found y.handlerPc) d acts (S.setVm (S.vm.noted f.method.cls y.catchType (.cls cy))) else wp (findHandler.go f a t) Q E e d acts (S.setVm (S.vm.noted f.method.cls y.catchType (.cls cy)))) := by
  have al : S.vm.Alike (S.vm.noted f.method.cls y.catchType (.cls cy)) := (Vm.Alike.refl S.vm).noted _ _ _
  obtain ⟨u, hu⟩ := hk
  obtain ⟨v, hv⟩ := hc
  obtain ⟨u', hu', -⟩ := al.2.2 _ _ hu
  obtain ⟨v', hv', -⟩ := al.2.2 _ _ hv
  have ea : (S.vm.noted f.method.cls y.catchType (.cls cy)).assignable cell.cls cy = S.vm.assignable cell.cls cy := by rw [al.assignable]
  obtain ⟨g1, g2⟩ := (resolveClass_links e.toSetting hl).op (op := VmOp.resolveClass f.method.cls y.catchType) rfl
  simp only [covers] at hx
  cases hq : S.vm.assignable cell.cls cy <;> rw [hq] at ea <;> simp [findHandler.go, hx, h0, g1, g2, hcell, hobj, hu', hv', ea, VmOp.dirties, VmOp.acts]
theorem k_find {e : _root_.Jvm.Env} {s₀ : State} {f : JFrame} {a : Addr} {cell : Cell} (hobj : ∀ k, cell.vm ≠ .statics k) (hk : ∃ k, s₀.vm.classes[cell.cls]? = some k) (row : ExceptionTableEntry) (rest : List ExceptionTableEntry) (hr1 : covers row f.pc = true) (hr2 : row.catchType ≠ 0) (hr3 : s₀.vm.ClassLinks e.platform f.method.cls row.catchType cell.cls) :
    ∀ (pre : List ExceptionTableEntry) (S : State), s₀.WarmedH S.vm → S.heap[a]? = some cell → (∀ y ∈ pre, covers y f.pc = true ∧ y.catchType ≠ 0 ∧ ∃ cy, s₀.vm.ClassLinks e.platform f.method.cls y.catchType cy ∧ s₀.vm.assignable cell.cls cy = false) →
      ∃ vm', s₀.WarmedH vm' ∧ ∀ (Q : Handler → Pre) (E : CtlPost) (d : Bool) (acts : List Action), wp (findHandler.go f a (pre ++ row :: rest)) Q E e d acts S ↔ Q (.found row.handlerPc) d acts (S.setVm vm')
  | [], S, hW, hc, _ => by
    obtain ⟨u, hu⟩ := hk
    obtain ⟨u', hu', -⟩ := hW.alike.2.2 _ _ hu
    obtain ⟨dk, _, _, kt, hd, _, _, _, _, hkt, _, hopen⟩ := hr3.here
    refine ⟨_, hW.noted hd hopen (State.rightAt_cls hr3), fun Q E d acts => ?_⟩
    rw [List.nil_append, k_fgo hr1 hr2 (hW.classLinks hr3) hc hobj ⟨u', hu'⟩ ⟨u', hu'⟩, if_pos (k_asg _ _)]
  | y :: pre, S, hW, hc, hp => by
    obtain ⟨u, hu⟩ := hk
    obtain ⟨u', hu', -⟩ := hW.alike.2.2 _ _ hu
    obtain ⟨q1, q2, cy, q3, q4⟩ := hp y List.mem_cons_self
    obtain ⟨dk, _, _, kt, hd, _, _, _, _, hkt, _, hopen⟩ := q3.here
    obtain ⟨kt', hkt', -⟩ := hW.alike.2.2 _ _ hkt
    obtain ⟨vm', h1, h2⟩ := k_find hobj ⟨u, hu⟩ row rest hr1 hr2 hr3 pre (S.setVm (S.vm.noted f.method.cls y.catchType (.cls cy))) (hW.noted hd hopen (State.rightAt_cls q3)) hc (fun z hz => hp z (List.mem_cons_of_mem _ hz))
    refine ⟨vm', h1, fun Q E d acts => ?_⟩
    rw [List.cons_append, k_fgo q1 q2 (hW.classLinks q3) hc hobj ⟨u', hu'⟩ ⟨kt', hkt'⟩, if_neg (by rw [hW.alike.assignable, q4]; decide)]
    exact h2 Q E d acts
/-- the walk goes on at the row's place, the thrown object alone on the stack -/
theorem k_caught {p : Program} {l : Launch} {e : _root_.Jvm.Env} {R : Room} {s : State} {m : MethodId} {args : Array Value} {below : List Frame} {meth : Method} {c : Code} {T : State} {locs : List Loc} {cells slots : Nat} (X : Stand p l e R s m args below meth c T locs cells slots) (a : Addr) {g : JFrame} (hg : g.method = m) {cell : Cell} (hcell : T.heap[a]? = some cell) (hobj : cell.vm = .none) (hk : ∃ k, s.vm.classes[cell.cls]? = some k)
    (pre : List ExceptionTableEntry) (row : ExceptionTableEntry) (rest : List ExceptionTableEntry) (hsp : c.exceptionTable.toList = pre ++ row :: rest) (hr1 : covers row g.pc = true) (hr2 : row.catchType ≠ 0) (hr3 : s.vm.ClassLinks e.platform m.cls row.catchType cell.cls)
    (hp : ∀ y ∈ pre, covers y g.pc = true ∧ y.catchType ≠ 0 ∧ ∃ cy, s.vm.ClassLinks e.platform m.cls y.catchType cy ∧ s.vm.assignable cell.cls cy = false) :
    ∃ vm', Stand p l e R s m args below meth c (T.setVm vm') locs cells slots ∧ ∀ target, Steps p.tables e below ((T.setVm vm').setTop { g with pc := row.handlerPc, stack := [.ref a] }) target → Steps p.tables e below ((T.setTop g).pushFrame (.throwing a)) target := by
  subst hg
  obtain ⟨vm', hW', hq⟩ := k_find (e := e) (s₀ := s) (f := g) (a := a) (cell := cell) (fun k hk9 => by rw [hobj] at hk9; cases hk9) hk row rest hr1 hr2 hr3 pre ((T.setTop g).pushFrame (.throwing a)) X.warmed hcell hp
  refine ⟨vm', X.noted hW', fun target hrest => ?_⟩
  have hf : ∀ (Q : Handler → Pre) (E : CtlPost) (d : Bool) (acts : List Action), wp (findHandler g a) Q E e d acts ((T.setTop g).pushFrame (.throwing a)) ↔ Q (.found row.handlerPc) d acts (((T.setTop g).pushFrame (.throwing a)).setVm vm') := fun Q E d acts => by
    rw [W.findHandler_eq (s := (T.setTop g).pushFrame (.throwing a)) X.method' X.code, hsp]; exact hq Q E d acts
  obtain ⟨h1, h2⟩ := X.here.throwing a
  refine Steps.head h1 h2 ?_
  obtain ⟨g₀, hg0⟩ := Option.isSome_iff_exists.mp X.here.top
  obtain ⟨r, hr⟩ := State.topJava?_eq_some.mp hg0
  have hr2 : (T.setVm vm').frames = .java g₀ :: r := hr
  have hst : ∀ F : List Frame, (stepThrowing e ((T.setTop g).pushFrame (.throwing a)) a (.java g :: F)).1 = (((T.setTop g).pushFrame (.throwing a)).setVm vm').setFrames (.java { g with pc := row.handlerPc, stack := [.ref a] } :: F) := fun F => by
    simp only [stepThrowing, searchFrame, vmDo]
    generalize hgo : Sem.go _ e false [] _ = res
    obtain ⟨as, rfl, -⟩ := Sem.eq_ok_of hgo (a := Handler.found row.handlerPc) (s' := ((T.setTop g).pushFrame (.throwing a)).setVm vm') (acts' := []) (by simp [hf _ _ _ _])
    rfl
  rw [stepThread_throwing (frames_entered X.here.top _), hst]
  rw [State.setTop_of_frames _ hr2] at hrest
  have hv : ∀ (u : State) (F : List Frame), (u.setFrames F).setVm vm' = (u.setVm vm').setFrames F := fun u F => rfl
  rw [hr, List.tail_cons, State.pushFrame, State.setTop_of_frames _ hr, State.setFrames_setFrames, hv, State.setFrames_setFrames]
  exact hrest
section Catch9
variable {d K N : Nat} {m : PM} {P : PO → PH → Prop} {k n pc : Nat} {ls : List (Option PV)} {st : List PV} {h : PH}
variable {X : Cx} {p : Program} {e : _root_.Jvm.Env} {s : State} {mi : MethodId} {args : Array Value} {below : List Frame} {meth : Method} {c : Code} {H : Heap} {locs : List Loc} {lj : Array Slot}
theorem k_runC {P' : PO → PH → Prop} {K' N' : Nat} {a' : Array Value} {stk : List Value} (hr : vx_Run p (cx_l X) e (k_rm d K N) s mi args below meth c H locs k n K' N' (F0 mi pc lj stk) (st.map (k_v X)) (k_Q X false P' a') (k_XQ X P') (fun q => cx_z X ≤ q))
    (hg : k_gd m) (S : k_Set X m p s mi args meth c) (hz : s.heap.size ≤ H.size) (hL : ∀ q ∈ locs, cx_z X ≤ q.base) (hl : lv_has lj (pm_n m) (k_lv X 0 ls)) (hs : ∀ v ∈ st, k_wfV v) (hw : ∀ j v, k_get ls j = some v → k_wfV v)
    (kr : ∀ r h', P' (.inl r) h' → k_Wp false d K N m P (k + K') (n + N') (pc + 3) ls (r.toList ++ st) h')
    (kx : ∀ (E : String) (h' : PH), P' (.inr E) h' → k_Ct d K N m P (k + K') (n + N') pc ls E h') :
    W p (cx_l X) e (k_rm d K N) s mi args below meth c H locs k n (vx_MQ below (k_Q X false P) (k_XQ X P) args s K N (fun q => cx_z X ≤ q)) (F0 mi pc lj stk) := by
  intro T hT XX
  have hL2 : ∀ L : List Loc, (∀ q ∈ L, cx_z X ≤ q.base) → ∀ q ∈ locs ++ L, cx_z X ≤ q.base := fun L h9 q hq => (List.mem_append.mp hq).elim (hL q) (h9 q)
  rcases hr T hT XX with ⟨v, st₀, t, T', L, h0, X', hLL, e1, e2, hq, go⟩ | ⟨q, st₀, t, T', L, E, ce, h0, X', hLL, e1, e2, hx, hce, hcv, hcl, go⟩
  · obtain ⟨r, h', hv, hP, hwf, hR', hsz⟩ := hq
    cases hv
    obtain ⟨t2, a1, b1⟩ := kr r h' hP hg X p e s mi args below meth c T'.heap (locs ++ L) lj S (by rw [e1]; exact hR') (by rw [e1]; rw [h0] at hsz; exact Nat.le_trans hz hsz) (hL2 L hLL) hl (by
      intro w hw2
      rcases List.mem_append.mp hw2 with h9 | h9
      · exact hwf w (by cases r with | none => cases h9 | some u => rw [List.mem_singleton.mp h9])
      · exact hs w h9) hw T' rfl X'
    rw [← k_retl] at a1
    exact ⟨t2, go t2 a1, b1⟩
  · obtain ⟨h', hP, hR', hsz⟩ := hx
    obtain ⟨pre, rest, row, j, y, b, tt, nx, ls', ht, hcov, hct, hlk, hpre, hins, hle, hk⟩ := kx E h' hP
    have hpl : e.platform.magicAccessors = ({} : Platform).magicAccessors := by rw [X'.admits.platform]
    have hown := S.2.2.2.2.1
    have hKn := S.2.2.2.2.2.2.2.2.2.1
    obtain ⟨ck, hck, hcr⟩ := Cond.classLink_spec hown (S.2.2.2.2.2.1 _ hlk) e.platform hpl
    cases Option.some.inj (hck.symm.trans hcl)
    obtain ⟨vm', XV, hst⟩ := k_caught X' q (g := F0 mi pc lj (st.map (k_v X))) rfl (cell := ce) (by rw [e1]; exact hce) hcv (by obtain ⟨k9, h9, -⟩ := Vm.findClass_spec hcl; exact ⟨k9, h9⟩) pre row rest (by rw [S.2.2.2.2.2.2.2.1]; exact ht) hcov hct hcr (fun z hz => by
      obtain ⟨zc, z0, a8, c8, hn8, rfl, hl8⟩ := hpre z hz
      obtain ⟨c6, hc6, hcl6⟩ := Cond.classLink_spec hown (S.2.2.2.2.2.1 _ hl8) e.platform hpl
      obtain ⟨a9, b9, h1, h2, h3⟩ := hKn.2.2.2.2.2.2.2.2.2.2.1 _ hn8
      cases Option.some.inj (h1.symm.trans hcl)
      cases Option.some.inj (h2.symm.trans hc6)
      exact ⟨zc, z0, _, hcl6, h3⟩)
    have hsz2 : s.heap.size ≤ T'.heap.size := by rw [e1]; rw [h0] at hsz; omega
    have hW9 : W p (cx_l X) e (k_rm d K N) s mi args below meth c T'.heap (locs ++ L) (k + K') (n + N') (vx_MQ below (k_Q X false P) (k_XQ X P) args s K N (fun q => cx_z X ≤ q)) (F0 mi row.handlerPc lj [.ref q]) := by
      have h9 := k_at_chk hg hins
      simp only [k_chk, Bool.and_eq_true, Bool.or_eq_true, decide_eq_true_eq] at h9
      have hk2 := fun (lj2 : Array Slot) (h2 : lv_has lj2 (pm_n m) ((j, Value.ref q) :: (k_lv X 0 ls).filter (fun q => !(q.1 == j) && !(q.1 + 1 == j && q.2.category == 2)))) => hk hg X p e s mi args below meth c T'.heap (locs ++ L) lj2 S (by rw [e1]; exact hR') hsz2 (hL2 L hLL) (k_lv_sub h2 hle) (fun v hv => by cases hv) (fun j v hj => hw j v (hle j v hj).2.1)
      obtain ⟨h2, h9⟩ := h9
      rcases h9 with ⟨h1, h9⟩ | h9
      · obtain ⟨hd, rfl⟩ := k_dc_ok h9
        exact lv_astore_n S.1 S.2.1 hd (k_f4v h1) hl h2 rfl hk2
      · obtain ⟨hd, rfl⟩ := k_dc_ok h9
        exact lv_astore S.1 S.2.1 hd hl h2 rfl hk2
    obtain ⟨t2, a1, b1⟩ := hW9 (T'.setVm vm') rfl XV
    exact ⟨t2, Steps.trans go (hst t2 a1), b1⟩
end Catch9
section Catch10
variable {d K N : Nat} {m : PM} {P : PO → PH → Prop} {k n pc nx : Nat} {ls : List (Option PV)} {st : List PV} {h : PH}
/-- a virtual call in a method that catches -/
theorem p_callVC {m' : PM} {as : List PV} {a ci : Nat} {fs : List PV} {z : Int} {b2 : Nat} {t : List Nat} {d' K' N' : Nat} {P' : PO → PH → Prop} (hc : k_lk (pm_c m) pc = some ((48, z, 0, b2, t), nx)) (hl1 : k_LV (pm_o m) z.toNat m' as.length) (ha : h.2 a = some (.inr (ci, fs))) (hcl : k_R ci = (pm_y m').cls) (hev : k_Ev false d' K' N' m' (vR a :: as) h P') (hd1 : d' + 1 ≤ d) (hcs : k_cs st ≤ 8) (hk : k + K' ≤ K) (hn : n + N' ≤ N)
    (kr : ∀ r h', P' (.inl r) h' → k_Wp false d K N m P (k + K') (n + N') nx ls (r.toList ++ st) h')
    (kx : ∀ (E : String) (h' : PH), P' (.inr E) h' → k_Ct d K N m P (k + K') (n + N') pc ls E h') : k_Wp false d K N m P k n pc ls (as.reverse ++ vR a :: st) h := by
  intro hg X p e s mi args below meth c H locs lj S hR hz hL hl hs hw
  obtain ⟨hd, rfl⟩ := k_dc_ok (k_at_chk hg hc)
  obtain ⟨l1, l2, l3, l4⟩ := hl1
  have hKn := S.2.2.2.2.2.2.2.2.2.1
  obtain ⟨-, ⟨r, hr, hlen, cell, q1, q2, q3, -⟩, -⟩ := k_cellO hR ha
  have hcell : ∃ cellB : Cell, H[k_ad X a]? = some cellB ∧ cellB.vm.isStatics = false ∧ s.vm.findClass (pm_y m').cls = some cellB.cls := ⟨cell, q1, by rw [q3]; rfl, by rw [q2, ← hcl, ← (k_cls hr).2.2.2]; exact (hKn.1.1 ci r hr).2.1⟩
  have hwf : ∀ v ∈ vR a :: as, k_wfV v := fun v hv => (List.mem_cons.mp hv).elim (fun e1 => by rw [e1]; trivial) (fun h9 => hs v (by simp [h9]))
  have hst : ∀ v ∈ st, k_wfV v := fun v hv => hs v (by simp [hv])
  rw [k_revmap]
  refine k_runC (a' := ((vR a :: as).map (k_v X)).toArray) (vx_runV (As := as.map (k_v X)) (rest := st.map (k_v X)) (b := k_ad X a) (cc := pm_b m) (nL := pm_n m) (Ts := k_tb) (own := k_R (pm_o m)) ⟨S.1, S.2.1, S.2.2.2.1, S.2.2.2.2.1, S.2.2.2.2.2.1⟩ (hev l4.2.2.2.2.z X hwf) (cwV as.length S.2.2.2.2.2.1 (k_goodin (fun w hw9 => ?_)) (k_yok_ws l4) rfl rfl ⟨rfl, l4.2.1⟩ ⟨hd1, ?_⟩) ⟨k_blind X false h _, hcell, fun U hU hW => ⟨rfl, by rw [hU]; exact hR, k_Kn.warm hW hKn⟩⟩ rfl (by simp) hl.1 rfl ?_ hd ⟨hk, hn⟩) hg S hz hL hl hst hw kr kx
  · unfold wsV at hw9
    rcases List.mem_append.mp hw9 with h9 | h9
    · simp only [List.mem_cons, List.not_mem_nil, or_false] at h9
      rcases h9 with rfl | rfl | rfl | rfl
      · exact l1
      · exact l2
      · exact l3
      · exact l4.2.2.2.1
    · exact k_yok_in l4 w h9
  · show 8 + (pm_n m' + 11) + 64 * d' ≤ 64 * d
    have := l4.2.2.1; omega
  · rw [k_cs_eq]; show 2 * 0 + _ ≤ 8; omega
def k_LW (oi idx : Nat) (m' : PM) (n : Nat) : Prop := Cond.methodLink (k_R oi) idx (pm_y m') ∈ k_tb ∧ Cond.static (pm_y m') ∈ k_tb ∧ Cond.initialized (pm_y m').cls ∈ k_tb ∧ ((pm_y m').cls ≠ "java/lang/invoke/MethodHandle" ∧ (pm_y m').cls ≠ "java/lang/invoke/VarHandle" ∧ (parseMethodDescriptor (pm_y m').desc).map (fun d => d.parameters.length) = some n) ∧ pm_n m' ≤ 45 ∧ k_cw m' = Cond.codeWith (pm_y m') (pm_b m') (pm_n m') (pm_r m') (pm_h m') ∧ k_good m'
/-- a static call of a method with a table, which throws nothing -/
theorem p_callSW {x : Bool} {m' : PM} {as : List PV} {z : Int} {b2 : Nat} {t : List Nat} {d' K' N' : Nat} {P' : PO → PH → Prop} (hc : k_lk (pm_c m) pc = some ((48, z, 1, b2, t), nx)) (hl1 : k_LW (pm_o m) z.toNat m' as.length) (hev : k_Ev x d' K' N' m' as h P') (hno : ∀ E h', ¬ P' (.inr E) h') (hd1 : d' + 1 ≤ d) (hcs : k_cs st ≤ 8) (hk : k + K' ≤ K) (hn : n + N' ≤ N)
    (kr : ∀ r h', P' (.inl r) h' → k_Wp x d K N m P (k + K') (n + N') nx ls (r.toList ++ st) h') : k_Wp x d K N m P k n pc ls (as.reverse ++ st) h := by
  intro hg X p e s mi args below meth c H locs lj S hR hz hL hl hs hw
  obtain ⟨hd, rfl⟩ := k_dc_ok (k_at_chk hg hc)
  obtain ⟨l1, l2, l3, l4, l5, l6, l7⟩ := hl1
  have hKn := S.2.2.2.2.2.2.2.2.2.1
  have hwf : ∀ v ∈ as, k_wfV v := fun v hv => hs v (by simp [hv])
  have hst : ∀ v ∈ st, k_wfV v := fun v hv => hs v (by simp [hv])
  rw [k_revmap]
  refine k_runN (a' := (as.map (k_v X)).toArray) (vx_runSW (hh := pm_h m') (bytes := pm_b m') (maxL := pm_n m') (ret := pm_r m') (As := as.map (k_v X)) (rest := st.map (k_v X)) (cc := pm_b m) (nL := pm_n m) (Ts := k_tb) (own := k_R (pm_o m)) (index := z.toNat) ⟨S.1, S.2.1, S.2.2.2.1, S.2.2.2.2.1, S.2.2.2.2.2.1⟩ (k_Met hev hno l7.z X hwf) (vx_cwSW (ws' := k_tb) as.length S.2.2.2.2.2.1 (k_goodin (fun w hw9 => ?_)) (by unfold k_ws; rw [l6]) rfl rfl l4 ⟨hd1, ?_⟩) ⟨k_blind X x h _, fun U hU hW => ⟨rfl, by rw [hU]; exact hR, k_Kn.warm hW hKn⟩⟩ rfl (by simp) hl.1 rfl ?_ hd ⟨hk, hn⟩) hg S hz hL hl hst hw kr
  · unfold va_wsS at hw9
    rcases List.mem_append.mp hw9 with h9 | h9
    · simp only [List.mem_cons, List.not_mem_nil, or_false] at h9
      rcases h9 with rfl | rfl | rfl
      · exact l1
      · exact l2
      · exact l3
    · rcases List.mem_cons.mp h9 with rfl | h9
      · exact l7.2.1
      · exact h9
  · show 8 + (pm_n m' + 11) + 64 * d' ≤ 64 * d
    omega
  · rw [k_cs_eq]; show 2 * 0 + _ ≤ 8; omega
/-- what else was made is forgotten, where the end does not ask -/
theorem p_fx (hP : ∀ o h h', P o h → P o h') (kk : k_Wp false d K N m P k n pc ls st h) : k_Wp true d K N m P k n pc ls st h := by
  intro hg X p e s mi args below meth c H locs lj S hR hz hL hl hs hw T hT XX
  obtain ⟨t, a, o, b1, b2, b3⟩ := kk hg X p e s mi args below meth c H locs lj S ⟨hR.1, hR.2.1, hR.2.2.1, (fun hx => Bool.noConfusion hx), hR.2.2.2.2⟩ hz hL hl hs hw T hT XX
  refine ⟨t, a, o, b1, b2, ?_⟩
  rcases b3 with ⟨⟨r, h', q1, q2, q3, q4, q5⟩, b4⟩ | b3
  · refine Or.inl ⟨⟨r, (t.heap.size + 1 - cx_z X, h'.2), q1, hP _ _ _ q2, q3, ⟨q4.1, ?_, ?_, fun _ => ?_, fun a c hac => ⟨?_, (q4.2.2.2.2 a c hac).2⟩⟩, q5⟩, b4⟩
    · have := q4.2.1; have := q4.2.2.1; show 0 < t.heap.size + 1 - cx_z X; omega
    · have := q4.2.1; have := q4.2.2.1; show cx_z X + (t.heap.size + 1 - cx_z X) ≤ t.heap.size + 1; omega
    · have := q4.2.1; have := q4.2.2.1; show t.heap.size + 1 = cx_z X + (t.heap.size + 1 - cx_z X); omega
    · have := (q4.2.2.2.2 a c hac).1; have := q4.2.2.1; show a < t.heap.size + 1 - cx_z X; omega
  · exact Or.inr b3
end Catch10
