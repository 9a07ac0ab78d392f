/-! calls -/
def k_yok (m' : PM) (n : Nat) : Prop := pm_h m' = [] ∧ ((pm_y m').cls ≠ "java/lang/invoke/MethodHandle" ∧ (pm_y m').cls ≠ "java/lang/invoke/VarHandle" ∧ (parseMethodDescriptor (pm_y m').desc).map (fun d => d.parameters.length) = some n) ∧ pm_n m' ≤ 45 ∧ Cond.initialized (pm_y m').cls ∈ k_tb ∧ k_good m'
/-- the method of that number of the pool is m', with so many parameters: a virtual one, a static one, a constructor; the latter two of a nest mate -/
def k_LV (oi idx : Nat) (m' : PM) (n : Nat) : Prop := Cond.methodLink (k_R oi) idx (pm_y m') ∈ k_tb ∧ Cond.instanceMethod (pm_y m') ∈ k_tb ∧ Cond.selects (pm_y m').cls (pm_y m') (pm_y m') ∈ k_tb ∧ k_yok m' n
def k_LS (oi idx : Nat) (m' : PM) (n : Nat) : Prop := Cond.methodLink (k_R oi) idx (pm_y m') ∈ k_tb ∧ Cond.static (pm_y m') ∈ k_tb ∧ k_yok m' n
def k_LI (oi idx : Nat) (m' : PM) (n : Nat) : Prop := Cond.methodLink (k_R oi) idx (pm_y m') ∈ k_tb ∧ Cond.instanceMethod (pm_y m') ∈ k_tb ∧ (pm_y m').name = "<init>" ∧ pm_r m' = none ∧ k_yok m' n
def k_LSN (oi idx : Nat) (m' : PM) (n : Nat) : Prop := (oi, idx, pm_y m') ∈ k_nest ∧ Cond.static (pm_y m') ∈ k_tb ∧ k_yok m' n
def k_LIN (oi idx : Nat) (m' : PM) (n : Nat) : Prop := (oi, idx, pm_y m') ∈ k_nest ∧ Cond.instanceMethod (pm_y m') ∈ k_tb ∧ (pm_y m').name = "<init>" ∧ pm_r m' = none ∧ k_yok m' n
theorem k_yok_ws {m' : PM} {n : Nat} (h : k_yok m' n) : k_ws m' = Cond.code (pm_y m') (pm_b m') (pm_n m') (pm_r m') :: k_tb := by
  unfold k_ws k_cw; rw [h.1]
theorem k_yok_in {m' : PM} {n : Nat} (h : k_yok m' n) : ∀ w ∈ k_ws m', w ∈ k_tb := by
  intro w hw
  rcases List.mem_cons.mp hw with rfl | hw
  · exact h.2.2.2.2.2.1
  · exact hw
/-- a contract that never throws, as the kit's own -/
theorem k_Met {x : Bool} {d K N : Nat} {m : PM} {as : List PV} {h : PH} {P : PO → PH → Prop} (hev : k_Ev x d K N m as h P) (hno : ∀ E h', ¬ P (.inr E) h') (hg : k_gd m) (X : Cx) (hwf : ∀ v ∈ as, k_wfV v) :
    Met (cx_l X) (pm_y m) (k_ws m) (k_rm d K N) (fun v U => v = (as.map (k_v X)).toArray ∧ k_Rp X x h U.heap ∧ k_Kn X U) (k_Q X x P) K N (fun q => cx_z X ≤ q) := by
  intro p e h1 h2 h3 s m' args below h4 h5 h6 h7
  obtain ⟨n, o, a1, a2, a3, a4⟩ := hev hg X hwf p e h1 h2 h3 s m' args below h4 h5 h6 h7
  refine ⟨n, o, a1, a2, a3, ?_⟩
  rcases a4 with a4 | ⟨q, -, E, ce, L, ⟨h', hP, -⟩, -⟩
  · exact a4
  · exact absurd hP (hno E h')
theorem k_blind (X : Cx) (x : Bool) (h : PH) (av : List Value) : FrameBlind (fun v U => v = av.toArray ∧ k_Rp X x h U.heap ∧ k_Kn X U) := by
  intro a U g mk hp
  exact ⟨hp.1, hp.2.1, k_Kn.warm (s := U) (U := U.calling g mk a) (State.WarmedH.refl U) hp.2.2⟩
section Calls9
variable {x : Bool} {d K N : Nat} {m : PM} {P : PO → PH → Prop} {k n pc : Nat} {ls : List (Option PV)} {st : List PV} {h : PH}
variable {X : Cx} {p : Program} {e : Env} {s : State} {mi : MethodId} {args : Array Value} {below : List Frame} {meth : Method} {c : Code} {H : Heap} {locs : List Loc} {lj : Array Slot}
theorem k_retl (r : Option PV) (st : List PV) : (r.map (k_v X)).toList ++ st.map (k_v X) = (r.toList ++ st).map (k_v X) := by
  cases r <;> simp
theorem k_run {P' : PO → PH → Prop} {K' N' : Nat} {a' : Array Value} {stk : List Value} (hr : vx_Run p (cx_l X) e (k_rm d K N) s mi args below meth c H locs k n K' N' (F0 mi pc lj stk) (st.map (k_v X)) (k_Q X x P' a') (k_XQ X P') (fun q => cx_z X ≤ q))
    (hg : k_gd m) (S : k_Set X m p s mi args meth c) (hz : s.heap.size ≤ H.size) (hL : ∀ q ∈ locs, cx_z X ≤ q.base) (hl : lv_has lj (pm_n m) (k_lv X 0 ls)) (hs : ∀ v ∈ st, k_wfV v) (hw : ∀ j v, k_get ls j = some v → k_wfV v) (hk : k + K' ≤ K) (hn : n + N' ≤ N)
    (kr : ∀ r h', P' (.inl r) h' → k_Wp x d K N m P (k + K') (n + N') (pc + 3) ls (r.toList ++ st) h')
    (kx : ∀ (E : String) (h' : PH), P' (.inr E) h' → pm_h m = [] ∧ P (.inr E) h') :
    W p (cx_l X) e (k_rm d K N) s mi args below meth c H locs k n (vx_MQ below (k_Q X x P) (k_XQ X P) args s K N (fun q => cx_z X ≤ q)) (F0 mi pc lj stk) := by
  intro T hT XX
  have hL2 : ∀ L : List Loc, (∀ q ∈ L, cx_z X ≤ q.base) → ∀ q ∈ locs ++ L, cx_z X ≤ q.base := fun L h9 q hq => (List.mem_append.mp hq).elim (hL q) (h9 q)
  rcases hr T hT XX with ⟨v, st₀, t, T', L, h0, X', hLL, e1, e2, hq, go⟩ | ⟨q, st₀, t, T', L, E, ce, h0, X', hLL, e1, e2, hx, hce, hcv, hcl, go⟩
  · obtain ⟨r, h', hv, hP, hwf, hR', hsz⟩ := hq
    cases hv
    obtain ⟨t2, a1, b1⟩ := kr r h' hP hg X p e s mi args below meth c T'.heap (locs ++ L) lj S (by rw [e1]; exact hR') (by rw [e1]; rw [h0] at hsz; exact Nat.le_trans hz hsz) (hL2 L hLL) hl (by
      intro w hw2
      rcases List.mem_append.mp hw2 with h9 | h9
      · exact hwf w (by cases r with | none => cases h9 | some u => rw [List.mem_singleton.mp h9])
      · exact hs w h9) hw T' rfl X'
    rw [← k_retl] at a1
    exact ⟨t2, go t2 a1, b1⟩
  · obtain ⟨h', hP, hR', hsz⟩ := hx
    obtain ⟨hh, hP2⟩ := kx E h' hP
    have hsz2 : s.heap.size ≤ t.heap.size := by rw [h0] at hsz; omega
    obtain ⟨t2, a1, b1⟩ := vx_out (Qc := k_Q X x P) (XC := k_XQ X P) (free := fun q => cx_z X ≤ q) (mc := K) (ms := N) (E := E) (ce := ce) (q := q) (H := T'.heap) (locs := locs ++ L) (cells := k + K') (slots := n + N') (pc := pc) (ls := lj) (rest := st.map (k_v X)) (by rw [S.2.2.2.2.2.2.2.1, hh]; intro z9 hz9; cases hz9) S.2.2.2.2.2.2.1 (by rw [e1]; exact hce) hcv hcl (fun t3 ht3 _ => ⟨h', hP2, by rw [ht3, e1]; exact hR', by rw [ht3, e1]; exact hsz2⟩) (hL2 L hLL) hk hn T' rfl X'
    exact ⟨t2, Steps.trans go a1, b1⟩
theorem k_runN {P' : PO → PH → Prop} {K' N' : Nat} {a' : Array Value} {stk : List Value} (hr : va_Run p (cx_l X) e (k_rm d K N) s mi args below meth c H locs k n K' N' (F0 mi pc lj stk) (st.map (k_v X)) (k_Q X x P' a') (fun q => cx_z X ≤ q))
    (hg : k_gd m) (S : k_Set X m p s mi args meth c) (hz : s.heap.size ≤ H.size) (hL : ∀ q ∈ locs, cx_z X ≤ q.base) (hl : lv_has lj (pm_n m) (k_lv X 0 ls)) (hs : ∀ v ∈ st, k_wfV v) (hw : ∀ j v, k_get ls j = some v → k_wfV v)
    (kr : ∀ r h', P' (.inl r) h' → k_Wp x d K N m P (k + K') (n + N') (pc + 3) ls (r.toList ++ st) h') :
    W p (cx_l X) e (k_rm d K N) s mi args below meth c H locs k n (vx_MQ below (k_Q X x P) (k_XQ X P) args s K N (fun q => cx_z X ≤ q)) (F0 mi pc lj stk) := by
  intro T hT XX
  have hL2 : ∀ L : List Loc, (∀ q ∈ L, cx_z X ≤ q.base) → ∀ q ∈ locs ++ L, cx_z X ≤ q.base := fun L h9 q hq => (List.mem_append.mp hq).elim (hL q) (h9 q)
  obtain ⟨v, st₀, t, T', L, h0, X', hLL, e1, e2, hq, go⟩ := hr T hT XX
  obtain ⟨r, h', hv, hP, hwf, hR', hsz⟩ := hq
  cases hv
  obtain ⟨t2, a1, b1⟩ := kr r h' hP hg X p e s mi args below meth c T'.heap (locs ++ L) lj S (by rw [e1]; exact hR') (by rw [e1]; rw [h0] at hsz; exact Nat.le_trans hz hsz) (hL2 L hLL) hl (by
    intro w hw2
    rcases List.mem_append.mp hw2 with h9 | h9
    · exact hwf w (by cases r with | none => cases h9 | some u => rw [List.mem_singleton.mp h9])
    · exact hs w h9) hw T' rfl X'
  rw [← k_retl] at a1
  exact ⟨t2, go t2 a1, b1⟩
end Calls9
section Calls10
variable {x : Bool} {d K N : Nat} {m : PM} {P : PO → PH → Prop} {k n pc nx : Nat} {ls : List (Option PV)} {st : List PV} {h : PH}
theorem k_revmap (X : Cx) (as : List PV) (st : List PV) : ((as.reverse ++ st).map (k_v X)) = (as.map (k_v X)).reverse ++ st.map (k_v X) := by simp
theorem p_callV {m' : PM} {as : List PV} {a ci : Nat} {fs : List PV} {z : Int} {b2 : Nat} {t : List Nat} {d' K' N' : Nat} {P' : PO → PH → Prop} (hc : k_lk (pm_c m) pc = some ((48, z, 0, b2, t), nx)) (hl1 : k_LV (pm_o m) z.toNat m' as.length) (ha : h.2 a = some (.inr (ci, fs))) (hcl : k_R ci = (pm_y m').cls) (hev : k_Ev x d' K' N' m' (vR a :: as) h P') (hd1 : d' + 1 ≤ d) (hcs : k_cs st ≤ 8) (hk : k + K' ≤ K) (hn : n + N' ≤ N)
    (kr : ∀ r h', P' (.inl r) h' → k_Wp x d K N m P (k + K') (n + N') nx ls (r.toList ++ st) h')
    (kx : ∀ (E : String) (h' : PH), P' (.inr E) h' → pm_h m = [] ∧ P (.inr E) h') : k_Wp x d K N m P k n pc ls (as.reverse ++ vR a :: st) h := by
  intro hg X p e s mi args below meth c H locs lj S hR hz hL hl hs hw
  obtain ⟨hd, rfl⟩ := k_dc_ok (k_at_chk hg hc)
  obtain ⟨l1, l2, l3, l4⟩ := hl1
  have hKn := S.2.2.2.2.2.2.2.2.2.1
  obtain ⟨-, ⟨r, hr, hlen, cell, q1, q2, q3, -⟩, -⟩ := k_cellO hR ha
  have hcell : ∃ cellB : Cell, H[k_ad X a]? = some cellB ∧ cellB.vm.isStatics = false ∧ s.vm.findClass (pm_y m').cls = some cellB.cls := ⟨cell, q1, by rw [q3]; rfl, by rw [q2, ← hcl, ← (k_cls hr).2.2.2]; exact (hKn.1.1 ci r hr).2.1⟩
  have hwf : ∀ v ∈ vR a :: as, k_wfV v := fun v hv => (List.mem_cons.mp hv).elim (fun e1 => by rw [e1]; trivial) (fun h9 => hs v (by simp [h9]))
  have hst : ∀ v ∈ st, k_wfV v := fun v hv => hs v (by simp [hv])
  rw [k_revmap]
  refine k_run (a' := ((vR a :: as).map (k_v X)).toArray) (vx_runV (As := as.map (k_v X)) (rest := st.map (k_v X)) (b := k_ad X a) (cc := pm_b m) (nL := pm_n m) (Ts := k_tb) (own := k_R (pm_o m)) ⟨S.1, S.2.1, S.2.2.2.1, S.2.2.2.2.1, S.2.2.2.2.2.1⟩ (hev l4.2.2.2.2.z X hwf) (cwV as.length S.2.2.2.2.2.1 (k_goodin (fun w hw9 => ?_)) (k_yok_ws l4) rfl rfl ⟨rfl, l4.2.1⟩ ⟨hd1, ?_⟩) ⟨k_blind X x h _, hcell, fun U hU hW => ⟨rfl, by rw [hU]; exact hR, k_Kn.warm hW hKn⟩⟩ rfl (by simp) hl.1 rfl ?_ hd ⟨hk, hn⟩) hg S hz hL hl hst hw hk hn kr kx
  · unfold wsV at hw9
    rcases List.mem_append.mp hw9 with h9 | h9
    · simp only [List.mem_cons, List.not_mem_nil, or_false] at h9
      rcases h9 with rfl | rfl | rfl | rfl
      · exact l1
      · exact l2
      · exact l3
      · exact l4.2.2.2.1
    · exact k_yok_in l4 w h9
  · show 8 + (pm_n m' + 11) + 64 * d' ≤ 64 * d
    have := l4.2.2.1; omega
  · rw [k_cs_eq]; show 2 * 0 + _ ≤ 8; omega
theorem p_callS {m' : PM} {as : List PV} {z : Int} {b2 : Nat} {t : List Nat} {d' K' N' : Nat} {P' : PO → PH → Prop} (hc : k_lk (pm_c m) pc = some ((48, z, 1, b2, t), nx)) (hl1 : k_LS (pm_o m) z.toNat m' as.length) (hev : k_Ev x d' K' N' m' as h P') (hd1 : d' + 1 ≤ d) (hcs : k_cs st ≤ 8) (hk : k + K' ≤ K) (hn : n + N' ≤ N)
    (kr : ∀ r h', P' (.inl r) h' → k_Wp x d K N m P (k + K') (n + N') nx ls (r.toList ++ st) h')
    (kx : ∀ (E : String) (h' : PH), P' (.inr E) h' → pm_h m = [] ∧ P (.inr E) h') : k_Wp x d K N m P k n pc ls (as.reverse ++ st) h := by
  intro hg X p e s mi args below meth c H locs lj S hR hz hL hl hs hw
  obtain ⟨hd, rfl⟩ := k_dc_ok (k_at_chk hg hc)
  obtain ⟨l1, l2, l4⟩ := hl1
  have hKn := S.2.2.2.2.2.2.2.2.2.1
  have hwf : ∀ v ∈ as, k_wfV v := fun v hv => hs v (by simp [hv])
  have hst : ∀ v ∈ st, k_wfV v := fun v hv => hs v (by simp [hv])
  rw [k_revmap]
  refine k_run (a' := (as.map (k_v X)).toArray) (vx_runS (As := as.map (k_v X)) (rest := st.map (k_v X)) (cc := pm_b m) (nL := pm_n m) (Ts := k_tb) (own := k_R (pm_o m)) ⟨S.1, S.2.1, S.2.2.2.1, S.2.2.2.2.1, S.2.2.2.2.2.1⟩ (hev l4.2.2.2.2.z X hwf) ⟨callB_of as.length S.2.2.2.2.2.1 (k_goodin (k_yok_in l4)) (k_yok_ws l4) rfl rfl (S.2.2.2.2.2.1 _ l4.2.2.2.1) (S.2.2.2.2.2.1 _ l1) l4.2.1 ⟨hd1, ?_⟩, S.2.2.2.2.2.1 _ l2⟩ ⟨k_blind X x h _, fun U hU hW => ⟨rfl, by rw [hU]; exact hR, k_Kn.warm hW hKn⟩⟩ rfl (by simp) hl.1 rfl ?_ hd ⟨hk, hn⟩) hg S hz hL hl hst hw hk hn kr kx
  · show 8 + (pm_n m' + 11) + 64 * d' ≤ 64 * d
    have := l4.2.2.1; omega
  · rw [k_cs_eq]; show 2 * 0 + _ ≤ 8; omega
theorem p_callSN {m' : PM} {as : List PV} {z : Int} {b2 : Nat} {t : List Nat} {d' K' N' : Nat} {P' : PO → PH → Prop} (hc : k_lk (pm_c m) pc = some ((48, z, 1, b2, t), nx)) (hl1 : k_LSN (pm_o m) z.toNat m' as.length) (hev : k_Ev x d' K' N' m' as h P') (hno : ∀ E h', ¬ P' (.inr E) h') (hd1 : d' + 1 ≤ d) (hcs : k_cs st ≤ 8) (hk : k + K' ≤ K) (hn : n + N' ≤ N)
    (kr : ∀ r h', P' (.inl r) h' → k_Wp x d K N m P (k + K') (n + N') nx ls (r.toList ++ st) h') : k_Wp x d K N m P k n pc ls (as.reverse ++ st) h := by
  intro hg X p e s mi args below meth c H locs lj S hR hz hL hl hs hw
  obtain ⟨hd, rfl⟩ := k_dc_ok (k_at_chk hg hc)
  obtain ⟨l1, l2, l4⟩ := hl1
  have hKn := S.2.2.2.2.2.2.2.2.2.1
  have hwf : ∀ v ∈ as, k_wfV v := fun v hv => hs v (by simp [hv])
  have hst : ∀ v ∈ st, k_wfV v := fun v hv => hs v (by simp [hv])
  rw [k_revmap]
  refine k_runN (a' := (as.map (k_v X)).toArray) (va_runSN (As := as.map (k_v X)) (rest := st.map (k_v X)) (cc := pm_b m) (nL := pm_n m) (Ts := k_tb) (own := k_R (pm_o m)) (host := RX11) ⟨S.1, S.2.1, S.2.2.2.1, S.2.2.2.2.1, S.2.2.2.2.2.1⟩ (k_Met hev hno l4.2.2.2.2.z X hwf) ⟨va_cnB as.length S.2.2.2.2.2.1 (k_goodin (k_yok_in l4)) (k_yok_ws l4) rfl rfl (hKn.2.2.2.2.2.1 _ l1) (S.2.2.2.2.2.1 _ l4.2.2.2.1) l4.2.1 ⟨hd1, ?_⟩, S.2.2.2.2.2.1 _ l2, trivial⟩ ⟨k_blind X x h _, fun U hU hW => ⟨rfl, by rw [hU]; exact hR, k_Kn.warm hW hKn⟩⟩ rfl (by simp) hl.1 rfl ?_ hd ⟨hk, hn⟩) hg S hz hL hl hst hw kr
  · show 8 + (pm_n m' + 11) + 64 * d' ≤ 64 * d
    have := l4.2.2.1; omega
  · rw [k_cs_eq]; show 2 * 0 + _ ≤ 8; omega
theorem p_callI {m' : PM} {as : List PV} {a : Nat} {z : Int} {b2 : Nat} {t : List Nat} {d' K' N' : Nat} {P' : PO → PH → Prop} (hc : k_lk (pm_c m) pc = some ((48, z, 2, b2, t), nx)) (hl1 : k_LI (pm_o m) z.toNat m' as.length) (hev : k_Ev x d' K' N' m' (vR a :: as) h P') (hno : ∀ E h', ¬ P' (.inr E) h') (hd1 : d' + 1 ≤ d) (hcs : k_cs st ≤ 8) (hk : k + K' ≤ K) (hn : n + N' ≤ N)
    (kr : ∀ r h', P' (.inl r) h' → k_Wp x d K N m P (k + K') (n + N') nx ls (r.toList ++ st) h') : k_Wp x d K N m P k n pc ls (as.reverse ++ vR a :: st) h := by
  intro hg X p e s mi args below meth c H locs lj S hR hz hL hl hs hw
  obtain ⟨hd, rfl⟩ := k_dc_ok (k_at_chk hg hc)
  obtain ⟨l1, l2, l3, l5, l4⟩ := hl1
  have hKn := S.2.2.2.2.2.2.2.2.2.1
  have hwf : ∀ v ∈ vR a :: as, k_wfV v := fun v hv => (List.mem_cons.mp hv).elim (fun e1 => by rw [e1]; trivial) (fun h9 => hs v (by simp [h9]))
  have hst : ∀ v ∈ st, k_wfV v := fun v hv => hs v (by simp [hv])
  have hws := k_yok_ws l4
  rw [l5] at hws
  rw [k_revmap]
  refine k_runN (a' := ((vR a :: as).map (k_v X)).toArray) (va_runI (As := as.map (k_v X)) (b := k_ad X a) (rest := st.map (k_v X)) (cc := pm_b m) (nL := pm_n m) (Ts := k_tb) (own := k_R (pm_o m)) ⟨S.1, S.2.1, S.2.2.2.1, S.2.2.2.2.1, S.2.2.2.2.2.1⟩ (k_Met hev hno l4.2.2.2.2.z X hwf) (cwI as.length S.2.2.2.2.2.1 (k_goodin (k_yok_in l4)) hws rfl rfl (S.2.2.2.2.2.1 _ l4.2.2.2.1) (S.2.2.2.2.2.1 _ l1) (S.2.2.2.2.2.1 _ l2) l3 l4.2.1 ⟨hd1, ?_⟩) ⟨k_blind X x h _, fun U hU hW => ⟨rfl, by rw [hU]; exact hR, k_Kn.warm hW hKn⟩⟩ rfl (by simp) hl.1 rfl ?_ hd ⟨hk, hn⟩) hg S hz hL hl hst hw kr
  · show 8 + (pm_n m' + 11) + 64 * d' ≤ 64 * d
    have := l4.2.2.1; omega
  · rw [k_cs_eq]; show 2 * 0 + _ ≤ 8; omega
theorem p_callIN {m' : PM} {as : List PV} {a : Nat} {z : Int} {b2 : Nat} {t : List Nat} {d' K' N' : Nat} {P' : PO → PH → Prop} (hc : k_lk (pm_c m) pc = some ((48, z, 2, b2, t), nx)) (hl1 : k_LIN (pm_o m) z.toNat m' as.length) (hev : k_Ev x d' K' N' m' (vR a :: as) h P') (hno : ∀ E h', ¬ P' (.inr E) h') (hd1 : d' + 1 ≤ d) (hcs : k_cs st ≤ 8) (hk : k + K' ≤ K) (hn : n + N' ≤ N)
    (kr : ∀ r h', P' (.inl r) h' → k_Wp x d K N m P (k + K') (n + N') nx ls (r.toList ++ st) h') : k_Wp x d K N m P k n pc ls (as.reverse ++ vR a :: st) h := by
  intro hg X p e s mi args below meth c H locs lj S hR hz hL hl hs hw
  obtain ⟨hd, rfl⟩ := k_dc_ok (k_at_chk hg hc)
  obtain ⟨l1, l2, l3, l5, l4⟩ := hl1
  have hKn := S.2.2.2.2.2.2.2.2.2.1
  have hwf : ∀ v ∈ vR a :: as, k_wfV v := fun v hv => (List.mem_cons.mp hv).elim (fun e1 => by rw [e1]; trivial) (fun h9 => hs v (by simp [h9]))
  have hst : ∀ v ∈ st, k_wfV v := fun v hv => hs v (by simp [hv])
  have hws := k_yok_ws l4
  rw [l5] at hws
  rw [k_revmap]
  refine k_runN (a' := ((vR a :: as).map (k_v X)).toArray) (va_runIN (As := as.map (k_v X)) (b := k_ad X a) (rest := st.map (k_v X)) (cc := pm_b m) (nL := pm_n m) (Ts := k_tb) (own := k_R (pm_o m)) (host := RX11) ⟨S.1, S.2.1, S.2.2.2.1, S.2.2.2.2.1, S.2.2.2.2.2.1⟩ (k_Met hev hno l4.2.2.2.2.z X hwf) ⟨va_cnB as.length S.2.2.2.2.2.1 (k_goodin (k_yok_in l4)) hws rfl rfl (hKn.2.2.2.2.2.1 _ l1) (S.2.2.2.2.2.1 _ l4.2.2.2.1) l4.2.1 ⟨hd1, ?_⟩, l3, S.2.2.2.2.2.1 _ l2⟩ ⟨k_blind X x h _, fun U hU hW => ⟨rfl, by rw [hU]; exact hR, k_Kn.warm hW hKn⟩⟩ rfl (by simp) hl.1 rfl ?_ hd ⟨hk, hn⟩) hg S hz hL hl hst hw kr
  · show 8 + (pm_n m' + 11) + 64 * d' ≤ 64 * d
    have := l4.2.2.1; omega
  · rw [k_cs_eq]; show 2 * 0 + _ ≤ 8; omega
end Calls10
