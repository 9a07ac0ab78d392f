/-! rows of the heap: fields, arrays, makings, returns -/
def hS (h : PH) (a : Nat) (c : PC) : PH := (h.1, fun b => if b = a then some c else h.2 b)
def fS (f : Nat → Int) (i : Nat) (z : Int) : Nat → Int := fun j => if j = i then z else f j
theorem hS_1 (h : PH) (a : Nat) (c : PC) : (hS h a c).1 = h.1 := rfl
theorem hS_2 (h : PH) (a : Nat) (c : PC) (b : Nat) : (hS h a c).2 b = if b = a then some c else h.2 b := rfl
theorem hS_s (h : PH) (a : Nat) (c : PC) : (hS h a c).2 a = some c := by simp [hS]
theorem hS_n {h : PH} {a b : Nat} {c : PC} (hn : b ≠ a) : (hS h a c).2 b = h.2 b := by simp [hS, hn]
theorem k_ad_inj {X : Cx} (hb : cx_b X < cx_z X) {a b : Nat} (h : k_ad X a = k_ad X b) : a = b := by
  cases a <;> cases b <;> simp only [k_ad] at h <;> omega
theorem k_at_kept {X : Cx} {a : Nat} {c : PC} {H H1 : Heap} (h : k_at X a c H) (hq : H1[k_ad X a]? = H[k_ad X a]?) : k_at X a c H1 := by
  unfold k_at at h ⊢
  split at h
  · exact h
  · exact ⟨h.1, h.2.1, hq.trans h.2.2⟩
  · obtain ⟨h0, r, h1, h2, h3⟩ := h
    exact ⟨h0, r, h1, h2, h3.kept hq⟩
theorem k_Rp_set {X : Cx} {x : Bool} {h : PH} {H H1 : Heap} {a : Nat} {c0 c : PC} (hb : cx_b X < cx_z X) (hR : k_Rp X x h H) (ha : h.2 a = some c0) (h0 : 0 < a) (hw : k_wfC c) (hc : k_at X a c H1) (hz : H1.size = H.size) (ho : ∀ q, q ≠ k_ad X a → H1[q]? = H[q]?) : k_Rp X x (hS h a c) H1 := by
  obtain ⟨r1, r2, r3, r4, r5⟩ := hR
  have hz2 : cx_z X ≤ k_ad X a := by cases a with
    | zero => omega
    | succ a => simp [k_ad]
  refine ⟨fun q hq => ?_, r2, by rw [hz]; exact r3, fun hx => by rw [hz]; exact r4 hx, fun b cb hbb => ?_⟩
  · rw [ho q (by omega)]; exact r1 q hq
  · by_cases e : b = a
    · subst e
      rw [hS_s] at hbb
      cases hbb
      exact ⟨(r5 _ _ ha).1, hw, hc⟩
    · rw [hS_n e] at hbb
      obtain ⟨q1, q2, q3⟩ := r5 b cb hbb
      exact ⟨q1, q2, k_at_kept q3 (ho _ (fun z => e (k_ad_inj hb z)))⟩
theorem k_bz {X : Cx} {s : State} (h : k_Kn X s) : cx_b X < cx_z X := h.2.2.2.2.2.2.2.1
theorem k_arr {X : Cx} {s : State} (h : k_Kn X s) {kd : Nat} (hk : kd < 4) : ArrOfT s (cx_A X kd) (k_et kd) := by
  match kd, hk with
  | 0, _ => exact (h.1.2 0 _ rfl).1
  | 1, _ => exact (h.1.2 1 _ rfl).1
  | 2, _ => exact (h.1.2 2 _ rfl).1
  | 3, _ => exact (h.1.2 3 _ rfl).1
theorem k_cellA {X : Cx} {x : Bool} {h : PH} {H : Heap} {a kd n : Nat} {f : Nat → Int} (hR : k_Rp X x h H) (ha : h.2 a = some (.inl (kd, n, f))) (hk : kd < 4) : 0 < a ∧ H[k_ad X a]? = some (arrV (cx_A X kd) n (fun j => k_ev kd (f j))) ∧ n < 2147483648 ∧ ∀ j : Nat, j < n → k_rg kd (f j) := by
  obtain ⟨-, -, -, -, r5⟩ := hR
  obtain ⟨-, q2, q3⟩ := r5 a _ ha
  unfold k_at at q3
  split at q3
  · rename_i e; cases e; omega
  · rename_i e; cases e; exact ⟨q3.1, q3.2.2, q2.1, q2.2⟩
  · rename_i e; cases e
theorem k_cellO {X : Cx} {x : Bool} {h : PH} {H : Heap} {a ci : Nat} {fs : List PV} (hR : k_Rp X x h H) (ha : h.2 a = some (.inr (ci, fs))) : 0 < a ∧ (∃ r : vw_C, k_cl[ci]? = some r ∧ fs.length = r.2.2 ∧ t_OB (k_ad X a) (cx_C X ci) r.2.2 (cx_I X ci) H (vp_V (fs.map (k_v X)))) ∧ ∀ v ∈ fs, k_wfV v := by
  obtain ⟨-, -, -, -, r5⟩ := hR
  obtain ⟨-, q2, q3⟩ := r5 a _ ha
  exact ⟨q3.1, q3.2, q2⟩
section Steps2
variable {x : Bool} {d K N : Nat} {m : PM} {P : PO → PH → Prop} {k n pc nx : Nat} {ls : List (Option PV)} {st : List PV} {h : PH}
theorem p_get {a ci kf : Nat} {z : Int} {t : List Nat} {fs : List PV} {v : PV} (hc : k_lk (pm_c m) pc = some ((22, z, ci, kf, t), nx)) (ha : h.2 a = some (.inr (ci, fs))) (hv : fs[kf]? = some v) (kk : k_Wp x d K N m P k n nx ls (v :: st) h) : k_Wp x d K N m P k n pc ls (vR a :: st) h := by
  intro hg X p e s mi args below meth c H locs lj S hR hz hL hl hs hw
  have h0 := k_at_chk hg hc
  simp only [k_chk, Bool.and_eq_true] at h0
  obtain ⟨h0, h1⟩ := h0
  obtain ⟨hd, rfl⟩ := k_dc_ok h0
  obtain ⟨r, hr, hk, hlk⟩ := k_isfl_ok h1
  obtain ⟨-, ⟨r', hr', hlen, hob⟩, hwf⟩ := k_cellO hR ha
  have e1 : r' = r := Option.some.inj (hr'.symm.trans hr)
  subst e1
  obtain ⟨C, T, NN⟩ := r'
  have hk2 := kk hg X p e s mi args below meth c H locs lj S hR hz hL hl (k_wcons (hwf v (List.mem_of_getElem? hv)) (fun w hw => hs w (by simp [hw]))) hw
  exact va_get (D := (cx_C X, cx_I X)) (ws := [(k_ad X a, .inr (ci, fs.map (k_v X)))]) S.1 S.2.1 S.2.2.2.2.2.1 (k_cls hr).1 S.2.2.2.2.1 S.2.2.2.2.2.2.2.2.2.1.1 (fun i q hq => by
    cases i with
    | zero => cases hq; exact ⟨_, hr, hob⟩
    | succ i => simp at hq) 0 rfl hr kf hk (S.2.2.2.2.2.1 _ hlk) (fun _ h9 => h9) (by rw [List.getElem?_map, hv]; rfl) hd hk2
/-- a field's type takes a value -/
def k_fit (t : List Nat) (v : PV) : Prop := match t, v with
  | [0], .inl _ => True
  | [1], .inl z => z = 0 ∨ z = 1
  | [2], .inr (.inr _) => True
  | _, _ => False
theorem k_fit_ok {X : Cx} {ty : FieldType} {v : PV} (h : k_fit [k_fcode ty] v) : narrow ty (k_v X v) = k_v X v ∧ fits ty (k_v X v) = true := by
  cases ty <;> rcases v with z | z | z | z <;> simp only [k_fcode, k_fit] at h <;> first | exact ⟨rfl, rfl⟩ | exact ⟨n_nz h, n_fz h⟩ | exact h.elim
theorem k_setF {X : Cx} {fs : List PV} {kf : Nat} {v : PV} : (fs.map (k_v X)).set kf (k_v X v) = (fs.set kf v).map (k_v X) := by rw [List.map_set]
theorem p_put {a ci kf : Nat} {z : Int} {t : List Nat} {fs : List PV} {v : PV} (hc : k_lk (pm_c m) pc = some ((23, z, ci, kf, t), nx)) (ha : h.2 a = some (.inr (ci, fs))) (hf : k_fit t v) (kk : k_Wp x d K N m P k n nx ls st (hS h a (.inr (ci, fs.set kf v)))) : k_Wp x d K N m P k n pc ls (v :: vR a :: st) h := by
  intro hg X p e s mi args below meth c H locs lj S hR hz hL hl hs hw
  have h0 := k_at_chk hg hc
  simp only [k_chk, Bool.and_eq_true, decide_eq_true_eq] at h0
  obtain ⟨⟨⟨h0, h1⟩, rfl⟩, h2⟩ := h0
  obtain ⟨hd, rfl⟩ := k_dc_ok h0
  obtain ⟨r, hr, hk, hlk⟩ := k_isfl_ok h1
  rw [hr] at h2
  obtain ⟨ha0, ⟨r', hr', hlen, hob⟩, hwf⟩ := k_cellO hR ha
  have e1 : r' = r := Option.some.inj (hr'.symm.trans hr)
  subst e1
  obtain ⟨C, T, NN⟩ := r'
  obtain ⟨w1, w2, w3, w4⟩ := k_cls hr
  obtain ⟨f1, f2⟩ := k_fit_ok (X := X) hf
  have hKn := S.2.2.2.2.2.2.2.2.2.1
  have hv : k_wfV v := hs _ List.mem_cons_self
  have hap := va_apart (own := k_R (pm_o m)) S.2.2.2.2.2.1 w1 (k_ty ci) w2 w3 hKn.1 hr
  obtain ⟨cell, q1, q2, q3, q4⟩ := hob
  obtain ⟨hSl, hfc, kC, hkC, hkind⟩ := hKn.1.1 ci _ hr
  obtain ⟨cf, kf2, fi, f, hi, hsl⟩ := hSl kf hk
  have hst := (u_facts hfc hkC (u_lays S.2.2.2.2.2.1 w1 hk) hi).1
  have hlay := S.2.2.2.2.2.1 _ (w1 _ (u_in_lay hk))
  have fin : ∀ H' : Heap, H'[k_ad X a]? = some (cell.setSlot f.slot (k_v X v)) → H'.size = H.size → (∀ q, q ≠ k_ad X a → H'[q]? = H[q]?) →
      W p (cx_l X) e (k_rm d K N) s mi args below meth c H' (locs ++ [⟨k_ad X a, f.slot⟩]) k n (vx_MQ below (k_Q X x P) (k_XQ X P) args s K N (fun q => cx_z X ≤ q)) (F0 mi (pc + 3) lj (st.map (k_v X))) := by
    intro H' e1 e2 e3
    rw [hsl] at e1 ⊢
    refine kk hg X p e s mi args below meth c H' _ lj S (k_Rp_set (k_bz hKn) hR ha ha0 ?_ ⟨ha0, _, hr, ?_, ?_⟩ e2 e3) (by rw [e2]; exact hz) ?_ hl (fun w hw => hs w (by simp [hw])) hw
    · intro w hw
      rcases List.mem_or_eq_of_mem_set hw with h9 | h9
      · exact hwf w h9
      · rw [h9]; exact hv
    · rw [List.length_set]; exact hlen
    · rw [← k_setF]
      exact t_OB.to (V := updV (vp_V (fs.map (k_v X))) kf (k_v X v)) ⟨_, e1, q2, q3, t_set q4 hap hk _⟩ (fun j _ => vp_updV_set (by rw [List.length_map, hlen]; exact hk) _ j)
    · intro q hq
      rcases List.mem_append.mp hq with h9 | h9
      · exact hL q h9
      · rw [List.mem_singleton.mp h9]
        show cx_z X ≤ k_ad X a
        cases a with
        | zero => omega
        | succ a => simp [k_ad]
  by_cases hfin : (T kf).2.2.2 = true
  · have h5 : (pm_y m).name = "<init>" ∧ (T kf).1 = k_R (pm_o m) := by simpa [hfin] using h2
    unfold u_lay at hlay
    rw [if_pos hfin] at hlay
    have hcf : mi.cls = cf := by
      obtain ⟨_, _, c', _, _, _, -, -, hf', -, -, -, hown2, -⟩ := Cond.laysFinal_spec hlay
      have e1 : c' = cf := by have := hi.symm.trans hf'; simp at this; exact this.1.symm
      rw [h5.2] at hown2
      rw [← e1]; exact Option.some.inj (S.2.2.2.2.1.symm.trans hown2)
    have h6 := u_fits hfc hkC hkind (Or.inr hlay) hi (w2 kf hk) f1 f2
    exact W.putFinK S.1 S.2.1 S.2.2.2.2.1 (S.2.2.2.2.2.1 _ hlk) hi hst hcf (S.2.2.2.2.2.2.2.2.1.trans h5.1) (by rw [q2]; exact h6) q1 q3 (by rw [hsl]; exact k2_hasslot (q4 kf hk)) rfl rfl hd fin
  · have hfin2 : (T kf).2.2.2 = false := by simpa using hfin
    unfold u_lay at hlay
    rw [if_neg hfin] at hlay
    have h6 := u_store hfc hkC hkind hlay hi (w2 kf hk) f1 f2
    exact W.putK S.1 S.2.1 (f := f) ⟨S.2.2.2.2.1, S.2.2.2.2.2.1 _ hlk, ⟨_, _, _, hi⟩, hst⟩ (by rw [q2]; exact h6) q1 q3 (by rw [hsl]; exact k2_hasslot (q4 kf hk)) rfl rfl hd fin
theorem p_iald {a nn kd : Nat} {z i : Int} {b1 b2 : Nat} {t : List Nat} {f : Nat → Int} (hc : k_lk (pm_c m) pc = some ((24, z, b1, b2, t), nx)) (ha : h.2 a = some (.inl (kd, nn, f))) (hk : kd = 0 ∨ kd = 4) (h0 : 0 ≤ i) (h1 : i < nn) (kk : k_Wp x d K N m P k n nx ls (vI (f i.toNat) :: st) h) : k_Wp x d K N m P k n pc ls (vI i :: vR a :: st) h := by
  intro hg X p e s mi args below meth c H locs lj S hR hz hL hl hs hw
  obtain ⟨hd, rfl⟩ := k_dc_ok (k_at_chk hg hc)
  have hi : iR i := hs _ List.mem_cons_self
  have hKn := S.2.2.2.2.2.2.2.2.2.1
  have hlt : i.toNat < nn := by omega
  have hin := n_in (n := nn) hi h0 h1
  rcases hk with rfl | rfl
  · obtain ⟨-, hcell, -, hrg⟩ := k_cellA hR ha (by decide)
    have hk2 := kk hg X p e s mi args below meth c H locs lj S hR hz hL hl (k_wcons (hrg _ hlt) (fun w hw => hs w (by simp [hw]))) hw
    exact W.iald (v := .int (Int32.ofInt (f i.toNat))) S.1 S.2.1 hcell (k_arr hKn (kd := 0) (by decide) nn _) (fun q => by cases q) (by rw [arrV_size]; exact hin) (by rw [n_cl hi, arrV_read _ _ hlt]; rfl) rfl rfl hd hk2
  · have hR2 := hR.2.2.2.2 a _ ha
    obtain ⟨-, hwf, rfl, hn, hf⟩ := hR2
    subst hn
    have hX := hKn.2.2.2.2.2.2.1
    have hk2 := kk hg X p e s mi args below meth c H locs lj S hR hz hL hl (k_wcons (show iR _ by rw [hf]; exact n_rng _) (fun w hw => hs w (by simp [hw]))) hw
    have hbz := k_bz hKn
    have hsz := hKn.2.2.2.2.2.2.2.2.1
    refine va_sld (H0 := cx_H X) (A := fun q => cx_z X ≤ q) (locs := locs) S.1 S.2.1 hX (by omega) (by show ¬ cx_z X ≤ cx_b X; omega) ⟨by have := S.2.2.2.2.2.2.2.2.2.2.1; omega, fun q hq _ => hR.1 q (by omega), hL⟩ hin hd ?_
    rw [n_cl hi]
    have e1 : Int32.ofInt (f i.toNat) = cx_x X i.toNat := by rw [hf]; exact n_of _
    have e2 : ((vI (f i.toNat) :: st).map (k_v X)) = (Value.int (cx_x X i.toNat)) :: st.map (k_v X) := by
      show Value.int (Int32.ofInt (f i.toNat)) :: _ = _
      rw [e1]
    rw [e2] at hk2
    exact hk2
theorem p_bald {a nn kd : Nat} {z i : Int} {b1 b2 : Nat} {t : List Nat} {f : Nat → Int} (hc : k_lk (pm_c m) pc = some ((26, z, b1, b2, t), nx)) (ha : h.2 a = some (.inl (kd, nn, f))) (hk : kd = 1 ∨ kd = 2) (h0 : 0 ≤ i) (h1 : i < nn) (kk : k_Wp x d K N m P k n nx ls (vI (f i.toNat) :: st) h) : k_Wp x d K N m P k n pc ls (vI i :: vR a :: st) h := by
  intro hg X p e s mi args below meth c H locs lj S hR hz hL hl hs hw
  obtain ⟨hd, rfl⟩ := k_dc_ok (k_at_chk hg hc)
  have hi : iR i := hs _ List.mem_cons_self
  have hKn := S.2.2.2.2.2.2.2.2.2.1
  have hlt : i.toNat < nn := by omega
  have hin := n_in (n := nn) hi h0 h1
  rcases hk with rfl | rfl
  · obtain ⟨-, hcell, -, hrg⟩ := k_cellA hR ha (by decide)
    have hr := hrg _ hlt
    have hk2 := kk hg X p e s mi args below meth c H locs lj S hR hz hL hl (k_wcons (show iR _ from ⟨by have := hr.1; omega, by have := hr.2; omega⟩) (fun w hw => hs w (by simp [hw]))) hw
    exact W.bald (v := .int (Int32.ofInt (f i.toNat))) S.1 S.2.1 hcell (k_arr hKn (kd := 1) (by decide) nn _) (fun q => by cases q) (by rw [arrV_size]; exact hin) (by rw [n_cl hi, arrV_read _ _ hlt]; rfl) rfl rfl hd hk2
  · obtain ⟨-, hcell, -, hrg⟩ := k_cellA hR ha (by decide)
    have hr : f i.toNat = 0 ∨ f i.toNat = 1 := hrg _ hlt
    have hk2 := kk hg X p e s mi args below meth c H locs lj S hR hz hL hl (k_wcons (show iR _ from ⟨by omega, by omega⟩) (fun w hw => hs w (by simp [hw]))) hw
    exact W.zald (v := .int (Int32.ofInt (f i.toNat))) S.1 S.2.1 hcell (k_arr hKn (kd := 2) (by decide) nn _) (fun q => by cases q) (by rw [arrV_size]; exact hin) (by rw [n_cl hi, arrV_read _ _ hlt]; rfl) rfl rfl hd hk2
theorem p_lald {a nn : Nat} {z i : Int} {b1 b2 : Nat} {t : List Nat} {f : Nat → Int} (hc : k_lk (pm_c m) pc = some ((28, z, b1, b2, t), nx)) (ha : h.2 a = some (.inl (3, nn, f))) (h0 : 0 ≤ i) (h1 : i < nn) (kk : k_Wp x d K N m P k n nx ls (vL (f i.toNat) :: st) h) : k_Wp x d K N m P k n pc ls (vI i :: vR a :: st) h := by
  intro hg X p e s mi args below meth c H locs lj S hR hz hL hl hs hw
  obtain ⟨hd, rfl⟩ := k_dc_ok (k_at_chk hg hc)
  have hi : iR i := hs _ List.mem_cons_self
  have hKn := S.2.2.2.2.2.2.2.2.2.1
  have hlt : i.toNat < nn := by omega
  have hin := n_in (n := nn) hi h0 h1
  obtain ⟨-, hcell, -, hrg⟩ := k_cellA hR ha (by decide)
  have hk2 := kk hg X p e s mi args below meth c H locs lj S hR hz hL hl (k_wcons (show lR _ from hrg _ hlt) (fun w hw => hs w (by simp [hw]))) hw
  exact W.lald (v := .long (Int64.ofInt (f i.toNat))) S.1 S.2.1 hcell (k_arr hKn (kd := 3) (by decide) nn _) (fun q => by cases q) (by rw [arrV_size]; exact hin) (by rw [n_cl hi, arrV_read _ _ hlt]; rfl) rfl rfl hd hk2
theorem k_upA {X : Cx} {kd nn : Nat} {f : Nat → Int} {i : Nat} {z : Int} : (arrV (cx_A X kd) nn (fun j => k_ev kd (f j))).setSlot i (k_ev kd z) = arrV (cx_A X kd) nn (fun j => k_ev kd (fS f i z j)) := by
  rw [arrV_store]
  congr 1
  funext q
  by_cases hq : q = i
  · simp [updV, fS, hq]
  · simp [updV, fS, hq]
theorem k_wfup {kd nn : Nat} {f : Nat → Int} {i : Nat} {z : Int} (h1 : nn < 2147483648) (h2 : ∀ j : Nat, j < nn → k_rg kd (f j)) (hz : k_rg kd z) : k_wfC (.inl (kd, nn, fS f i z)) := by
  refine ⟨h1, fun j hj => ?_⟩
  show k_rg kd (fS f i z j)
  unfold fS
  split
  · exact hz
  · exact h2 j hj
theorem k_atA {X : Cx} {a kd nn : Nat} {f : Nat → Int} {H : Heap} (hk : kd < 4) (h0 : 0 < a) (hc : H[k_ad X a]? = some (arrV (cx_A X kd) nn (fun j => k_ev kd (f j)))) : k_at X a (.inl (kd, nn, f)) H := by
  unfold k_at
  split
  · rename_i e; cases e; omega
  · rename_i e; cases e; exact ⟨h0, hk, hc⟩
  · rename_i e; cases e
theorem k_locs {X : Cx} {locs : List Loc} {a i : Nat} (h0 : 0 < a) (hL : ∀ q ∈ locs, cx_z X ≤ q.base) : ∀ q ∈ locs ++ [⟨k_ad X a, i⟩], cx_z X ≤ q.base := by
  intro q hq
  rcases List.mem_append.mp hq with h9 | h9
  · exact hL q h9
  · rw [List.mem_singleton.mp h9]
    show cx_z X ≤ k_ad X a
    cases a with
    | zero => omega
    | succ a => simp [k_ad]
theorem p_iast {a nn : Nat} {z i v : Int} {b1 b2 : Nat} {t : List Nat} {f : Nat → Int} (hc : k_lk (pm_c m) pc = some ((25, z, b1, b2, t), nx)) (ha : h.2 a = some (.inl (0, nn, f))) (h0 : 0 ≤ i) (h1 : i < nn) (kk : k_Wp x d K N m P k n nx ls st (hS h a (.inl (0, nn, fS f i.toNat v)))) : k_Wp x d K N m P k n pc ls (vI v :: vI i :: vR a :: st) h := by
  intro hg X p e s mi args below meth c H locs lj S hR hz hL hl hs hw
  obtain ⟨hd, rfl⟩ := k_dc_ok (k_at_chk hg hc)
  have hv : iR v := hs _ List.mem_cons_self
  have hi : iR i := hs (vI i) (by simp)
  have hKn := S.2.2.2.2.2.2.2.2.2.1
  have hin := n_in (n := nn) hi h0 h1
  obtain ⟨ha0, hcell, hn, hrg⟩ := k_cellA hR ha (by decide)
  refine W.iast S.1 S.2.1 hcell (k_arr hKn (kd := 0) (by decide) nn _) (fun q => by cases q) (by rw [arrV_size]; exact hin) rfl rfl hd (fun H1 e1 e2 e3 => ?_)
  rw [n_cl hi] at e1 ⊢
  have e1 : H1[k_ad X a]? = some (arrV (cx_A X 0) nn (fun j => k_ev 0 (fS f i.toNat v j))) := e1.trans (congrArg some k_upA)
  exact kk hg X p e s mi args below meth c H1 _ lj S (k_Rp_set (k_bz hKn) hR ha ha0 (k_wfup hn hrg hv) (k_atA (by decide) ha0 e1) e2 e3) (by rw [e2]; exact hz) (k_locs ha0 hL) hl (fun w hw => hs w (by simp [hw])) hw
theorem p_last {a nn : Nat} {z i v : Int} {b1 b2 : Nat} {t : List Nat} {f : Nat → Int} (hc : k_lk (pm_c m) pc = some ((29, z, b1, b2, t), nx)) (ha : h.2 a = some (.inl (3, nn, f))) (h0 : 0 ≤ i) (h1 : i < nn) (kk : k_Wp x d K N m P k n nx ls st (hS h a (.inl (3, nn, fS f i.toNat v)))) : k_Wp x d K N m P k n pc ls (vL v :: vI i :: vR a :: st) h := by
  intro hg X p e s mi args below meth c H locs lj S hR hz hL hl hs hw
  obtain ⟨hd, rfl⟩ := k_dc_ok (k_at_chk hg hc)
  have hv : lR v := hs _ List.mem_cons_self
  have hi : iR i := hs (vI i) (by simp)
  have hKn := S.2.2.2.2.2.2.2.2.2.1
  have hin := n_in (n := nn) hi h0 h1
  obtain ⟨ha0, hcell, hn, hrg⟩ := k_cellA hR ha (by decide)
  refine W.last S.1 S.2.1 hcell (k_arr hKn (kd := 3) (by decide) nn _) (fun q => by cases q) (by rw [arrV_size]; exact hin) rfl rfl hd (fun H1 e1 e2 e3 => ?_)
  rw [n_cl hi] at e1 ⊢
  have e1 : H1[k_ad X a]? = some (arrV (cx_A X 3) nn (fun j => k_ev 3 (fS f i.toNat v j))) := e1.trans (congrArg some k_upA)
  exact kk hg X p e s mi args below meth c H1 _ lj S (k_Rp_set (k_bz hKn) hR ha ha0 (k_wfup hn hrg hv) (k_atA (by decide) ha0 e1) e2 e3) (by rw [e2]; exact hz) (k_locs ha0 hL) hl (fun w hw => hs w (by simp [hw])) hw
theorem p_bast {a nn kd : Nat} {z i v : Int} {b1 b2 : Nat} {t : List Nat} {f : Nat → Int} (hc : k_lk (pm_c m) pc = some ((27, z, b1, b2, t), nx)) (ha : h.2 a = some (.inl (kd, nn, f))) (hk : (kd = 1 ∧ -128 ≤ v ∧ v ≤ 127) ∨ (kd = 2 ∧ (v = 0 ∨ v = 1))) (h0 : 0 ≤ i) (h1 : i < nn) (kk : k_Wp x d K N m P k n nx ls st (hS h a (.inl (kd, nn, fS f i.toNat v)))) : k_Wp x d K N m P k n pc ls (vI v :: vI i :: vR a :: st) h := by
  intro hg X p e s mi args below meth c H locs lj S hR hz hL hl hs hw
  obtain ⟨hd, rfl⟩ := k_dc_ok (k_at_chk hg hc)
  have hi : iR i := hs (vI i) (by simp)
  have hKn := S.2.2.2.2.2.2.2.2.2.1
  have hin := n_in (n := nn) hi h0 h1
  rcases hk with ⟨rfl, hv⟩ | ⟨rfl, hv⟩
  · obtain ⟨ha0, hcell, hn, hrg⟩ := k_cellA hR ha (by decide)
    refine W.bast S.1 S.2.1 hcell (k_arr hKn (kd := 1) (by decide) nn _) (fun q => by cases q) (by rw [arrV_size]; exact hin) rfl rfl hd (fun H1 e1 e2 e3 => ?_)
    rw [n_nb hv, n_cl hi] at e1
    rw [n_cl hi]
    have e1 : H1[k_ad X a]? = some (arrV (cx_A X 1) nn (fun j => k_ev 1 (fS f i.toNat v j))) := e1.trans (congrArg some k_upA)
    exact kk hg X p e s mi args below meth c H1 _ lj S (k_Rp_set (k_bz hKn) hR ha ha0 (k_wfup hn hrg hv) (k_atA (by decide) ha0 e1) e2 e3) (by rw [e2]; exact hz) (k_locs ha0 hL) hl (fun w hw => hs w (by simp [hw])) hw
  · obtain ⟨ha0, hcell, hn, hrg⟩ := k_cellA hR ha (by decide)
    refine W.zast S.1 S.2.1 hcell (k_arr hKn (kd := 2) (by decide) nn _) (fun q => by cases q) (by rw [arrV_size]; exact hin) rfl rfl hd (fun H1 e1 e2 e3 => ?_)
    rw [n_nz hv, n_cl hi] at e1
    rw [n_cl hi]
    have e1 : H1[k_ad X a]? = some (arrV (cx_A X 2) nn (fun j => k_ev 2 (fS f i.toNat v j))) := e1.trans (congrArg some k_upA)
    exact kk hg X p e s mi args below meth c H1 _ lj S (k_Rp_set (k_bz hKn) hR ha ha0 (k_wfup hn hrg hv) (k_atA (by decide) ha0 e1) e2 e3) (by rw [e2]; exact hz) (k_locs ha0 hL) hl (fun w hw => hs w (by simp [hw])) hw
theorem p_alen {a nn kd : Nat} {z : Int} {b1 b2 : Nat} {t : List Nat} {f : Nat → Int} (hc : k_lk (pm_c m) pc = some ((30, z, b1, b2, t), nx)) (ha : h.2 a = some (.inl (kd, nn, f))) (kk : k_Wp x d K N m P k n nx ls (vI nn :: st) h) : k_Wp x d K N m P k n pc ls (vR a :: st) h := by
  intro hg X p e s mi args below meth c H locs lj S hR hz hL hl hs hw
  obtain ⟨hd, rfl⟩ := k_dc_ok (k_at_chk hg hc)
  have hKn := S.2.2.2.2.2.2.2.2.2.1
  have hn := (hR.2.2.2.2 a _ ha).2.1.1
  have hn : nn < 2147483648 := hn
  have hk2 := kk hg X p e s mi args below meth c H locs lj S hR hz hL hl (k_wcons (show iR (nn : Int) from ⟨by omega, by omega⟩) (fun w hw => hs w (by simp [hw]))) hw
  have hat := (hR.2.2.2.2 a _ ha).2.2
  have e2 : ((vI (nn : Int) :: st).map (k_v X)) = (Value.int (Int32.ofNat nn)) :: st.map (k_v X) := by
    show Value.int (Int32.ofInt (nn : Int)) :: _ = _
    rw [n_nI]; rfl
  rw [e2] at hk2
  unfold k_at at hat
  split at hat
  · rename_i e1; cases e1
    obtain ⟨rfl, rfl, -⟩ := hat
    have hX := hKn.2.2.2.2.2.2.1
    have hbz := k_bz hKn
    have hsz := hKn.2.2.2.2.2.2.2.2.1
    exact va_slen (b := cx_b X) (H0 := cx_H X) (A := fun q => cx_z X ≤ q) (locs := locs) S.1 S.2.1 hX (by omega) (by show ¬ cx_z X ≤ cx_b X; omega) ⟨by have := S.2.2.2.2.2.2.2.2.2.2.1; omega, fun q hq _ => hR.1 q (by omega), hL⟩ hd hk2
  · rename_i e1; cases e1
    obtain ⟨ha0, hk, hcell⟩ := hat
    exact W.alen S.1 S.2.1 hcell (k_arr hKn hk nn _) (by rw [arrV_size]) rfl rfl hd hk2
  · rename_i e1; cases e1
end Steps2
