/-! small rows -/
theorem le_nil {m : List (Option PV)} : k_le [] m := fun j v h => by cases h
theorem le_n {l m : List (Option PV)} {b : Option PV} (h : k_le l m) : k_le (none :: l) (b :: m) := fun j v hj => by
  cases j with
  | zero => cases hj
  | succ j => exact h j v hj
theorem le_s {l m : List (Option PV)} {a : Option PV} (h : k_le l m) : k_le (a :: l) (a :: m) := fun j v hj => by
  cases j with
  | zero => exact hj
  | succ j => exact h j v hj
theorem hS_id {h : PH} {a : Nat} {c : PC} (hc : h.2 a = some c) : hS h a c = h := PHx rfl (fun z => by
  simp only [hS_2]
  split
  · rename_i hz; rw [hz, hc]
  · rfl)
/-- what lies beyond an array's end is nobody's business -/
theorem p_eqA {x : Bool} {d K N : Nat} {m : PM} {P : PO → PH → Prop} {k n pc : Nat} {ls : List (Option PV)} {st : List PV} {h : PH} {a kd nn : Nat} {f : Nat → Int} (g : Nat → Int) (ha : h.2 a = some (.inl (kd, nn, f))) (hk : kd < 4) (hfg : ∀ j, j < nn → f j = g j) (kk : k_Wp x d K N m P k n pc ls st (hS h a (.inl (kd, nn, g)))) : k_Wp x d K N m P k n pc ls st h := by
  intro hg X p e s mi args below meth c H locs lj S hR hz hL hl hs hw
  have hKn := S.2.2.2.2.2.2.2.2.2.1
  obtain ⟨ha0, hc, hn, hr⟩ := k_cellA hR ha hk
  refine kk hg X p e s mi args below meth c H locs lj S (k_Rp_set (k_bz hKn) hR ha ha0 ⟨hn, fun j hj => ?_⟩ (k_atA hk ha0 ?_) rfl (fun _ _ => rfl)) hz hL hl hs hw
  · show k_rg kd (g j)
    rw [← hfg j hj]; exact hr j hj
  · rw [hc]
    congr 1
    unfold arrV
    congr 1
    apply Array.ext
    · simp
    · intro i h1 h2
      simp only [Array.getElem_ofFn]
      rw [hfg i (by simpa using h1)]
