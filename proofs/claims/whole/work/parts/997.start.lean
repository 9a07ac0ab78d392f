/-! the law from its entry: the machine's world out of the tables -/
theorem k_less {p : Program} {l : Launch} {e : _root_.Jvm.Env} {R R' : Room} {s : State} {m : MethodId} {args : Array Value} {below : List Frame} {meth : Method} {c : Code} {T : State} {locs : List Loc} {cells slots : Nat} (h1 : R'.frames ≤ R.frames) (h2 : R'.cells ≤ R.cells) (h3 : R'.slots ≤ R.slots) (h4 : R'.locals ≤ R.locals) (X : Stand p l e R s m args below meth c T locs cells slots) : Stand p l e R' s m args below meth c T locs cells slots := by
  have h := X.room
  refine { X with room := ?_ }
  simp only [State.hasRoom, Bool.and_eq_true, decide_eq_true_eq] at h ⊢
  obtain ⟨⟨⟨⟨q1, q2, q3, q4, q5, q6⟩, q7⟩, q8⟩, q9⟩ := h
  exact ⟨⟨⟨⟨by omega, by omega, by omega, by omega, by omega, q6⟩, by omega⟩, by omega⟩, q9⟩
theorem k_ins : ∀ ci, ci < 13 → ∃ n, Cond.instantiable (k_R ci) n ∈ lw_tbl := by
  intro ci h
  match ci, h with
  | 0, _ => exact ⟨4, by decide +kernel⟩
  | 1, _ => exact ⟨14, by decide +kernel⟩
  | 2, _ => exact ⟨6, by decide +kernel⟩
  | 3, _ => exact ⟨5, by decide +kernel⟩
  | 4, _ => exact ⟨8, by decide +kernel⟩
  | 5, _ => exact ⟨5, by decide +kernel⟩
  | 6, _ => exact ⟨4, by decide +kernel⟩
  | 7, _ => exact ⟨3, by decide +kernel⟩
  | 8, _ => exact ⟨3, by decide +kernel⟩
  | 9, _ => exact ⟨9, by decide +kernel⟩
  | 10, _ => exact ⟨2, by decide +kernel⟩
  | 11, _ => exact ⟨13, by decide +kernel⟩
  | 12, _ => exact ⟨56, by decide +kernel⟩
section Start997
variable {s : State} {args : Array Value}
theorem k_classes (hts : ∀ w ∈ lw_tbl, w.before args s = true) : ∃ (C : Nat → ClassId) (I : Nat → Nat → Nat), ∀ (c : Nat) (q : vw_C), k_cl[c]? = some q → u_Kn s q.1 q.2.1 q.2.2 (C c) (I c) := by
  have h : ∀ c : Nat, ∃ (cC : ClassId) (iS : Nat → Nat), ∀ q : vw_C, k_cl[c]? = some q → u_Kn s q.1 q.2.1 q.2.2 cC iS := by
    intro c
    cases hq : k_cl[c]? with
    | none => exact ⟨0, fun _ => 0, fun q h => by cases h⟩
    | some r =>
      have hc : c < 13 := (List.getElem?_eq_some_iff.mp hq).1
      obtain ⟨n, hn⟩ := k_ins c hc
      have hr := (k_cls hq).2.2.2
      obtain ⟨cC, iS, hk⟩ := u_known (C := r.1) (T := r.2.1) (N := r.2.2) (n := n) hts (fun w hw => (List.mem_filter.mp ((k_cls hq).1 w hw)).1) (by rw [hr]; exact hts _ hn)
      exact ⟨cC, iS, fun q h => by cases h; exact hk⟩
  exact ⟨fun c => Classical.choose (h c), fun c => Classical.choose (Classical.choose_spec (h c)), fun c q hq => Classical.choose_spec (Classical.choose_spec (h c)) q hq⟩
theorem k_arrs (hts : ∀ w ∈ lw_tbl, w.before args s = true) (kd : Nat) (hk : Cond.arrayClass (k_et kd) ∈ lw_tbl) : ∃ cA : ClassId, ArrOfT s cA (k_et kd) ∧ s.vm.findClass ("[" ++ (k_et kd).toString) = some cA := by
  obtain ⟨c, k, comp, h1, h2, h3⟩ := Cond.arrayClass_spec (hts _ hk)
  exact ⟨c, fun n z => ⟨fun k h => (by cases h), k, h2, comp, h3⟩, h1⟩
theorem k_strw : ∀ q ∈ k_strs, Cond.stringRef RX11 q.1 q.2.1 ∈ lw_tbl := by decide +kernel
theorem k_strj : ∀ q ∈ k_strs, ∀ q' ∈ k_strs, q'.2.2 = q.2.2 → q' = q := by decide +kernel
theorem k_nestw : ∀ q ∈ k_nest, Cond.methodLinkNest (k_R q.1) q.2.1 q.2.2 RX11 ∈ lw_tbl := by decide +kernel
theorem k_ncw : ∀ q ∈ k_ncs, Cond.not (.castable (k_E q.1) (k_E q.2)) ∈ flatC (Jvm.Cond.and given_1 narrow_1) := by decide +kernel
theorem k_world (l : Launch) (hl : l.stackTraces = false) {b L : Nat} {xs : Nat → Int32} (hts : ∀ w ∈ lw_tbl, w.before args s = true) (hX : va_X b L xs s s.heap) (hb : b < s.heap.size) (hL : L ≤ 3072) (hgv : (Jvm.Cond.and given_1 narrow_1).before args s = true) :
    ∃ X : Cx, cx_l X = l ∧ cx_z X = s.heap.size ∧ cx_b X = b ∧ cx_H X = s.heap ∧ cx_L X = L ∧ cx_x X = xs ∧ k_Kn X s := by
  obtain ⟨C, I, hC⟩ := k_classes hts
  obtain ⟨a0, A0, B0⟩ := k_arrs hts 0 (by decide +kernel)
  obtain ⟨a1, A1, B1⟩ := k_arrs hts 1 (by decide +kernel)
  obtain ⟨a2, A2, B2⟩ := k_arrs hts 2 (by decide +kernel)
  obtain ⟨a3, A3, B3⟩ := k_arrs hts 3 (by decide +kernel)
  have hg := flat_of_before _ hgv
  have hown : ∃ cur, s.vm.findClass RX11 = some cur := ⟨_, (hC 11 _ rfl).2.1⟩
  obtain ⟨cur, hcur⟩ := hown
  have hS : ∃ S : Nat → Nat, ∀ q ∈ k_strs, vk_R RX11 q.1 q.2.1 (S q.2.2) s := by
    have h : ∀ i : Nat, ∃ a : Nat, ∀ q ∈ k_strs, q.2.2 = i → vk_R RX11 q.1 q.2.1 a s := by
      intro i
      by_cases hi : ∃ q ∈ k_strs, q.2.2 = i
      · obtain ⟨q, hq, rfl⟩ := hi
        obtain ⟨k, cf, j, a, -, -, -, -, -, hev⟩ := Cond.stringRef_spec hcur (hts _ (k_strw q hq))
        refine ⟨a, fun q' hq' he => ?_⟩
        have e : q' = q := k_strj q hq q' hq' he
        subst e
        exact vk_R.of (hts _ (k_strw q' hq)) hev
      · exact ⟨0, fun q hq he => absurd ⟨q, hq, he⟩ hi⟩
    exact ⟨fun i => Classical.choose (h i), fun q hq => Classical.choose_spec (h q.2.2) q hq rfl⟩
  obtain ⟨S, hS⟩ := hS
  refine ⟨(l, s.heap.size, b, s.heap, C, I, (fun kd => match kd with | 0 => a0 | 1 => a1 | 2 => a2 | _ => a3), S, L, xs), rfl, rfl, rfl, rfl, rfl, rfl, ⟨hC, fun k q hk => ?_⟩, hl, ?_, ?_, hS, fun q hq => va_Nw.of rfl (hts _ (k_nestw q hq)), hX, hb, rfl, hL, fun q hq => va_Nc.of (hg _ (k_ncw q hq)), fun w hw => ?_⟩
  · match k, hk with
    | 0, hk => cases hk; exact ⟨A0, B0⟩
    | 1, hk => cases hk; exact ⟨A1, B1⟩
    | 2, hk => cases hk; exact ⟨A2, B2⟩
    | 3, hk => cases hk; exact ⟨A3, B3⟩
  · exact vx_Zqof (hts _ (by decide +kernel)) (hts _ (by decide +kernel)) (hg _ (by decide +kernel)) (fun a ha hz => by have hz : s.heap.size ≤ a := hz; omega)
  · exact vx_Zqof (hts _ (by decide +kernel)) (hts _ (by decide +kernel)) (hg _ (by decide +kernel)) (fun a ha hz => by have hz : s.heap.size ≤ a := hz; omega)
  · have h1 := hts w (List.mem_filter.mp hw).1
    have h2 := (List.mem_filter.mp hw).2
    cases w <;> first | exact va_Nw.of rfl h1 | (simp [k_isdc] at h2)
end Start997
