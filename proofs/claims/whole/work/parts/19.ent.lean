/-! a method's entry, with all its locals -/
def k_pd : Nat → List (Option PV)
  | 0 => []
  | n + 1 => none :: k_pd n
theorem pd_0 : k_pd 0 = [] := Eq.trans rfl rfl
theorem pd_s {n : Nat} : k_pd (n + 1) = none :: k_pd n := Eq.trans rfl rfl
theorem k_pd_get : ∀ (n j : Nat), k_get (k_pd n) j = none
  | 0, _ => rfl
  | n + 1, 0 => rfl
  | n + 1, j + 1 => k_pd_get n j
theorem k_pd_le : ∀ (l : List (Option PV)) (n j : Nat) (v : PV), k_get (l ++ k_pd n) j = some v → k_get l j = some v
  | [], n, j, v, h => by
    have h2 : k_get (k_pd n) j = some v := h
    rw [k_pd_get] at h2; cases h2
  | a :: t, n, 0, v, h => h
  | a :: t, n, j + 1, v, h => k_pd_le t n j v h
theorem k_enp {x : Bool} {d K N : Nat} {m : PM} {P : PO → PH → Prop} {h : PH} {as : List PV} (p : Nat) (hlen : (k_en as).length ≤ pm_n m) (kk : k_Wp x d K N m P 0 0 0 (k_en as ++ k_pd p) [] h) : k_Ev x d K N m as h P :=
  k_ent hlen (p_sub (fun j v hj => k_pd_le _ p j v hj) kk)
/-- a contract that says less -/
theorem k_Evm {x : Bool} {d K N : Nat} {m : PM} {P Q : PO → PH → Prop} {h : PH} {as : List PV} (hpq : ∀ o h', P o h' → Q o h') (he : k_Ev x d K N m as h P) : k_Ev x d K N m as h Q := by
  intro hg X hwf p e h1 h2 h3 s m' args below h4 h5 h6 h7
  obtain ⟨n, o, a1, a2, a3, a4⟩ := he hg X hwf p e h1 h2 h3 s m' args below h4 h5 h6 h7
  refine ⟨n, o, a1, a2, a3, ?_⟩
  rcases a4 with ⟨⟨r, h', b1, b2, b3⟩, b4⟩ | ⟨q, e1, E, ce, L, ⟨h', b2, b3⟩, b4⟩
  · exact Or.inl ⟨⟨r, h', b1, hpq _ _ b2, b3⟩, b4⟩
  · exact Or.inr ⟨q, e1, E, ce, L, ⟨h', hpq _ _ b2, b3⟩, b4⟩
section Calls19
variable {x : Bool} {d K N : Nat} {m : PM} {P : PO → PH → Prop} {k n pc nx : Nat} {ls : List (Option PV)} {h : PH} {m' : PM} {oi idx n' : Nat} {z : Int} {b2 : Nat} {t : List Nat} {d' : Nat}
/-- a call that makes nothing and ends in one way -/
theorem cV (as st : List PV) {a ci : Nat} {fs : List PV} {r0 : Option PV} {h1 : PH} (hl1 : k_LV oi idx m' n') (ha : h.2 a = some (.inr (ci, fs))) (hev : k_Ev x d' 0 0 m' (vR a :: as) h (fun o h' => o = .inl r0 ∧ h' = h1)) (hd1 : d' + 1 ≤ d) (kr : k_Wp x d K N m P k n nx ls (r0.toList ++ st) h1)
    (hk : k ≤ K := by decide) (hn : n ≤ N := by decide) (hc : k_lk (pm_c m) pc = some ((48, z, 0, b2, t), nx) := by rfl) (hcl : k_R ci = (pm_y m').cls := by rfl) (hcs : k_cs st ≤ 8 := by exact Nat.le_of_ble_eq_true rfl) (ho : pm_o m = oi := by rfl) (hz : z.toNat = idx := by rfl) (hn' : as.length = n' := by rfl) : k_Wp x d K N m P k n pc ls (as.reverse ++ vR a :: st) h := by
  subst ho; subst hz; subst hn'
  exact p_callV hc hl1 ha hcl hev hd1 hcs hk hn (fun r h' hp => by obtain ⟨e1, rfl⟩ := hp; cases e1; exact kr) (fun E h' hp => by cases hp.1)
theorem cS (as st : List PV) {r0 : Option PV} {h1 : PH} (hl1 : k_LS oi idx m' n') (hev : k_Ev x d' 0 0 m' as h (fun o h' => o = .inl r0 ∧ h' = h1)) (hd1 : d' + 1 ≤ d) (kr : k_Wp x d K N m P k n nx ls (r0.toList ++ st) h1)
    (hk : k ≤ K := by decide) (hn : n ≤ N := by decide) (hc : k_lk (pm_c m) pc = some ((48, z, 1, b2, t), nx) := by rfl) (hcs : k_cs st ≤ 8 := by exact Nat.le_of_ble_eq_true rfl) (ho : pm_o m = oi := by rfl) (hz : z.toNat = idx := by rfl) (hn' : as.length = n' := by rfl) : k_Wp x d K N m P k n pc ls (as.reverse ++ st) h := by
  subst ho; subst hz; subst hn'
  exact p_callS hc hl1 hev hd1 hcs hk hn (fun r h' hp => by obtain ⟨e1, rfl⟩ := hp; cases e1; exact kr) (fun E h' hp => by cases hp.1)
theorem cSN (as st : List PV) {r0 : Option PV} {h1 : PH} (hl1 : k_LSN oi idx m' n') (hev : k_Ev x d' 0 0 m' as h (fun o h' => o = .inl r0 ∧ h' = h1)) (hd1 : d' + 1 ≤ d) (kr : k_Wp x d K N m P k n nx ls (r0.toList ++ st) h1)
    (hk : k ≤ K := by decide) (hn : n ≤ N := by decide) (hc : k_lk (pm_c m) pc = some ((48, z, 1, b2, t), nx) := by rfl) (hcs : k_cs st ≤ 8 := by exact Nat.le_of_ble_eq_true rfl) (ho : pm_o m = oi := by rfl) (hz : z.toNat = idx := by rfl) (hn' : as.length = n' := by rfl) : k_Wp x d K N m P k n pc ls (as.reverse ++ st) h := by
  subst ho; subst hz; subst hn'
  exact p_callSN hc hl1 hev (fun E h' hp => by cases hp.1) hd1 hcs hk hn (fun r h' hp => by obtain ⟨e1, rfl⟩ := hp; cases e1; exact kr)
/-- the same, ending in one of several ways -/
theorem cVQ (as st : List PV) {a ci : Nat} {fs : List PV} {P' : PO → PH → Prop} (hl1 : k_LV oi idx m' n') (ha : h.2 a = some (.inr (ci, fs))) (hev : k_Ev x d' 0 0 m' (vR a :: as) h P') (hd1 : d' + 1 ≤ d) (kr : ∀ r h', P' (.inl r) h' → k_Wp x d K N m P k n nx ls (r.toList ++ st) h') (hno : ∀ E h', ¬ P' (.inr E) h')
    (hk : k ≤ K := by decide) (hn : n ≤ N := by decide) (hc : k_lk (pm_c m) pc = some ((48, z, 0, b2, t), nx) := by rfl) (hcl : k_R ci = (pm_y m').cls := by rfl) (hcs : k_cs st ≤ 8 := by exact Nat.le_of_ble_eq_true rfl) (ho : pm_o m = oi := by rfl) (hz : z.toNat = idx := by rfl) (hn' : as.length = n' := by rfl) : k_Wp x d K N m P k n pc ls (as.reverse ++ vR a :: st) h := by
  subst ho; subst hz; subst hn'
  exact p_callV hc hl1 ha hcl hev hd1 hcs hk hn kr (fun E h' hp => absurd hp (hno E h'))
end Calls19
