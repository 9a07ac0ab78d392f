/-! distances, the pair, what is heard, the choice: both alike -/
section Math97
variable {C sA sB sA' sB' : F_} {oA oB oA' oB' nA nB : Nat}
theorem dsr_g {N : F_} : ds N (sdf sA oA) nA (sdf sB oB) nB = ds N (sdg sA oA nA) nA (sdg sB oB nB) nB := ds_congr (fun i hi => by simp only [sdf, sdg]; rw [if_pos hi]) (fun i hi => by simp only [sdf, sdg]; rw [if_pos hi]) nA nB (Nat.le_refl _) (Nat.le_refl _)
theorem dsr_b (hc : cOk C) (hA : rvd sA oA nA) (hB : rvd sB oB nB) (h1 : nA ≤ 40) (h2 : nB ≤ 40) : 0 ≤ ds (fw C) (sdf sA oA) nA (sdf sB oB) nB ∧ ds (fw C) (sdf sA oA) nA (sdf sB oB) nB < 1000000 := by
  rw [dsr_g]
  have h := ds_b (fw_ok hc) (sdg_17 hA) (sdg_17 hB) nA nB
  have h3 : ((nA + nB : Nat) : Int) ≤ 80 := by omega
  omega
theorem dsr_sym (hc : cOk C) (hs : symN C) (hA : rvd sA oA nA) (hB : rvd sB oB nB) : ds (fw C) (sdf sA oA) nA (sdf sB oB) nB = ds (fw C) (sdf sB oB) nB (sdf sA oA) nA := by
  rw [dsr_g, dsr_g, ds_sym (fw_sym hc hs) (sdg_17 hA) (sdg_17 hB)]
theorem dsr_e {N : F_} (h1 : ∀ i, i < nA → sA (oA + i) = sA' (oA' + i)) (h2 : ∀ i, i < nB → sB (oB + i) = sB' (oB' + i)) : ds N (sdf sA oA) nA (sdf sB oB) nB = ds N (sdf sA' oA') nA (sdf sB' oB') nB := ds_congr (fun i hi => by simp only [sdf]; rw [h1 i hi]) (fun i hi => by simp only [sdf]; rw [h2 i hi]) nA nB (Nat.le_refl _) (Nat.le_refl _)
theorem rvd_n {sf : F_} {o : Nat} {m : Int} (h : rvd sf o m) (h0 : 0 ≤ m) : rvd sf o (m.toNat : Nat) := fun i hi => h i (by omega)
theorem rch_e {v : Int} (h : v < 1000000) : rch 1000000 v = v := by unfold rch; rw [if_pos h]
variable {cl cs pk pm sd sm : F_} {pc sz : Nat}
theorem gn_rvd (hg : gnI pc sz cl cs pk pm sd sm) (hv : ∀ l, l < sz → rvd cs (l * 40) (cl l)) : smO sd sm sz := by
  refine ⟨fun k hk => ?_, fun k hk i hi => ?_⟩
  · obtain ⟨g1, g2, g3, g4⟩ := hg k hk
    rw [g1]; exact g2
  · obtain ⟨g1, g2, g3, g4⟩ := hg k hk
    rw [g1] at hi
    rw [g3 i hi]
    exact hv k hk i hi
theorem gap_M (hg : gnI pc sz cl cs pk pm sd sm) {k l : Nat} (hk : k < sz) (hl : l < sz) : gap C cl cs k l = gpM C sd sm k l := by
  obtain ⟨g1, g2, g3, g4⟩ := hg k hk
  obtain ⟨f1, f2, f3, f4⟩ := hg l hl
  show ds (fw C) (sdf cs (k * 40)) (cl k).toNat (sdf cs (l * 40)) (cl l).toNat = ds (fw C) (sdf sd (40 * k)) (sm k).toNat (sdf sd (40 * l)) (sm l).toNat
  rw [g1, f1]
  exact dsr_e (fun i hi => (g3 i (by omega)).symm) (fun i hi => (f3 i (by omega)).symm)
theorem gap_b (hc : cOk C) (hg : gnI pc sz cl cs pk pm sd sm) (hv : ∀ l, l < sz → rvd cs (l * 40) (cl l)) {k l : Nat} (hk : k < sz) (hl : l < sz) : 0 ≤ gap C cl cs k l ∧ gap C cl cs k l < 1000000 := by
  obtain ⟨g1, g2, g3, g4⟩ := hg k hk
  obtain ⟨f1, f2, f3, f4⟩ := hg l hl
  exact dsr_b hc (rvd_n (hv k hk) g2.1) (rvd_n (hv l hl) f2.1) (by omega) (by omega)
theorem nfA_M (hc : cOk C) (hg : gnI pc sz cl cs pk pm sd sm) (hv : ∀ l, l < sz → rvd cs (l * 40) (cl l)) : nfA C cl cs sz = prM C sd sm sz := by
  unfold nfA prM
  exact nrR_o (nr_A (fun a l ha hl => ⟨gap_M hg ha hl, gap_b hc hg hv ha hl⟩) sz 0 _ _ (by omega) (Or.inl ⟨rfl, rfl⟩))
theorem hear_b {lf sf : F_} (hc : cOk C) (hg : gnI pc sz cl cs pk pm sd sm) (hv : ∀ l, l < sz → rvd cs (l * 40) (cl l)) (hp : rvd sf 0 (lf 0)) (hl : 0 ≤ lf 0 ∧ lf 0 ≤ 40) {l : Nat} (hl2 : l < sz) : 0 ≤ ds (fw C) (sdf sf (0 * 40)) (lf 0).toNat (sdf cs (l * 40)) (cl l).toNat ∧ ds (fw C) (sdf sf (0 * 40)) (lf 0).toNat (sdf cs (l * 40)) (cl l).toNat < 1000000 := by
  obtain ⟨f1, f2, f3, f4⟩ := hg l hl2
  rw [Nat.zero_mul]
  exact dsr_b hc (rvd_n hp hl.1) (rvd_n (hv l hl2) f2.1) (by omega) (by omega)
theorem hear_M {lf sf hf : F_} (hc : cOk C) (hg : gnI pc sz cl cs pk pm sd sm) (hv : ∀ l, l < sz → rvd cs (l * 40) (cl l)) (hp : rvd sf 0 (lf 0)) (hl : 0 ≤ lf 0 ∧ lf 0 ≤ 40) (hh : ∀ i : Nat, (i : Int) < lf 0 → hf i = sf i) : hrR (lsA C cl cs lf sf sz) (hrL (gpH C hf sd sm (lf 0).toNat) sz 0 (-1, 0, -1, 0)) := by
  refine hr_L sz 0 _ _ (Or.inl ⟨rfl, rfl⟩) (fun l _ hl2 => ⟨?_, hear_b hc hg hv hp hl (by omega)⟩)
  obtain ⟨f1, f2, f3, f4⟩ := hg l (by omega)
  show ds (fw C) (sdf sf (0 * 40)) (lf 0).toNat (sdf cs (l * 40)) (cl l).toNat = ds (fw C) (sdf hf 0) (lf 0).toNat (sdf sd (40 * l)) (sm l).toNat
  rw [Nat.zero_mul, f1]
  exact dsr_e (fun i hi => by rw [Nat.zero_add]; exact (hh i (by omega)).symm) (fun i hi => (f3 i (by omega)).symm)
theorem hear_I {lf sf : F_} (hc : cOk C) (hg : gnI pc sz cl cs pk pm sd sm) (hv : ∀ l, l < sz → rvd cs (l * 40) (cl l)) (hp : rvd sf 0 (lf 0)) (hl : 0 ≤ lf 0 ∧ lf 0 ≤ 40) : hsI sz (lsA C cl cs lf sf sz) := by
  have h := lsn_I (gp := fun l => ds (fw C) (sdf sf (0 * 40)) (lf 0).toNat (sdf cs (l * 40)) (cl l).toNat) sz 0 (-1, -1, -1, -1) (fun l _ hl2 => (hear_b hc hg hv hp hl (by omega)).1) ⟨Or.inl ⟨rfl, rfl⟩, Or.inl rfl⟩
  rw [Nat.zero_add] at h
  exact h
/-- what both have heard, and the desk's answer -/
theorem he_M {u ag : F_} {A B : HS} (hr : hrR A B) (hI : hsI sz A) (hsz : sz ≤ 120) (hpc : pc ≤ 8) (h45 : u 45 = B.1) (h46 : u 46 = B.2.1) (h47 : u 47 = B.2.2.1) (h48 : u 48 = B.2.2.2) :
    (hrA pk pc A ag).1 ≤ 8 ∧ ((0 ≤ u 46 ∧ u 46 ≤ 1000000) ∧ (0 ≤ u 48 ∧ u 48 ≤ 1000000) ∧ u 45 < 120 ∧ u 47 < 120) ∧ ((A.1 = -1 ∧ A.2.2.1 = -1 ∧ (hrA pk pc A ag).1 = 0 ∧ u 45 = -1) ∨ heB u pc sz pk (hrA pk pc A ag).1 A (hrA pk pc A ag).2) ∧ B.1 = tld (hrA pk pc A ag).1 A 0 := by
  rw [h45, h46, h47, h48]
  unfold heB
  rw [h45, h46, h47, h48]
  obtain ⟨i1, i2⟩ := hI
  rcases hr with ⟨rfl, rfl⟩ | ⟨q1, q2, q3, q4, q5, q6⟩
  · unfold hrA tld
    dsimp only
    rw [if_pos rfl, if_pos rfl]
    exact ⟨by omega, by omega, Or.inl ⟨rfl, rfl, rfl, rfl⟩, rfl⟩
  · have hA1 : A.1 < sz := by omega
    have hT : B.1 = tld (hrA pk pc A ag).1 A 0 := by
      unfold tld
      rw [if_neg (by omega), if_pos rfl, q1]
    rcases q6 with ⟨q7, q8, q9⟩ | ⟨q7, q8, q9, q10⟩
    · have e : hrA pk pc A ag = (0, ag) := by unfold hrA; rw [if_pos q7]
      rw [e] at hT ⊢
      exact ⟨by show (0 : Nat) ≤ 8; omega, by omega, Or.inr ⟨q1.symm, by omega, q3.symm, q5.symm, Or.inl ⟨q7, q8, rfl⟩⟩, hT⟩
    · have e : hrA pk pc A ag = askL pk A.1.toNat A.2.2.1.toNat pc 0 (0, ag) := by unfold hrA; rw [if_neg (by omega)]
      have hk := askL_k (pk := pk) (f := A.1.toNat) (t := A.2.2.1.toNat) pc 0 (0, ag)
      rw [e] at hT ⊢
      have hk2 := hk.2.1
      exact ⟨by dsimp only at hk2; omega, by omega, Or.inr ⟨q1.symm, by omega, q3.symm, q5.symm, Or.inr ⟨by omega, q8.symm, ag, rfl⟩⟩, hT⟩
theorem askL_congr {f t : Nat} : ∀ (j p : Nat) (A : Nat × F_), (∀ q, q < p + j → pk (8 * f + q) = pm (8 * f + q) ∧ pk (8 * t + q) = pm (8 * t + q)) → askL pk f t j p A = askL pm f t j p A
  | 0, p, A, _ => rfl
  | j + 1, p, A, h => by
    unfold askL
    rw [(h p (by omega)).1, (h p (by omega)).2]
    exact askL_congr j (p + 1) _ (fun q hq => h q (by omega))
theorem ask_M (hg : gnI pc sz cl cs pk pm sd sm) {f t : Nat} (hf : f < sz) (ht : t < sz) (A : Nat × F_) : askL pk f t pc 0 A = askL pm f t pc 0 A := by
  refine askL_congr pc 0 A (fun q hq => ?_)
  obtain ⟨g1, g2, g3, g4⟩ := hg f hf
  obtain ⟨f1, f2, f3, f4⟩ := hg t ht
  have := g4 q (by omega)
  have := f4 q (by omega)
  rw [Nat.mul_comm 8 f, Nat.mul_comm 8 t]
  rw [Nat.mul_comm 8 f] at *
  rw [Nat.mul_comm 8 t] at *
  omega
end Math97
section Math97b
variable {C wl ws wn WS WM SW F G : F_} {sz : Nat}
theorem LK_M (hc : cOk C) (hs : symN C) (hwn : ∀ s : Nat, s < 8 → 0 ≤ wn s ∧ wn s ≤ 4) (hW : RwW 20 32 wl) (hv : ∀ s w : Nat, s < 8 → (w : Int) < wn s → rvd ws ((s * 4 + w) * 20) (wl (s * 4 + w))) (hsl : slW wl ws wn WS WM SW) (hsz : sz ≤ 8) (hF : farI C WS WM SW F 32 0) : LK (msS (gw C wl ws) wn (sz - 1) 1 G) F wn sz := by
  intro ch hch b s hbs hss
  have hb := hch b (by omega)
  have hs1 := hch s (by omega)
  have hwb := hwn b (by omega)
  have hws := hwn s (by omega)
  have eA : 4 * b + (ch b).toNat < 32 := by omega
  have eB : 4 * s + (ch s).toNat < 32 := by omega
  have vA : vld SW (4 * b + (ch b).toNat) := by
    show (((4 * b + (ch b).toNat) % 4 : Nat) : Int) < SW ((4 * b + (ch b).toNat) / 4)
    rw [show (4 * b + (ch b).toNat) / 4 = b by omega, hsl.1 b (by omega)]
    omega
  have vB : vld SW (4 * s + (ch s).toNat) := by
    show (((4 * s + (ch s).toNat) % 4 : Nat) : Int) < SW ((4 * s + (ch s).toNat) / 4)
    rw [show (4 * s + (ch s).toNat) / 4 = s by omega, hsl.1 s (by omega)]
    omega
  have hFe := hF _ _ eA eB vA vB (Or.inl eA)
  obtain ⟨a1, a2⟩ := hsl.2 _ eA vA
  obtain ⟨b1, b2⟩ := hsl.2 _ eB vB
  have rA := hv b (ch b).toNat (by omega) (by omega)
  have rB := hv s (ch s).toNat (by omega) (by omega)
  rw [show b * 4 + (ch b).toNat = 4 * b + (ch b).toNat by omega] at rA
  rw [show s * 4 + (ch s).toNat = 4 * s + (ch s).toNat by omega] at rB
  have wA := hW.1 _ eA
  have wB := hW.1 _ eB
  have hd := dsr_b hc (rvd_n rA wA.1) (rvd_n rB wB.1) (by omega) (by omega)
  have he : dF F ch b s = ds (fw C) (sdf ws ((4 * b + (ch b).toNat) * 20)) (wl (4 * b + (ch b).toNat)).toNat (sdf ws ((4 * s + (ch s).toNat) * 20)) (wl (4 * s + (ch s).toNat)).toNat := by
    show F (32 * (4 * b + (ch b).toNat) + (4 * s + (ch s).toNat)) = _
    rw [hFe]
    show ds (fw C) (sdf WS (20 * (4 * b + (ch b).toNat))) (WM (4 * b + (ch b).toNat)).toNat (sdf WS (20 * (4 * s + (ch s).toNat))) (WM (4 * s + (ch s).toNat)).toNat = _
    rw [a1, b1]
    exact dsr_e (fun i hi => a2 i (by omega)) (fun i hi => b2 i (by omega))
  refine ⟨?_, by rw [he]; exact hd.1, by rw [he]; exact hd.2⟩
  rw [msS_e hwn (sz - 1) 1 G (by omega) _ _ (by omega), if_pos ?_]
  · rw [he]
    show _ = rch 1000000 (ds (fw C) (sdf ws ((s * 4 + (ch s).toNat) * 20)) (wl (s * 4 + (ch s).toNat)).toNat (sdf ws ((b * 4 + (ch b).toNat) * 20)) (wl (b * 4 + (ch b).toNat)).toNat)
    rw [show b * 4 + (ch b).toNat = 4 * b + (ch b).toNat by omega, show s * 4 + (ch s).toNat = 4 * s + (ch s).toNat by omega, dsr_sym hc hs (rvd_n rA wA.1) (rvd_n rB wB.1), rch_e]
    rw [dsr_sym hc hs (rvd_n rB wB.1) (rvd_n rA wA.1)]
    exact hd.2
  · rw [show (s * 4 + (ch s).toNat) / 4 = s by omega, show (b * 4 + (ch b).toNat) / 4 = b by omega, show (s * 4 + (ch s).toNat) % 4 = (ch s).toNat by omega, show (b * 4 + (ch b).toNat) % 4 = (ch b).toNat by omega]
    omega
theorem fldM_congr {wn SW : F_} (hw : ∀ i, i < sz → SW i = wn i) : ∀ (n slot : Nat) (ch : F_) (T : Int × F_), slot + n = sz → fldM F sz SW n slot ch T = fldM F sz wn n slot ch T
  | 0, _, _, _, _ => rfl
  | n + 1, slot, ch, T, hn => by
    unfold fldM
    rw [hw slot (by omega)]
    have go : ∀ (j w : Nat) (T : Int × F_), fldL (fldM F sz SW n (slot + 1)) slot ch j w T = fldL (fldM F sz wn n (slot + 1)) slot ch j w T := by
      intro j
      induction j with
      | zero => intro w T; rfl
      | succ j ih =>
        intro w T
        unfold fldL
        rw [fldM_congr hw n (slot + 1) (fS ch slot w) T (by omega)]
        exact ih (w + 1) _
    exact go _ 0 T
theorem fldL_0 {rc : F_ → Int × F_ → Int × F_} {slot m : Nat} {ch : F_} (hr : ∀ (w : Nat) T, w < m → 0 ≤ (rc (fS ch slot w) T).1) : ∀ (j w : Nat) (T : Int × F_), w + (j + 1) = m → 0 ≤ (fldL rc slot ch (j + 1) w T).1
  | 0, w, T, h => by
    unfold fldL fldL
    exact hr w T (by omega)
  | j + 1, w, T, h => by
    unfold fldL
    exact fldL_0 hr j (w + 1) _ (by omega)
theorem fldM_0 (hL : LK G F wn sz) (hsz : 2 ≤ sz) (hw : ∀ i, i < sz → 0 < wn i) : ∀ (n slot : Nat) (ch : F_) (T : Int × F_), slot + n = sz → vch wn ch slot → 0 ≤ (fldM F sz wn n slot ch T).1
  | 0, slot, ch, T, hn, hv => by
    have e : slot = sz := by omega
    subst e
    unfold fldM updM
    have h0 := (lv_e (F := F) (ch := ch) (x := 0) hsz (fun b u b1 b2 => (hL ch hv b u b1 b2).2.1)).1
    split
    · exact h0
    · omega
  | n + 1, slot, ch, T, hn, hv => by
    unfold fldM
    have hs := hw slot (by omega)
    obtain ⟨j, hj⟩ : ∃ j, (wn slot).toNat = j + 1 := ⟨(wn slot).toNat - 1, by omega⟩
    rw [hj]
    exact fldL_0 (m := (wn slot).toNat) (fun w T hw2 => fldM_0 hL hsz hw n (slot + 1) (fS ch slot w) T (by omega) (vch_s hv (by omega))) j 0 T (by omega)
theorem rdy_M (hwn : ∀ s : Nat, s < 8 → 0 ≤ wn s ∧ wn s ≤ 4) (hsl : ∀ i, i < 8 → SW i = wn i) (hsz : sz ≤ 8) : (rdyL wn sz 0 = 1 ∧ 2 ≤ sz) ↔ rdyM SW sz := by
  rw [rdyL_e]
  constructor
  · rintro ⟨h1, h2⟩
    refine ⟨h2, fun i hi => ?_⟩
    have := h1 i (by omega) (by omega)
    have := hwn i (by omega)
    rw [hsl i (by omega)]; omega
  · rintro ⟨h1, h2⟩
    refine ⟨fun k _ hk => ?_, h1⟩
    have := h2 k (by omega)
    rw [hsl k (by omega)] at this; omega
theorem Kp_M {tr ch : F_} (hc : cOk C) (hs : symN C) (hwn : ∀ s : Nat, s < 8 → 0 ≤ wn s ∧ wn s ≤ 4) (hW : RwW 20 32 wl) (hv : ∀ s w : Nat, s < 8 → (w : Int) < wn s → rvd ws ((s * 4 + w) * 20) (wl (s * 4 + w))) (hsl : slW wl ws wn WS WM SW) (hsz : sz ≤ 8) : Kp C WS WM SW sz (chN C wl ws wn sz tr ch G).1 := by
  have hr := rdy_M hwn hsl.1 hsz
  refine ⟨fun h => ?_, fun h F ch' bs hF => ?_⟩
  · unfold chN
    rw [if_neg (fun w => h (hr.mp w))]
    refine ⟨rfl, fun i hi => ?_⟩
    show flF (-1) 8 0 ch i = -1
    rw [flF_e, if_pos (by omega)]
  · unfold chN
    rw [if_pos (hr.mpr h)]
    have hL := LK_M (G := G) hc hs hwn hW hv hsl hsz hF
    have hw : ∀ i, i < sz → 0 < wn i := fun i hi => by rw [← hsl.1 i (by omega)]; exact h.2 i hi
    rw [fldM_congr (wn := wn) (fun i hi => hsl.1 i (by omega)) sz 0 (flF 0 sz 0 ch') (-1, bs) (by omega)]
    have h0 := fldM_0 hL h.1 hw sz 0 (flF 0 sz 0 ch') (-1, bs) (by omega) (fun i hi => by omega)
    have hq := (tf_fld hL h.1 sz 0 (flF 0 sz 0 ch') (-1, tr, flF (-1) 8 0 ch) (-1, bs) (by omega) (fun i hi => by omega) (fun i hi => by omega) ⟨rfl, fun h9 => absurd h9 (by show ¬ (0 : Int) ≤ -1; decide)⟩ (by show (-1 : Int) < 1000000; decide)).1
    refine ⟨hq.1, fun i hi => ?_⟩
    rw [if_neg (by omega)]
    exact hq.2 (by rw [hq.1]; exact h0) i hi
end Math97b
