/-! costs, the hand, the tape: both alike (written by wip/whole/gen98.py) -/
section Stp982
variable {n : Nat} {h g : PH} {s C : F_} {e : Int} {sp pc sz : Nat} {cl cs pk pm : F_}
theorem v_push (hI : InvB n h s C e sp pc sz cl cs pk pm) (v : Int) : StpC 1 6 mX11_push mX12_push [vI v] [(1, 0)] (n + 1) h := by
  have hB := hI
  obtain ⟨h72, h1, he, vC, vH, vT, vL, vX, vG, vN, vE, vS⟩ := hI
  obtain ⟨lf, sf, hf, r1, r2, r3, r4, r5, r6⟩ := vH
  have hl := r2.1 0 (by omega)
  refine e_push h1 r1 r2 (by decide) (fun c => ?_) (fun c c2 => ?_) (fun c c2 => ?_)
  · refine ⟨rfl, rfl, rfl, 1, 0, Or.inr ⟨0, by decide, rfl⟩, fun g hg => ?_⟩
    exact e_mpush (v := v) ((hg 57 (by decide)).trans h72) ((hg 61 (by decide)).trans r4) (by omega) (by decide) (fun _ => fin0 hB hg (fun q => by omega)) (fun q => absurd q c) (fun q => absurd q c)
  · refine ⟨(hS_n (by decide)).trans (hS_n (by decide)), (hS_n (by decide)).trans (hS_n (by decide)), (hS_n (by decide)).trans (hS_n (by decide)), 0, _, Or.inl ⟨rfl, rfl⟩, fun g hg => ?_⟩
    have fg : ∀ z, (z ≠ 10 ∧ z ≠ 11 ∧ z ≠ 91) → g.2 z = h.2 z := fun z q => (hg z q.2.2).trans ((hS_n q.1).trans (hS_n q.2.1))
    refine e_mpush (v := v) ((fg 57 (by decide)).trans h72) ((fg 61 (by decide)).trans r4) (by omega) (by decide) (fun q => absurd c q) (fun _ q2 => ?_) (fun _ q => absurd (by omega) q)
    have fr : ∀ z, (z ≠ 10 ∧ z ≠ 11 ∧ z ≠ 57 ∧ z ≠ 61 ∧ z ≠ 91) → (hS (hS g 61 (cI 40 (fS hf (s 6).toNat v))) 57 (mO (mS (mS s 0 0) 6 (s 6 + 1)))).2 z = h.2 z := fun z q => (hS_n q.2.2.1).trans ((hS_n q.2.2.2.1).trans (fg z (by omega)))
    have f10 : (hS (hS g 61 (cI 40 (fS hf (s 6).toNat v))) 57 (mO (mS (mS s 0 0) 6 (s 6 + 1)))).2 10 = some (cI 1 (fS lf 0 (lf 0 + 1))) := (hS_n (by decide)).trans ((hS_n (by decide)).trans ((hg 10 (by decide)).trans (hS_s _ _ _)))
    have f11 : (hS (hS g 61 (cI 40 (fS hf (s 6).toNat v))) 57 (mO (mS (mS s 0 0) 6 (s 6 + 1)))).2 11 = some (cI 40 (fS sf (lf 0).toNat v)) := (hS_n (by decide)).trans ((hS_n (by decide)).trans ((hg 11 (by decide)).trans ((hS_n (by decide)).trans (hS_s _ _ _))))
    refine ⟨s 6 + 1, mS (mS s 0 0) 6 (s 6 + 1), rfl, hS_s _ _ _, rfl, fun _ => by omega, ⟨mS (mS s 0 0) 6 (s 6 + 1), C, e, sp, pc, sz, cl, cs, pk, pm, hS_s _ _ _, (fr 1 (by omega)).trans h1, (by omega), vC.fr (fun z a => fr z (by omega)) rfl, ⟨fS lf 0 (lf 0 + 1), fS sf (lf 0).toNat v, fS hf (s 6).toNat v, ⟨(fr 9 (by omega)).trans r1.1, f10, f11⟩, r2.set (by omega) (by omega), (fun i hi => ?_), (hS_n (by decide)).trans (hS_s _ _ _), (by rw [mS_s, fS_s]; omega), (fun i hi => ?_)⟩, vT.fr (fun z a => fr z (by omega)) rfl, vL.fr (fun z a => fr z (by omega)) rfl rfl, vX.fr (fun z a => fr z (by omega)), vG.fr (fun z a => fr z (by omega)) rfl rfl, vN.fr (fr 31 (by omega)), vE.fr (fun z a => fr z (by omega)) (fun i a b => (mS_n (by omega)).trans ((mS_n (by omega)))), vS.fr (fun z a => fr z (by omega)) rfl⟩, (hS_n (by decide)).trans (hS_n (by decide)), (hS_n (by decide)).trans (hS_n (by decide))⟩
    · rw [fS_s] at hi
      rw [Nat.zero_add]
      by_cases q : i = (lf 0).toNat
      · rw [q, fS_s]; omega
      · rw [fS_n q]
        have := r3 i (by omega)
        rw [Nat.zero_add] at this
        exact this
    · rw [fS_s] at hi
      rw [r5]
      by_cases q : i = (lf 0).toNat
      · rw [q, fS_s, fS_s]
      · rw [fS_n q, fS_n q]
        exact r6 i (by omega)
  · refine ⟨rfl, rfl, rfl, 0, _, Or.inl ⟨rfl, rfl⟩, fun g hg => ?_⟩
    exact e_mpush (v := v) ((hg 57 (by decide)).trans h72) ((hg 61 (by decide)).trans r4) (by omega) (by decide) (fun q => absurd c q) (fun _ q => by omega) (fun _ _ => fin0 hB hg (fun _ => rfl))
theorem v_near (hI : InvB n h s C e sp pc sz cl cs pk pm) (a b : Int) : StpC 2 12 mX11_near mX12_near [vI a, vI b] [(1, 0)] (n + 1) h := by
  have hB := hI
  obtain ⟨h72, h1, he, vC, vH, vT, vL, vX, vG, vN, vE, vS⟩ := hI
  obtain ⟨⟨Nr, u, m1, m2, m3, m4⟩, d1, d2, d3, d4, tb, d5⟩ := vC
  refine e_near h1 m1 d1 m2 m3 (by decide) (fun c => ?_) (fun c => ?_)
  · refine ⟨rfl, rfl, rfl, 1, 0, Or.inr ⟨0, by decide, rfl⟩, fun g hg => ?_⟩
    exact e_mnear (a := a) (b := b) ((hg 57 (by decide)).trans h72) (d4.fr (fun z a b => hg z (by omega)) rfl) d1 (by decide) (fun _ => fin0 hB hg (fun q => by omega)) (fun q => absurd q c)
  · refine ⟨(hS_n (by decide)).trans (hS_n (by decide)), (hS_n (by decide)).trans (hS_n (by decide)), (hS_n (by decide)).trans (hS_n (by decide)), 0, _, Or.inl ⟨rfl, rfl⟩, fun g hg => ?_⟩
    have fg : ∀ z, (z ≠ 2 ∧ z ≠ 4 ∧ z ≠ 91) → g.2 z = h.2 z := fun z q => (hg z q.2.2).trans ((hS_n q.1).trans (hS_n q.2.1))
    refine e_mnear (a := a) (b := b) ((fg 57 (by decide)).trans h72) (d4.fr (fun z a b => fg z (by omega)) rfl) d1 (by decide) (fun q => absurd c q) (fun _ => ?_)
    have fr : ∀ z, (z ≠ 2 ∧ z ≠ 4 ∧ z ≠ 57 ∧ z ≠ 59 ∧ z ≠ 91) → (naH g (mS s 0 0) C).2 z = h.2 z := fun z q => (hS_n q.2.2.2.1).trans ((hS_n q.2.2.1).trans (fg z (by omega)))
    have fm : Mq C e (naH g (mS s 0 0) C) := by
      have m5 : Mq C e (hS (hS h 4 (cI 289 (fw C))) 2 (cO 0 [vR 3, vR 4, vI e, vI 0])) := ⟨fw C, 0, Cs.rf (q := 2) m1, Or.inl rfl, fun _ => rfl, m4.fr (fun z a b => (hS_n (by omega)).trans (hS_n (by omega)))⟩
      exact m5.fr (fun z a b => (hS_n (by omega)).trans ((hS_n (by omega)).trans (hg z (by omega))))
    exact ⟨_, mS (mS s 0 0) 3 1, rfl, (hS_n (by decide)).trans (hS_s _ _ _), rfl, fun _ => rfl, ⟨mS (mS s 0 0) 3 1, C, e, sp, pc, sz, cl, cs, pk, pm, (hS_n (by decide)).trans (hS_s _ _ _), (fr 1 (by omega)).trans h1, (by omega), ⟨fm, d1, d2, d3, ⟨(fr 58 (by omega)).trans d4.1, fw C, hS_s _ _ _, Or.inr ⟨rfl, rfl⟩⟩, tb, (fr 60 (by omega)).trans d5⟩, vH.fr (fun z a => fr z (by omega)) rfl, vT.fr (fun z a => fr z (by omega)) rfl, vL.fr (fun z a => fr z (by omega)) rfl rfl, vX.fr (fun z a => fr z (by omega)), vG.fr (fun z a => fr z (by omega)) rfl rfl, vN.fr (fr 31 (by omega)), vE.fr (fun z a => fr z (by omega)) (fun i a b => (mS_n (by omega)).trans ((mS_n (by omega)))), vS.fr (fun z a => fr z (by omega)) rfl⟩, (hS_n (by decide)).trans (hS_n (by decide)), (hS_n (by decide)).trans (hS_n (by decide))⟩
theorem v_cost (hI : InvB n h s C e sp pc sz cl cs pk pm) (hn : n < 99999) (a b c : Int) : StpC 3 18 mX11_cost mX12_cost [vI a, vI b, vI c] [(1, 0)] (n + 1) h := by
  have hB := hI
  obtain ⟨h72, h1, he, vC, vH, vT, vL, vX, vG, vN, vE, vS⟩ := hI
  obtain ⟨⟨Nr, u, m1, m2, m3, m4⟩, d1, d2, d3, d4, tb, d5⟩ := vC
  refine e_cost h1 m1 ⟨d3, by omega⟩ (by decide) (fun q => ?_) (fun q => ?_)
  · refine ⟨rfl, rfl, rfl, 1, 0, Or.inr ⟨0, by decide, rfl⟩, fun g hg => ?_⟩
    exact e_mcost (a := a) (b := b) (c := c) ((hg 57 (by decide)).trans h72) ((hg 58 (by decide)).trans d4.1) (by decide) (fun _ => fin0 hB hg (fun q => by omega)) (fun q2 => absurd q2 q)
  · refine ⟨(hS_n (by decide)).trans (hS_n (by decide)), (hS_n (by decide)).trans (hS_n (by decide)), (hS_n (by decide)).trans (hS_n (by decide)), 0, _, Or.inl ⟨rfl, rfl⟩, fun g hg => ?_⟩
    have fg : ∀ z, (z ≠ 2 ∧ z ≠ 3 ∧ z ≠ 91) → g.2 z = h.2 z := fun z q => (hg z q.2.2).trans ((hS_n q.1).trans (hS_n q.2.1))
    refine e_mcost (a := a) (b := b) (c := c) ((fg 57 (by decide)).trans h72) ((fg 58 (by decide)).trans d4.1) (by decide) (fun q2 => absurd q q2) (fun _ => ?_)
    obtain ⟨Nm, d6, d7⟩ := d4.2
    have hC' : cOk (cS_ C (a + 1).toNat (b + 1).toNat c) := cS_ok d1 (by omega) (by omega) (by omega) (by omega)
    have hs' : symN (cS_ C (a + 1).toNat (b + 1).toNat c) := cS_sym d2 (by omega) (by omega)
    have fr : ∀ z, (z ≠ 2 ∧ z ≠ 3 ∧ z ≠ 57 ∧ z ≠ 58 ∧ z ≠ 91) → (hS (hS g 58 (cI 289 (cS_ C (a + 1).toNat (b + 1).toNat c))) 57 (mO (mS (mS s 0 0) 3 0))).2 z = h.2 z := fun z q => (hS_n q.2.2.1).trans ((hS_n q.2.2.2.1).trans (fg z (by omega)))
    have fm : Mq (cS_ C (a + 1).toNat (b + 1).toNat c) (e + 1) (hS (hS g 58 (cI 289 (cS_ C (a + 1).toNat (b + 1).toNat c))) 57 (mO (mS (mS s 0 0) 3 0))) := by
      have m5 : Mq (cS_ C (a + 1).toNat (b + 1).toNat c) (e + 1) (hS (hS h 3 (cI 289 (cS_ C (a + 1).toNat (b + 1).toNat c))) 2 (cO 0 [vR 3, vR 4, vI (e + 1), vI 1])) := ⟨Nr, 1, ⟨hS_s _ _ _, (hS_n (by decide)).trans (hS_s _ _ _), (hS_n (by decide)).trans ((hS_n (by decide)).trans m1.2.2)⟩, Or.inr rfl, fun q9 => by omega, m4.fr (fun z a b => (hS_n (by omega)).trans (hS_n (by omega)))⟩
      exact m5.fr (fun z a b => (hS_n (by omega)).trans ((hS_n (by omega)).trans (hg z (by omega))))
    obtain ⟨kn, ed, SN, n1, n2, n3, n4⟩ := vN
    obtain ⟨ns, kn2, ed2, T, wl, ws, wn, GG, WS, WM, SW, a1, a2, a3, a4, a5, a6, a7, a8, a9, a10, a11, a12, a13, a14, a15, a16, a17, a18, a19, a20, a21⟩ := vS
    exact ⟨_, mS (mS s 0 0) 3 0, rfl, hS_s _ _ _, rfl, fun _ => rfl, ⟨mS (mS s 0 0) 3 0, cS_ C (a + 1).toNat (b + 1).toNat c, e + 1, sp, pc, sz, cl, cs, pk, pm, hS_s _ _ _, (fr 1 (by omega)).trans h1, (by omega), ⟨fm, hC', hs', by omega, ⟨(hS_n (by decide)).trans (hS_s _ _ _), Nm, (fr 59 (by omega)).trans d6, Or.inl rfl⟩, tb, (fr 60 (by omega)).trans d5⟩, vH.fr (fun z a => fr z (by omega)) rfl, vT.fr (fun z a => fr z (by omega)) rfl, vL.fr (fun z a => fr z (by omega)) rfl rfl, vX.fr (fun z a => fr z (by omega)), vG.fr (fun z a => fr z (by omega)) rfl rfl, ⟨kn, ed, SN, (fr 31 (by omega)).trans n1, n2, by omega, fun _ q9 => by omega⟩, vE.fr (fun z a => fr z (by omega)) (fun i a b => (mS_n (by omega)).trans ((mS_n (by omega)))), ⟨ns, kn2, ed2, T, wl, ws, wn, GG, WS, WM, SW, (fr _ (by omega)).trans a1, a2.fr (fun z a b => fr z (by omega)), a3, (fr _ (by omega)).trans a4, (fr _ (by omega)).trans a5, (fr _ (by omega)).trans a6, (fr _ (by omega)).trans a7, a8, a9, a10, a11, by omega, (fr _ (by omega)).trans a13, (fr _ (by omega)).trans a14, (fr _ (by omega)).trans a15, (by obtain ⟨q, q1⟩ := a16; exact ⟨q, (fr _ (by omega)).trans q1⟩), (by obtain ⟨q, q1⟩ := a17; exact ⟨q, (fr _ (by omega)).trans q1⟩), (by obtain ⟨q, q1⟩ := a18; exact ⟨q, (fr _ (by omega)).trans q1⟩), a19, a20, fun _ q9 => by omega⟩⟩, (hS_n (by decide)).trans (hS_n (by decide)), (hS_n (by decide)).trans (hS_n (by decide))⟩
theorem v_feed (hI : InvB n h s C e sp pc sz cl cs pk pm) {a b c d u : Int} (ra : iR a) (rb : iR b) (rc : iR c) (rd : iR d) (ru : iR u) : StpC 0 0 mX11_feed mX12_feed [vI a, vI b, vI c, vI d, vI u] [] (n + 1) h := by
  have hB := hI
  obtain ⟨h72, h1, he, vC, vH, vT, vL, vX, vG, vN, vE, vS⟩ := hI
  obtain ⟨nt, f, gg, t1, t2, t3, t4, t5, t6⟩ := vT
  refine e_feed h1 t1 t2 (by decide) (fun q => ?_) (fun q => ?_)
  · refine ⟨rfl, rfl, rfl, 0, _, Or.inl ⟨rfl, rfl⟩, fun g hg => ?_⟩
    exact e_mfeed ((hg 57 (by decide)).trans h72) ((hg 62 (by decide)).trans t3) t4 t2 (fun _ => fin0 hB hg (fun _ => rfl)) (fun q2 => absurd q2 q)
  · refine ⟨(hS_n (by decide)).trans (hS_n (by decide)), (hS_n (by decide)).trans (hS_n (by decide)), (hS_n (by decide)).trans (hS_n (by decide)), 0, _, Or.inl ⟨rfl, rfl⟩, fun g hg => ?_⟩
    have fg : ∀ z, (z ≠ 12 ∧ z ≠ 13 ∧ z ≠ 91) → g.2 z = h.2 z := fun z q => (hg z q.2.2).trans ((hS_n q.1).trans (hS_n q.2.1))
    refine e_mfeed ((fg 57 (by decide)).trans h72) ((fg 62 (by decide)).trans t3) t4 t2 (fun q2 => absurd q q2) (fun _ => ?_)
    have fr : ∀ z, (z ≠ 12 ∧ z ≠ 13 ∧ z ≠ 57 ∧ z ≠ 62 ∧ z ≠ 91) → (mtH g (mS s 0 0) (mp4 (mp4 (mp4 (mp4 (mp4 gg nt a) (nt + 4) b) (nt + 4 + 4) c) (nt + 4 + 4 + 4) d) (nt + 4 + 4 + 4 + 4) u) (nt + 20)).2 z = h.2 z := fun z q => (hS_n q.2.2.1).trans ((hS_n q.2.2.2.1).trans (fg z (by omega)))
    have fT : Tp (mtH g (mS s 0 0) (mp4 (mp4 (mp4 (mp4 (mp4 gg nt a) (nt + 4) b) (nt + 4 + 4) c) (nt + 4 + 4 + 4) d) (nt + 4 + 4 + 4 + 4) u) (nt + 20)) 12 (nt + 20) (pt4 (pt4 (pt4 (pt4 (pt4 f nt a) (nt + 4) b) (nt + 4 + 4) c) (nt + 4 + 4 + 4) d) (nt + 4 + 4 + 4 + 4) u) := tpH_T.fr (fun z a b => (hS_n (by omega)).trans ((hS_n (by omega)).trans (hg z (by omega))))
    exact ⟨_, mS (mS s 0 0) 8 (nt + 20 : Nat), rfl, hS_s _ _ _, rfl, fun _ => rfl, ⟨mS (mS s 0 0) 8 (nt + 20 : Nat), C, e, sp, pc, sz, cl, cs, pk, pm, hS_s _ _ _, (fr 1 (by omega)).trans h1, (by omega), vC.fr (fun z a => fr z (by omega)) rfl, vH.fr (fun z a => fr z (by omega)) rfl, ⟨nt + 20, (pt4 (pt4 (pt4 (pt4 (pt4 f nt a) (nt + 4) b) (nt + 4 + 4) c) (nt + 4 + 4 + 4) d) (nt + 4 + 4 + 4 + 4) u), (mp4 (mp4 (mp4 (mp4 (mp4 gg nt a) (nt + 4) b) (nt + 4 + 4) c) (nt + 4 + 4 + 4) d) (nt + 4 + 4 + 4 + 4) u), fT, by omega, (hS_n (by decide)).trans (hS_s _ _ _), rfl, mp4_b (mp4_b (mp4_b (mp4_b (mp4_b t5)))), pt4_M ru (pt4_M rd (pt4_M rc (pt4_M rb (pt4_M ra t6))))⟩, vL.fr (fun z a => fr z (by omega)) rfl rfl, vX.fr (fun z a => fr z (by omega)), vG.fr (fun z a => fr z (by omega)) rfl rfl, vN.fr (fr 31 (by omega)), vE.fr (fun z a => fr z (by omega)) (fun i a b => (mS_n (by omega)).trans ((mS_n (by omega)))), vS.fr (fun z a => fr z (by omega)) rfl⟩, (hS_n (by decide)).trans (hS_n (by decide)), (hS_n (by decide)).trans (hS_n (by decide))⟩
end Stp982
