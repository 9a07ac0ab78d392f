/-! the grammar: both alike (written by wip/whole/gen98.py) -/
section Stp986
variable {n : Nat} {h g : PH} {s C : F_} {e : Int} {sp pc sz : Nat} {cl cs pk pm : F_}
theorem prX_F1 {nw pk cl cs : F_} {T : Int × Nat × PS} {a b : Int} (h : prX T = (a, b)) (ha : 0 < a) : (prF nw pk cl cs T).1 = a ∧ (((prF nw pk cl cs T).2.1.1 : Nat) : Int) = b := by
  unfold prX at h
  unfold prF
  by_cases q : T.1 ≠ 0
  · rw [if_pos q] at h ⊢
    cases h
    exact ⟨rfl, rfl⟩
  · rw [if_neg q] at h ⊢
    by_cases q2 : T.2.2.1.2 = 1 ∨ T.2.2.1.1 ≠ -1
    · rw [if_pos q2] at h ⊢
      cases h
      exact ⟨rfl, rfl⟩
    · rw [if_neg q2] at h
      cases h
      omega
theorem prF_5 {nw pk cl cs : F_} {m : Nat} {S : PS} (hS1 : S.1 = (-1, 0)) : prF nw pk cl cs (0, m, S) = ((mkS S nw pk cl cs).1.1, (m, if (mkS S nw pk cl cs).1.1 = 5 then 0 else (mkS S nw pk cl cs).1.2), S, (mkS S nw pk cl cs).2) := by
  unfold prF
  rw [if_neg (fun q => q rfl), if_neg (by
    show ¬ (S.1.2 = 1 ∨ S.1.1 ≠ -1)
    rw [hS1]; decide)]
theorem prF_S {nw pk cl cs : F_} {T : Int × Nat × PS} : (prF nw pk cl cs T).2.2.1 = T.2.2 := by
  unfold prF
  split
  · rfl
  · split <;> rfl
theorem prF_W {nw pk cl cs : F_} {T : Int × Nat × PS} (h1 : RwW 20 20 T.2.2.2.2.1.1) (h2 : T.2.2.2.1.1 ≤ 20) (h : RwW 40 120 cl) : RwW 40 120 (prF nw pk cl cs T).2.2.2.2.2.1 := by
  unfold prF
  split
  · exact h
  · split
    · exact h
    · exact mkS_W h1 h2 h
theorem v_grammar (hI : InvB n h s C e sp pc sz cl cs pk pm) (z : Int) : StpC 1 6 mX11_grammar mX12_grammar [vI z] [(1, 0)] (n + 1) h := by
  have hB := hI
  obtain ⟨h72, h1, he, vC, vH, vT, vL, vX, vG, vN, vE, vS⟩ := hI
  obtain ⟨nt, f, gg, t1, t2, t3, t4, t5, t6⟩ := vT
  obtain ⟨R, E, lf2, sf2, l1, l2, l3, l4, l5, l6, l7, l8, l9, l10, l11⟩ := vL
  have vG := vG
  obtain ⟨g0, ⟨wl, ws, wp, wq, op, oq, pt, ob, nw, wc, gs, gsW⟩, gsC, -, g5, g6, g7, g8, g9, g10, sd0, sm0, g11, g12, g13⟩ := vG
  obtain ⟨⟨o0, e0, rc0, x1⟩, x2, ⟨np0, x3⟩, ⟨pi0, x4⟩⟩ := vX
  obtain ⟨kn, ed, SN, n1, n2, n3, n4⟩ := vN
  obtain ⟨ac, SH, ag, a1, a2, a3, a4, a5⟩ := vE
  have vL := hB.2.2.2.2.2.2.1
  have vN := hB.2.2.2.2.2.2.2.2.2.1
  have vE := hB.2.2.2.2.2.2.2.2.2.2.1
  have hML : ∀ g : PH, (∀ z, 62 ≤ z → z ≤ 71 → g.2 z = h.2 z) → MLx g s gg R E := fun g hg => ⟨(hg 62 (by omega) (by omega)).trans t3, l11.fr (fun z a b => hg z (by omega) (by omega)) (by obtain ⟨q, q1⟩ := l11.1; exact ⟨q, (hg 71 (by omega) (by omega)).trans q1⟩) rfl rfl⟩
  have hfg : ∀ k : Nat, (k : Int) < s 8 → f k = gg k % 256 := fun k hk => t6 k (by omega)
  refine e_grammar h1 t1 t2 ⟨l1, l2, l3, t1.2, l4⟩ l8 x1 gs gsW gsC l5 l6 l7 n1 a1 (by omega) (by decide) (fun c => ?_) (fun c c2 h' nw' pp => ?_) (fun c c2 h' pp => ?_)
  · refine ⟨rfl, rfl, rfl, 1, 0, Or.inr ⟨0, by decide, rfl⟩, fun g fg => ?_⟩
    exact e_mgrammar (z := z) (f := f) (wl := wl) (ws := ws) (wp := wp) (wq := wq) (op := op) (oq := oq) (pt := pt) (ob := ob) (lf := lf2) (sf := sf2) (nw := nw) (pk := pk) (cl := cl) (cs := cs) ((fg 57 (by omega)).trans h72) (hML g (fun z a b => fg z (by omega))) (x2.fr (fun z a b => fg z (by omega))) ((fg 80 (by omega)).trans g8) ((fg 81 (by omega)).trans g11) ((fg 82 (by omega)).trans g12) ((fg 83 (by omega)).trans x3) ((fg 84 (by omega)).trans x4) l8 t5 hfg (by omega) gsW l7 (by decide) (fun _ => fin0 hB fg (fun q => by omega)) (fun q => absurd q (by rw [t4]; exact c)) (fun q => absurd q (by rw [t4]; exact c)) (fun q => absurd q (by rw [t4]; exact c))
  · skip
    have pI0 : psI 0 (((-1, 1), (0, 0), (wl, ws, wp, wq), (op, oq, pt, ob), (lf2, sf2)) : PS) := ⟨⟨Int.le_refl _, (by show (-1 : Int) < ((0 : Nat) : Int); decide)⟩, Or.inr rfl, Nat.zero_le _, Nat.zero_le _, gsW, l7, fun k hk => absurd hk (Nat.not_lt_zero _), fun k hk => absurd hk (Nat.not_lt_zero _), fun k hk => absurd hk (Nat.not_lt_zero _)⟩
    obtain ⟨-, pI, -⟩ := prs_I (f := f) (en := z.toNat) l8 (z.toNat + 1) 0 (((-1, 1), (0, 0), (wl, ws, wp, wq), (op, oq, pt, ob), (lf2, sf2)) : PS) (Nat.zero_le _) pI0 (fun k hk => absurd hk (Nat.not_lt_zero _))
    have pV := prs_V (f := f) (en := z.toNat) l8 l9 l10 (z.toNat + 1) 0 (((-1, 1), (0, 0), (wl, ws, wp, wq), (op, oq, pt, ob), (lf2, sf2)) : PS) (Nat.zero_le _) pI0 (fun k hk => absurd hk (Nat.not_lt_zero _))
    obtain ⟨-, p2, p3, p4, p5, p6⟩ := pp
    have pS : (prA R E f z.toNat wl ws wp wq op oq pt ob lf2 sf2 nw pk cl cs).2.2.1 = (prs R E f z.toNat (z.toNat + 1) 0 (((-1, 1), (0, 0), (wl, ws, wp, wq), (op, oq, pt, ob), (lf2, sf2)) : PS)).2.2 := prF_S
    rw [pS] at p3 p4 p5 p6
    refine ⟨(hS_n (by decide)).trans ((p2 0 (by omega) (by omega) (by omega) (by omega)).trans (hS_n (by decide))), (hS_n (by decide)).trans ((p2 91 (by omega) (by omega) (by omega) (by omega)).trans (hS_n (by decide))), (hS_n (by decide)).trans ((p2 57 (by omega) (by omega) (by omega) (by omega)).trans (hS_n (by decide))), 0, _, Or.inl ⟨rfl, rfl⟩, fun g hg => ?_⟩
    have fg : ∀ z', (z' ≠ 1 ∧ z' ≠ 12 ∧ z' ≠ 28 ∧ z' ≠ 29 ∧ z' ≠ 30 ∧ (z' < sp ∨ sp + 14 < z') ∧ z' ≠ 91) → g.2 z' = h.2 z' := fun z' q => (hg z' (by omega)).trans ((hS_n (by omega)).trans ((p2 z' (by omega) (by omega) (by omega) (by omega)).trans (hS_n (by omega))))
    have kf : ∀ z', (z' ≠ 1 ∧ z' ≠ 91) → g.2 z' = h'.2 z' := fun z' q => (hg z' q.2).trans (hS_n q.1)
    have k1 := (hg 1 (by decide)).trans (hS_s _ _ _)
    have k12 : g.2 12 = some (cO 10 [vR 13, vI (0 : Nat)]) := (kf 12 (by decide)).trans ((p2 12 (by omega) (by omega) (by omega) (by omega)).trans (hS_s _ _ _))
    refine e_mgrammar (z := z) (f := f) (wl := wl) (ws := ws) (wp := wp) (wq := wq) (op := op) (oq := oq) (pt := pt) (ob := ob) (lf := lf2) (sf := sf2) (nw := nw) (pk := pk) (cl := cl) (cs := cs) ((fg 57 (by omega)).trans h72) (hML g (fun z a b => fg z (by omega))) (x2.fr (fun z a b => fg z (by omega))) ((fg 80 (by omega)).trans g8) ((fg 81 (by omega)).trans g11) ((fg 82 (by omega)).trans g12) ((fg 83 (by omega)).trans x3) ((fg 84 (by omega)).trans x4) l8 t5 hfg (by omega) gsW l7 (by decide) (fun q => absurd (by rw [t4]; exact c) q) (fun _ h2 t' mf q33 qX => ?_) (fun _ S' qP qS e9 q56 qm h2 t' np pi mf q34 => ?_) (fun _ S' qP qS qm => ?_)
    · obtain ⟨f1, f72, ff, e86, e87, e88, e89, e90, e91, e92, e93, e94, fz⟩ := mf
      obtain ⟨w1, w2⟩ := prX_F1 (nw := nw) (pk := pk) (cl := cl) (cs := cs) qX q33
      have w1 : (prA R E f z.toNat wl ws wp wq op oq pt ob lf2 sf2 nw pk cl cs).1 = t' 33 := w1
      have w2 : (((prA R E f z.toNat wl ws wp wq op oq pt ob lf2 sf2 nw pk cl cs).2.1.1 : Nat) : Int) = t' 34 := w2
      have gf : ∀ z', (z' ≠ 57 ∧ (z' < 71 ∨ 79 < z')) → h2.2 z' = g.2 z' := fun z' q => (fz z' q.1 q.2).trans (hS_n q.1)
      have fr : ∀ z', (z' ≠ 1 ∧ z' ≠ 12 ∧ z' ≠ 28 ∧ z' ≠ 29 ∧ z' ≠ 30 ∧ (z' < sp ∨ sp + 14 < z') ∧ z' ≠ 57 ∧ (z' < 71 ∨ 79 < z') ∧ z' ≠ 91) → h2.2 z' = h.2 z' := fun z' q => (gf z' (by omega)).trans (fg z' (by omega))
      have ft : ∀ i, (i ≠ 0 ∧ i ≠ 8 ∧ i ≠ 9 ∧ i ≠ 21 ∧ (i < 30 ∨ 34 < i)) → t' i = s i := fun i q => (ff i (by omega) (by omega)).trans ((mS_n (by omega)).trans ((mS_n (by omega)).trans ((mS_n (by omega)).trans ((mS_n (by omega)).trans ((mS_n (by omega)).trans ((mS_n (by omega)).trans ((mS_n (by omega)).trans (mS_n (by omega)))))))))
      have f12 := (gf 12 (by omega)).trans k12
      exact ⟨_, t', rfl, f72, ff 0 (by decide) (by decide), fun _ => by rw [w1], ⟨t', C, e, sp, pc, sz, cl, cs, pk, pm, f72, (gf 1 (by omega)).trans (by rw [← w2]; exact k1), (by omega), vC.fr (fun z a => fr z (by omega)) (ft 3 (by decide)), vH.fr (fun z a => fr z (by omega)) (ft 6 (by decide)), ⟨0, f, gg, ⟨f12, (fr 13 (by omega)).trans t1.2⟩, by omega, (fr 62 (by omega)).trans t3, ff 8 (by decide) (by decide), t5, fun k hk => by omega⟩, vL.fr2 (fun z a => fr z (by omega)) e86 ⟨_, _, (gf 28 (by omega)).trans ((kf 28 (by decide)).trans p5), (gf 29 (by omega)).trans ((kf 29 (by decide)).trans p6), pI.2.2.2.2.2.1⟩ (ft 14 (by decide)) (ft 19 (by decide)), ⟨⟨_, _, _, (gf 30 (by omega)).trans ((kf 30 (by decide)).trans p3)⟩, ⟨e86, e87, e88, e89, e90, e91, e92, e93, e94⟩, ⟨np0, (fr 83 (by omega)).trans x3⟩, ⟨pi0, (fr 84 (by omega)).trans x4⟩⟩, ⟨g0, ⟨_, _, _, _, _, _, _, _, _, _, p4.fr (fun z a b => (gf z (by omega)).trans (kf z (by omega))), pI.2.2.2.2.1⟩, gsC, trivial, g5, g6, g7, (fr 80 (by omega)).trans g8, (ft 35 (by decide)).trans g9, (ft 36 (by decide)).trans g10, sd0, sm0, (fr 81 (by omega)).trans g11, (fr 82 (by omega)).trans g12, g13⟩, vN.fr (fr 31 (by omega)), vE.fr (fun z a => fr z (by omega)) (fun i a b => ft i (by omega)), vS.fr (fun z a => fr z (by omega)) (ft 52 (by decide))⟩, gf 0 (by omega), gf 91 (by omega)⟩
    · obtain ⟨f1, f72, ff, e86, e87, e88, e89, e90, e91, e92, e93, e94, fz⟩ := mf
      have qP : (prs R E f z.toNat (z.toNat + 1) 0 (((-1, 1), (0, 0), (wl, ws, wp, wq), (op, oq, pt, ob), (lf2, sf2)) : PS)) = (0, z.toNat, S') := qP
      have wF : (prA R E f z.toNat wl ws wp wq op oq pt ob lf2 sf2 nw pk cl cs) = _ := (congrArg (prF nw pk cl cs) qP).trans (prF_5 qS)
      have w1 : (prA R E f z.toNat wl ws wp wq op oq pt ob lf2 sf2 nw pk cl cs).1 = e9 := by rw [wF]; exact qm
      have w2 : (((prA R E f z.toNat wl ws wp wq op oq pt ob lf2 sf2 nw pk cl cs).2.1.1 : Nat) : Int) = t' 34 := by rw [wF, q34]; show ((z.toNat : Nat) : Int) = z; omega
      have gf : ∀ z', (z' ≠ 57 ∧ (z' < 71 ∨ 79 < z') ∧ z' ≠ 83 ∧ z' ≠ 84) → h2.2 z' = g.2 z' := fun z' q => (fz z' (by omega) (by omega)).trans ((lsH_n (by omega) (by omega)).trans (hS_n (by omega)))
      have fr : ∀ z', (z' ≠ 1 ∧ z' ≠ 12 ∧ z' ≠ 28 ∧ z' ≠ 29 ∧ z' ≠ 30 ∧ (z' < sp ∨ sp + 14 < z') ∧ z' ≠ 57 ∧ (z' < 71 ∨ 79 < z') ∧ z' ≠ 83 ∧ z' ≠ 84 ∧ z' ≠ 91) → h2.2 z' = h.2 z' := fun z' q => (gf z' (by omega)).trans (fg z' (by omega))
      have ft : ∀ i, (i ≠ 0 ∧ i ≠ 8 ∧ i ≠ 9 ∧ i ≠ 21 ∧ (i < 30 ∨ 34 < i)) → t' i = s i := fun i q => (ff i (by omega) (by omega)).trans ((mS_n (by omega)).trans ((mS_n (by omega)).trans ((mS_n (by omega)).trans ((mS_n (by omega)).trans ((mS_n (by omega)).trans ((mS_n (by omega)).trans ((mS_n (by omega)).trans (mS_n (by omega)))))))))
      have f12 := (gf 12 (by omega)).trans k12
      exact ⟨_, t', rfl, f72, ff 0 (by decide) (by decide), fun _ => by rw [w1], ⟨t', C, e, sp, pc, sz, cl, cs, pk, pm, f72, (gf 1 (by omega)).trans (by rw [← w2]; exact k1), (by omega), vC.fr (fun z a => fr z (by omega)) (ft 3 (by decide)), vH.fr (fun z a => fr z (by omega)) (ft 6 (by decide)), ⟨0, f, gg, ⟨f12, (fr 13 (by omega)).trans t1.2⟩, by omega, (fr 62 (by omega)).trans t3, ff 8 (by decide) (by decide), t5, fun k hk => by omega⟩, vL.fr2 (fun z a => fr z (by omega)) e86 ⟨_, _, (gf 28 (by omega)).trans ((kf 28 (by decide)).trans p5), (gf 29 (by omega)).trans ((kf 29 (by decide)).trans p6), pI.2.2.2.2.2.1⟩ (ft 14 (by decide)) (ft 19 (by decide)), ⟨⟨_, _, _, (gf 30 (by omega)).trans ((kf 30 (by decide)).trans p3)⟩, ⟨e86, e87, e88, e89, e90, e91, e92, e93, e94⟩, ⟨np, (fz 83 (by decide) (by omega)).trans lsH_98⟩, ⟨pi, (fz 84 (by decide) (by omega)).trans lsH_99⟩⟩, ⟨g0, ⟨_, _, _, _, _, _, _, _, _, _, p4.fr (fun z a b => (gf z (by omega)).trans (kf z (by omega))), pI.2.2.2.2.1⟩, gsC, trivial, g5, g6, g7, (fr 80 (by omega)).trans g8, (ft 35 (by decide)).trans g9, (ft 36 (by decide)).trans g10, sd0, sm0, (fr 81 (by omega)).trans g11, (fr 82 (by omega)).trans g12, g13⟩, vN.fr (fr 31 (by omega)), vE.fr (fun z a => fr z (by omega)) (fun i a b => ft i (by omega)), vS.fr (fun z a => fr z (by omega)) (ft 52 (by decide))⟩, gf 0 (by omega), gf 91 (by omega)⟩
    · have qP : (prs R E f z.toNat (z.toNat + 1) 0 (((-1, 1), (0, 0), (wl, ws, wp, wq), (op, oq, pt, ob), (lf2, sf2)) : PS)) = (0, z.toNat, S') := qP
      have wF : (prA R E f z.toNat wl ws wp wq op oq pt ob lf2 sf2 nw pk cl cs) = _ := (congrArg (prF nw pk cl cs) qP).trans (prF_5 qS)
      exact absurd (by rw [wF]; exact qm) c2
  · skip
    have pI0 : psI 0 (((-1, 1), (0, 0), (wl, ws, wp, wq), (op, oq, pt, ob), (lf2, sf2)) : PS) := ⟨⟨Int.le_refl _, (by show (-1 : Int) < ((0 : Nat) : Int); decide)⟩, Or.inr rfl, Nat.zero_le _, Nat.zero_le _, gsW, l7, fun k hk => absurd hk (Nat.not_lt_zero _), fun k hk => absurd hk (Nat.not_lt_zero _), fun k hk => absurd hk (Nat.not_lt_zero _)⟩
    obtain ⟨-, pI, -⟩ := prs_I (f := f) (en := z.toNat) l8 (z.toNat + 1) 0 (((-1, 1), (0, 0), (wl, ws, wp, wq), (op, oq, pt, ob), (lf2, sf2)) : PS) (Nat.zero_le _) pI0 (fun k hk => absurd hk (Nat.not_lt_zero _))
    have pV := prs_V (f := f) (en := z.toNat) l8 l9 l10 (z.toNat + 1) 0 (((-1, 1), (0, 0), (wl, ws, wp, wq), (op, oq, pt, ob), (lf2, sf2)) : PS) (Nat.zero_le _) pI0 (fun k hk => absurd hk (Nat.not_lt_zero _))
    obtain ⟨-, p2, p3, p4, p5, p6⟩ := pp
    have pW : RwW 40 120 (prA R E f z.toNat wl ws wp wq op oq pt ob lf2 sf2 nw pk cl cs).2.2.2.2.2.1 := prF_W pI.2.2.2.2.1 pI.2.2.1 gsC
    have pS : (prA R E f z.toNat wl ws wp wq op oq pt ob lf2 sf2 nw pk cl cs).2.2.1 = (prs R E f z.toNat (z.toNat + 1) 0 (((-1, 1), (0, 0), (wl, ws, wp, wq), (op, oq, pt, ob), (lf2, sf2)) : PS)).2.2 := prF_S
    rw [pS] at p3 p4 p5 p6
    refine ⟨(hS_n (by decide)).trans ((hS_n (by decide)).trans ((hS_n (by decide)).trans ((p2 0 (by omega) (by omega) (by omega) (by omega)).trans (hS_n (by decide))))), (hS_n (by decide)).trans ((hS_n (by decide)).trans ((hS_n (by decide)).trans ((p2 91 (by omega) (by omega) (by omega) (by omega)).trans (hS_n (by decide))))), (hS_n (by decide)).trans ((hS_n (by decide)).trans ((hS_n (by decide)).trans ((p2 57 (by omega) (by omega) (by omega) (by omega)).trans (hS_n (by decide))))), 0, _, Or.inl ⟨rfl, rfl⟩, fun g hg => ?_⟩
    have kf : ∀ z', (z' ≠ 1 ∧ z' ≠ 31 ∧ z' ≠ 32 ∧ z' ≠ 91) → g.2 z' = h'.2 z' := fun z' q => (hg z' (by omega)).trans ((hS_n (by omega)).trans ((hS_n (by omega)).trans (hS_n (by omega))))
    have fg : ∀ z', (z' ≠ 1 ∧ z' ≠ 12 ∧ z' ≠ 28 ∧ z' ≠ 29 ∧ z' ≠ 30 ∧ z' ≠ 31 ∧ z' ≠ 32 ∧ (z' < sp ∨ sp + 14 < z') ∧ z' ≠ 91) → g.2 z' = h.2 z' := fun z' q => (kf z' (by omega)).trans ((p2 z' (by omega) (by omega) (by omega) (by omega)).trans (hS_n (by omega)))
    have k1 : g.2 1 = some (sdO sp (-1)) := (hg 1 (by decide)).trans ((hS_n (by decide)).trans ((hS_n (by decide)).trans (hS_s _ _ _)))
    have k31 : g.2 31 = some (neO 0 ed SN) := (hg 31 (by decide)).trans ((hS_n (by decide)).trans (hS_s _ _ _))
    have k32 : g.2 32 = some (heO 32 0 (-1, -1, -1, -1)) := (hg 32 (by decide)).trans (hS_s _ _ _)
    have k12 : g.2 12 = some (cO 10 [vR 13, vI (0 : Nat)]) := (kf 12 (by decide)).trans ((p2 12 (by omega) (by omega) (by omega) (by omega)).trans (hS_s _ _ _))
    refine e_mgrammar (z := z) (f := f) (wl := wl) (ws := ws) (wp := wp) (wq := wq) (op := op) (oq := oq) (pt := pt) (ob := ob) (lf := lf2) (sf := sf2) (nw := nw) (pk := pk) (cl := cl) (cs := cs) ((fg 57 (by omega)).trans h72) (hML g (fun z a b => fg z (by omega))) (x2.fr (fun z a b => fg z (by omega))) ((fg 80 (by omega)).trans g8) ((fg 81 (by omega)).trans g11) ((fg 82 (by omega)).trans g12) ((fg 83 (by omega)).trans x3) ((fg 84 (by omega)).trans x4) l8 t5 hfg (by omega) gsW l7 (by decide) (fun q => absurd (by rw [t4]; exact c) q) (fun _ h2 t' mf q33 qX => ?_) (fun _ S' qP qS e9 q56 qm h2 t' np pi mf q34 => ?_) (fun _ S' qP qS qm h2 t' np pi pk2 sd2 sm2 pi2 mf q34 qg => ?_)
    · obtain ⟨w1, w2⟩ := prX_F1 (nw := nw) (pk := pk) (cl := cl) (cs := cs) qX q33
      have w1 : (prA R E f z.toNat wl ws wp wq op oq pt ob lf2 sf2 nw pk cl cs).1 = t' 33 := w1
      omega
    · have qP : (prs R E f z.toNat (z.toNat + 1) 0 (((-1, 1), (0, 0), (wl, ws, wp, wq), (op, oq, pt, ob), (lf2, sf2)) : PS)) = (0, z.toNat, S') := qP
      have wF : (prA R E f z.toNat wl ws wp wq op oq pt ob lf2 sf2 nw pk cl cs) = _ := (congrArg (prF nw pk cl cs) qP).trans (prF_5 qS)
      rw [wF] at c2
      have c2 : (mkS S' nw pk cl cs).1.1 = 0 := c2
      omega
    · obtain ⟨f1, f72, ff, e86, e87, e88, e89, e90, e91, e92, e93, e94, fz⟩ := mf
      have qP : (prs R E f z.toNat (z.toNat + 1) 0 (((-1, 1), (0, 0), (wl, ws, wp, wq), (op, oq, pt, ob), (lf2, sf2)) : PS)) = (0, z.toNat, S') := qP
      have wF : (prA R E f z.toNat wl ws wp wq op oq pt ob lf2 sf2 nw pk cl cs) = _ := (congrArg (prF nw pk cl cs) qP).trans (prF_5 qS)
      rw [qP] at p3 p4 p5 p6 pI pV
      have w3 : (prA R E f z.toNat wl ws wp wq op oq pt ob lf2 sf2 nw pk cl cs).2.1.2 = (mkS S' nw pk cl cs).1.2 := by rw [wF]; show (if (mkS S' nw pk cl cs).1.1 = 5 then 0 else (mkS S' nw pk cl cs).1.2) = _; rw [qm]; rfl
      rw [w3] at p4
      have w4 : (prA R E f z.toNat wl ws wp wq op oq pt ob lf2 sf2 nw pk cl cs).2.2.2 = (mkS S' nw pk cl cs).2 := by rw [wF]
      rw [w4] at p4 pW
      obtain ⟨v1, v2⟩ := mkS_v (nw := nw) (pk := pk) (cl := cl) (cs := cs) (S := S') pI.2.2.2.2.1 pI.2.2.1 pI.2.2.2.1 pV qm
      have gf : ∀ z', (z' ≠ 57 ∧ (z' < 71 ∨ 84 < z')) → (gnH h2 pk2 sd2 sm2 pi2).2 z' = g.2 z' := fun z' q => (gnH_n (by omega) (by omega) (by omega) (by omega)).trans ((fz z' (by omega) (by omega)).trans ((lsH_n (by omega) (by omega)).trans (hS_n (by omega))))
      have fr : ∀ z', (z' ≠ 1 ∧ z' ≠ 12 ∧ z' ≠ 28 ∧ z' ≠ 29 ∧ z' ≠ 30 ∧ z' ≠ 31 ∧ z' ≠ 32 ∧ (z' < sp ∨ sp + 14 < z') ∧ z' ≠ 57 ∧ (z' < 71 ∨ 84 < z') ∧ z' ≠ 91) → (gnH h2 pk2 sd2 sm2 pi2).2 z' = h.2 z' := fun z' q => (gf z' (by omega)).trans (fg z' (by omega))
      have hf : ∀ z', (71 ≤ z' ∧ z' ≤ 79) → (gnH h2 pk2 sd2 sm2 pi2).2 z' = h2.2 z' := fun z' q => gnH_n (by omega) (by omega) (by omega) (by omega)
      have ft : ∀ i, (i ≠ 0 ∧ i ≠ 8 ∧ i ≠ 9 ∧ i ≠ 21 ∧ (i < 30 ∨ 34 < i) ∧ i ≠ 35 ∧ i ≠ 36 ∧ i ≠ 45) → t' i = s i := fun i q => (ff i (by omega) (by omega)).trans ((mS_n (by omega)).trans ((mS_n (by omega)).trans ((mS_n (by omega)).trans ((mS_n (by omega)).trans ((mS_n (by omega)).trans ((mS_n (by omega)).trans ((mS_n (by omega)).trans ((mS_n (by omega)).trans ((mS_n (by omega)).trans ((mS_n (by omega)).trans (mS_n (by omega))))))))))))
      have f12 := (gf 12 (by omega)).trans k12
      have j72 := (gnH_n (h := h2) (pk := pk2) (sd := sd2) (sm := sm2) (pi := pi2) (u := 57) (by decide) (by decide) (by decide) (by decide)).trans f72
      have j98 : (gnH h2 pk2 sd2 sm2 pi2).2 83 = some (cI 960 np) := (gnH_n (by decide) (by decide) (by decide) (by decide)).trans ((fz 83 (by decide) (by omega)).trans lsH_98)
      have gA : gAr h2 := ⟨e86, e87, e88, e89, e90, e91, e92, e93, e94⟩
      exact ⟨_, t', rfl, j72, ff 0 (by decide) (by decide), fun _ => by rw [w3], ⟨t', C, e, sp, S'.2.1.2, (mkS S' nw pk cl cs).1.2, (mkS S' nw pk cl cs).2.2.2.1, (mkS S' nw pk cl cs).2.2.2.2, (mkS S' nw pk cl cs).2.2.1, pk2, j72, (gf 1 (by omega)).trans (by rw [q34]; exact k1), (by omega), vC.fr (fun z a => fr z (by omega)) (ft 3 (by decide)), vH.fr (fun z a => fr z (by omega)) (ft 6 (by decide)), ⟨0, f, gg, ⟨f12, (fr 13 (by omega)).trans t1.2⟩, by omega, (fr 62 (by omega)).trans t3, ff 8 (by decide) (by decide), t5, fun k hk => by omega⟩, vL.fr2 (fun z a => fr z (by omega)) (gA.fr (fun z a b => hf z (by omega))).1 ⟨_, _, (gf 28 (by omega)).trans ((kf 28 (by decide)).trans p5), (gf 29 (by omega)).trans ((kf 29 (by decide)).trans p6), pI.2.2.2.2.2.1⟩ (ft 14 (by decide)) (ft 19 (by decide)), ⟨⟨_, _, _, (gf 30 (by omega)).trans ((kf 30 (by decide)).trans p3)⟩, gA.fr (fun z a b => hf z (by omega)), ⟨np, j98⟩, ⟨pi2, gnH_99⟩⟩, ⟨g0, ⟨_, _, _, _, _, _, _, _, _, _, p4.fr (fun z a b => (gf z (by omega)).trans (kf z (by omega))), pI.2.2.2.2.1⟩, pW, trivial, v1, pI.2.2.2.1, v2, gnH_95, ff 35 (by decide) (by decide), ff 36 (by decide) (by decide), sd2, sm2, gnH_96, gnH_97, qg⟩, ⟨0, ed, SN, (gf 31 (by omega)).trans k31, Or.inl rfl, n3, fun q => by omega⟩, ⟨0, (-1, -1, -1, -1), ag, (gf 32 (by omega)).trans k32, (fr 33 (by omega)).trans a2, by omega, (by rw [ft 46 (by decide), ft 47 (by decide), ft 48 (by decide), ff 45 (by decide) (by decide)]; exact ⟨a4.1, a4.2.1, by rw [mS_s]; decide, a4.2.2.2⟩), Or.inl ⟨rfl, rfl, rfl, ff 45 (by decide) (by decide)⟩⟩, vS.fr (fun z a => fr z (by omega)) (ft 52 (by decide))⟩, gf 0 (by omega), gf 91 (by omega)⟩
end Stp986
