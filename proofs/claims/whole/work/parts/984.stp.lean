/-! reading, the rules, the book: both alike (written by wip/whole/gen98.py) -/
section Stp984
variable {n : Nat} {h g : PH} {s C : F_} {e : Int} {sp pc sz : Nat} {cl cs pk pm : F_}
theorem tl_find {cs : F_} {sz k : Nat} {c c' : Int} (h : fnd cs c 0 sz = k) (e : c' = c) : cs k = c' := by
  rcases fnd_b cs c sz 0 with q | ⟨k9, a9, b9, d9, e9⟩
  · rw [h] at q; omega
  · rw [h] at d9
    obtain rfl : k = k9 := by omega
    rw [e]; exact e9
theorem lx1_set {el : F_} {sz sz' k m : Nat} (h : ∀ u, u < sz → 1 ≤ el u) (hs : ∀ u, u < sz' → u ≠ k → u < sz) (hm : 1 ≤ m) : ∀ u, u < sz' → 1 ≤ fS el k (m : Int) u := by
  intro u hu
  by_cases q : u = k
  · rw [q, fS_s]; omega
  · rw [fS_n q]; exact h u (hs u hu q)
theorem tmH_n {AL nL most nS : Nat} {L ln S mn gg hf : F_} {wide w k m z : Nat} {many : Int} (hz : z < AL ∨ AL + 3 < z) : (tmH h AL nL most nS L ln S mn gg hf wide w k m many).2 z = h.2 z := by
  unfold tmH
  exact (hS_n (by omega)).trans ((hS_n (by omega)).trans ((hS_n (by omega)).trans (hS_n (by omega))))
theorem tmH_c {AL nL most nS : Nat} {L ln S mn gg hf : F_} {wide w k m : Nat} {many : Int} : (tmH h AL nL most nS L ln S mn gg hf wide w k m many).2 AL = some (cI nL (va_cpy gg L 0 (wide * k) m)) ∧ (tmH h AL nL most nS L ln S mn gg hf wide w k m many).2 (AL + 1) = some (cI most (fS ln k m)) ∧ (tmH h AL nL most nS L ln S mn gg hf wide w k m many).2 (AL + 2) = some (cI nS (va_cpy hf S 0 (w * k) many.toNat)) ∧ (tmH h AL nL most nS L ln S mn gg hf wide w k m many).2 (AL + 3) = some (cI most (fS mn k many)) := by
  unfold tmH
  exact ⟨(hS_n (by omega)).trans ((hS_n (by omega)).trans ((hS_n (by omega)).trans (hS_s _ _ _))), (hS_n (by omega)).trans ((hS_n (by omega)).trans (hS_s _ _ _)), (hS_n (by omega)).trans (hS_s _ _ _), hS_s _ _ _⟩
theorem tlH_c {q most ml w w' k sz' : Nat} {lf sf lf' sf' cs' ls' lf0 sf0 : F_} (hR : Rw h (q + 3) w most lf0 sf0) : Lx (tlH h q most ml w lf sf lf' sf' w' k sz' cs' ls') q most ml w sz' cs' ls' (fS lf k (jn w 0 (lf' 0))) (va_cpy sf' sf (0 * w') (k * w) (jn w 0 (lf' 0)).toNat) := by
  unfold tlH
  refine ⟨(hS_n (by omega)).trans ((hS_n (by omega)).trans ((hS_n (by omega)).trans ((hS_n (by omega)).trans (hS_s _ _ _)))), (hS_n (by omega)).trans ((hS_n (by omega)).trans ((hS_n (by omega)).trans (hS_s _ _ _))), (hS_n (by omega)).trans ((hS_n (by omega)).trans (hS_s _ _ _)), ?_, ?_, ?_⟩
  · exact (hS_n (by omega)).trans ((hS_n (by omega)).trans ((hS_n (by omega)).trans ((hS_n (by omega)).trans ((hS_n (by omega)).trans hR.1))))
  · exact hS_s _ _ _
  · exact (hS_n (by omega)).trans (hS_s _ _ _)
theorem v_read (hI : InvB n h s C e sp pc sz cl cs pk pm) (z : Int) : StpC 1 6 mX11_read mX12_read [vI z] [(1, 0)] (n + 1) h := by
  have hB := hI
  obtain ⟨h72, h1, he, vC, vH, vT, vL, vX, vG, vN, vE, vS⟩ := hI
  obtain ⟨nt, f, gg, t1, t2, t3, t4, t5, t6⟩ := vT
  obtain ⟨R, E, lf2, sf2, l1, l2, l3, l4, l5, l6, l7, l8, l9, l10, l11⟩ := vL
  obtain ⟨lf, sf, hf, r1, r2, r3, r4, r5, r6⟩ := vH
  have hl := r2.1 0 (by omega)
  have vH := hB.2.2.2.2.1
  have vL := hB.2.2.2.2.2.2.1
  have vX := hB.2.2.2.2.2.2.2.1
  have hML : ∀ g : PH, (∀ z, 62 ≤ z → z ≤ 71 → g.2 z = h.2 z) → MLx g s gg R E := fun g hg => ⟨(hg 62 (by omega) (by omega)).trans t3, l11.fr (fun z a b => hg z (by omega) (by omega)) (by obtain ⟨q, q1⟩ := l11.1; exact ⟨q, (hg 71 (by omega) (by omega)).trans q1⟩) rfl rfl⟩
  refine e_read h1 t1 t2 ⟨l1, l2, l3, t1.2, l4⟩ l8 l5 l6 l7 r1 r2 (by decide) (fun c => ?_) (fun c c2 => ?_) (fun c c2 c3 => ?_) (fun c c2 c3 => ?_)
  · refine ⟨rfl, rfl, rfl, 1, 0, Or.inr ⟨0, by decide, rfl⟩, fun g hg => ?_⟩
    exact e_mread (z := z) (lf := lf2) (sf := sf2) ((hg 57 (by decide)).trans h72) (hML g (fun z a b => hg z (by omega))) ((hg 61 (by decide)).trans r4) t5 l8 (by omega) (by decide) (fun _ => fin0 hB hg (fun q => by omega)) (fun q => absurd q (by rw [t4]; exact c)) (fun q => absurd q (by rw [t4]; exact c)) (fun q => absurd q (by rw [t4]; exact c))
  · have c2' : ¬ mSp gg z 10 := fun q => c2 ((sp_M t5 t6 t2 c).mpr q)
    refine ⟨hS_n (by decide), hS_n (by decide), hS_n (by decide), 0, _, Or.inl ⟨rfl, rfl⟩, fun g hg => ?_⟩
    have fg : ∀ z, (z ≠ 12 ∧ z ≠ 91) → g.2 z = h.2 z := fun z q => (hg z q.2).trans (hS_n q.1)
    refine e_mread (z := z) (lf := lf2) (sf := sf2) ((fg 57 (by decide)).trans h72) (hML g (fun z a b => fg z (by omega))) ((fg 61 (by decide)).trans r4) t5 l8 (by omega) (by decide) (fun q => absurd (by rw [t4]; exact c) q) (fun _ _ => ?_) (fun _ q => absurd q c2') (fun _ q => absurd q c2')
    have fr : ∀ z', (z' ≠ 12 ∧ z' ≠ 57 ∧ z' ≠ 91) → (hS g 57 (mO (mS (mS (mS s 0 0) 9 z) 8 0))).2 z' = h.2 z' := fun z' q => (hS_n q.2.1).trans (fg z' (by omega))
    have f12 : (hS g 57 (mO (mS (mS (mS s 0 0) 9 z) 8 0))).2 12 = some (cO 10 [vR 13, vI (0 : Nat)]) := (hS_n (by decide)).trans ((hg 12 (by decide)).trans (hS_s _ _ _))
    exact ⟨_, mS (mS (mS s 0 0) 9 z) 8 0, rfl, hS_s _ _ _, rfl, fun _ => rfl, ⟨mS (mS (mS s 0 0) 9 z) 8 0, C, e, sp, pc, sz, cl, cs, pk, pm, hS_s _ _ _, (fr 1 (by omega)).trans h1, (by omega), vC.fr (fun z a => fr z (by omega)) rfl, vH.fr (fun z a => fr z (by omega)) rfl, ⟨0, f, gg, ⟨f12, (fr 13 (by omega)).trans t1.2⟩, by omega, (fr 62 (by omega)).trans t3, rfl, t5, fun k hk => by omega⟩, vL.fr (fun z a => fr z (by omega)) rfl rfl, vX.fr (fun z a => fr z (by omega)), vG.fr (fun z a => fr z (by omega)) rfl rfl, vN.fr (fr 31 (by omega)), vE.fr (fun z a => fr z (by omega)) (fun i a b => (mS_n (by omega)).trans ((mS_n (by omega)).trans ((mS_n (by omega))))), vS.fr (fun z a => fr z (by omega)) rfl⟩, hS_n (by decide), hS_n (by decide)⟩
  · have c2' : mSp gg z 10 := (sp_M t5 t6 t2 c).mp c2
    have eR : rdE R E gg 0 z.toNat lf2 sf2 = rdE R E f 0 z.toNat lf2 sf2 := (rdE_ext (eq_M t6 (by omega) c2'.2.2)).symm
    have hb := rdE_b (f := f) (b := 0) (c := z.toNat) (lf := lf2) (sf := sf2) l8
    refine ⟨(rsH_n (by decide) (by decide)).trans (hS_n (by decide)), (rsH_n (by decide) (by decide)).trans (hS_n (by decide)), (rsH_n (by decide) (by decide)).trans (hS_n (by decide)), 0, _, Or.inl ⟨rfl, rfl⟩, fun g hg => ?_⟩
    have fg : ∀ z, (z ≠ 12 ∧ z ≠ 28 ∧ z ≠ 29 ∧ z ≠ 91) → g.2 z = h.2 z := fun z q => (hg z q.2.2.2).trans ((rsH_n q.2.1 q.2.2.1).trans (hS_n q.1))
    refine e_mread (z := z) (lf := lf2) (sf := sf2) ((fg 57 (by decide)).trans h72) (hML g (fun z a b => fg z (by omega))) ((fg 61 (by decide)).trans r4) t5 l8 (by omega) (by decide) (fun q => absurd (by rw [t4]; exact c) q) (fun _ q => absurd c2' q) (fun _ _ p m sd hp hT => ?_) (fun _ _ m sd hm hT => ?_)
    · rw [eR] at hT
      have fr : ∀ z', (z' ≠ 12 ∧ z' ≠ 28 ∧ z' ≠ 29 ∧ z' ≠ 57 ∧ z' ≠ 71 ∧ z' ≠ 91) → (rdH g (mS (mS (mS s 0 0) 9 z) 8 0) sd m).2 z' = h.2 z' := fun z' q => (rdH_n q.2.2.2.2.1 q.2.2.2.1).trans (fg z' (by omega))
      have f12 : (rdH g (mS (mS (mS s 0 0) 9 z) 8 0) sd m).2 12 = some (cO 10 [vR 13, vI (0 : Nat)]) := (rdH_n (by decide) (by decide)).trans ((hg 12 (by decide)).trans ((rsH_n (by decide) (by decide)).trans (hS_s _ _ _)))
      have f28 : (rdH g (mS (mS (mS s 0 0) 9 z) 8 0) sd m).2 28 = some (cI 1 (rdE R E f 0 z.toNat lf2 sf2).2.1) := (rdH_n (by decide) (by decide)).trans ((hg 28 (by decide)).trans (hS_s _ _ _))
      have f29 : (rdH g (mS (mS (mS s 0 0) 9 z) 8 0) sd m).2 29 = some (cI 20 (rdE R E f 0 z.toNat lf2 sf2).2.2) := (rdH_n (by decide) (by decide)).trans ((hg 29 (by decide)).trans ((hS_n (by decide)).trans (hS_s _ _ _)))
      exact ⟨_, mS (mS (mS (mS s 0 0) 9 z) 8 0) 21 m, rfl, rdH_72, rfl, fun _ => hT.symm, ⟨mS (mS (mS (mS s 0 0) 9 z) 8 0) 21 m, C, e, sp, pc, sz, cl, cs, pk, pm, rdH_72, (fr 1 (by omega)).trans h1, (by omega), vC.fr (fun z a => fr z (by omega)) rfl, vH.fr (fun z a => fr z (by omega)) rfl, ⟨0, f, gg, ⟨f12, (fr 13 (by omega)).trans t1.2⟩, by omega, (fr 62 (by omega)).trans t3, rfl, t5, fun k hk => by omega⟩, vL.fr2 (fun z a => fr z (by omega)) ⟨sd, rdH_86⟩ ⟨_, _, f28, f29, hb⟩ rfl rfl, vX.fr86 (fun z a => fr z (by omega)) ⟨sd, rdH_86⟩, vG.fr (fun z a => fr z (by omega)) rfl rfl, vN.fr (fr 31 (by omega)), vE.fr (fun z a => fr z (by omega)) (fun i a b => (mS_n (by omega)).trans ((mS_n (by omega)).trans ((mS_n (by omega)).trans ((mS_n (by omega)))))), vS.fr (fun z a => fr z (by omega)) rfl⟩, rdH_n (by decide) (by decide), rdH_n (by decide) (by decide)⟩
    · rw [eR] at hT; omega
  · have c2' : mSp gg z 10 := (sp_M t5 t6 t2 c).mp c2
    have eR : rdE R E gg 0 z.toNat lf2 sf2 = rdE R E f 0 z.toNat lf2 sf2 := (rdE_ext (eq_M t6 (by omega) c2'.2.2)).symm
    have hb := rdE_b (f := f) (b := 0) (c := z.toNat) (lf := lf2) (sf := sf2) l8
    have hv := rd_v (f := f) (b := 0) (c := z.toNat) (lf := lf2) (sf := sf2) l8 l9 l10
    refine ⟨(hS_n (by decide)).trans ((hS_n (by decide)).trans ((rsH_n (by decide) (by decide)).trans (hS_n (by decide)))), (hS_n (by decide)).trans ((hS_n (by decide)).trans ((rsH_n (by decide) (by decide)).trans (hS_n (by decide)))), (hS_n (by decide)).trans ((hS_n (by decide)).trans ((rsH_n (by decide) (by decide)).trans (hS_n (by decide)))), 0, _, Or.inl ⟨rfl, rfl⟩, fun g hg => ?_⟩
    have fg : ∀ z, (z ≠ 10 ∧ z ≠ 11 ∧ z ≠ 12 ∧ z ≠ 28 ∧ z ≠ 29 ∧ z ≠ 91) → g.2 z = h.2 z := fun z q => (hg z q.2.2.2.2.2).trans ((hS_n q.1).trans ((hS_n q.2.1).trans ((rsH_n q.2.2.2.1 q.2.2.2.2.1).trans (hS_n q.2.2.1))))
    have k10 := (hg 10 (by decide)).trans (hS_s _ _ _)
    have k11 := (hg 11 (by decide)).trans ((hS_n (by decide)).trans (hS_s _ _ _))
    have k12 := (hg 12 (by decide)).trans ((hS_n (by decide)).trans ((hS_n (by decide)).trans ((rsH_n (by decide) (by decide)).trans (hS_s _ _ _))))
    have k28 : g.2 28 = some (cI 1 (rdE R E f 0 z.toNat lf2 sf2).2.1) := (hg 28 (by decide)).trans ((hS_n (by decide)).trans ((hS_n (by decide)).trans (hS_s _ _ _)))
    have k29 : g.2 29 = some (cI 20 (rdE R E f 0 z.toNat lf2 sf2).2.2) := (hg 29 (by decide)).trans ((hS_n (by decide)).trans ((hS_n (by decide)).trans ((hS_n (by decide)).trans (hS_s _ _ _))))
    refine e_mread (z := z) (lf := lf2) (sf := sf2) ((fg 57 (by decide)).trans h72) (hML g (fun z a b => fg z (by omega))) ((fg 61 (by decide)).trans r4) t5 l8 (by omega) (by decide) (fun q => absurd (by rw [t4]; exact c) q) (fun _ q => absurd c2' q) (fun _ _ p m sd hp hT => ?_) (fun _ _ m sd hm hT hT2 hT3 => ?_)
    · rw [eR] at hT; omega
    · rw [eR] at hT hT2 hT3
      generalize (rdE R E f 0 z.toNat lf2 sf2) = T at *
      have ej : jn 40 0 (T.2.1 0) = m := by unfold jn; split <;> omega
      rw [ej] at k10 k11
      rw [Int.toNat_natCast] at k11
      have fr : ∀ z', (z' ≠ 10 ∧ z' ≠ 11 ∧ z' ≠ 12 ∧ z' ≠ 28 ∧ z' ≠ 29 ∧ z' ≠ 57 ∧ z' ≠ 61 ∧ z' ≠ 71 ∧ z' ≠ 91) → (hS (hS (rdH g (mS (mS (mS s 0 0) 9 z) 8 0) sd m) 61 (cI 40 (va_cpy sd hf 0 0 m))) 57 (mO (mS (mS (mS (mS (mS s 0 0) 9 z) 8 0) 21 m) 6 m))).2 z' = h.2 z' := fun z' q => (hS_n (by omega)).trans ((hS_n (by omega)).trans ((rdH_n (by omega) (by omega)).trans (fg z' (by omega))))
      have gf : ∀ z', (z' ≠ 57 ∧ z' ≠ 61 ∧ z' ≠ 71) → (hS (hS (rdH g (mS (mS (mS s 0 0) 9 z) 8 0) sd m) 61 (cI 40 (va_cpy sd hf 0 0 m))) 57 (mO (mS (mS (mS (mS (mS s 0 0) 9 z) 8 0) 21 m) 6 m))).2 z' = g.2 z' := fun z' q => (hS_n q.1).trans ((hS_n q.2.1).trans (rdH_n q.2.2 q.1))
      have f86 : ∃ a, (hS (hS (rdH g (mS (mS (mS s 0 0) 9 z) 8 0) sd m) 61 (cI 40 (va_cpy sd hf 0 0 m))) 57 (mO (mS (mS (mS (mS (mS s 0 0) 9 z) 8 0) 21 m) 6 m))).2 71 = some (cI 40 a) := ⟨sd, (hS_n (by decide)).trans ((hS_n (by decide)).trans rdH_86)⟩
      refine ⟨_, mS (mS (mS (mS (mS s 0 0) 9 z) 8 0) 21 m) 6 m, rfl, hS_s _ _ _, rfl, fun _ => hT.symm, ⟨mS (mS (mS (mS (mS s 0 0) 9 z) 8 0) 21 m) 6 m, C, e, sp, pc, sz, cl, cs, pk, pm, hS_s _ _ _, (fr 1 (by omega)).trans h1, (by omega), vC.fr (fun z a => fr z (by omega)) rfl, ⟨fS lf 0 m, va_cpy T.2.2 sf (0 * 20) (0 * 40) m, va_cpy sd hf 0 0 m, ⟨(fr 9 (by omega)).trans r1.1, (gf 10 (by decide)).trans k10, (gf 11 (by decide)).trans k11⟩, r2.set (by omega) (by omega), ?_, (hS_n (by decide)).trans (hS_s _ _ _), (by rw [mS_s, fS_s]), ?_⟩, ⟨0, f, gg, ⟨(gf 12 (by decide)).trans k12, (fr 13 (by omega)).trans t1.2⟩, by omega, (fr 62 (by omega)).trans t3, rfl, t5, fun k hk => by omega⟩, vL.fr2 (fun z a => fr z (by omega)) f86 ⟨_, _, (gf 28 (by decide)).trans k28, (gf 29 (by decide)).trans k29, hb⟩ rfl rfl, vX.fr86 (fun z a => fr z (by omega)) f86, vG.fr (fun z a => fr z (by omega)) rfl rfl, vN.fr (fr 31 (by omega)), vE.fr (fun z a => fr z (by omega)) (fun i a b => (mS_n (by omega)).trans ((mS_n (by omega)).trans ((mS_n (by omega)).trans ((mS_n (by omega)).trans ((mS_n (by omega))))))), vS.fr (fun z a => fr z (by omega)) rfl⟩, gf 0 (by decide), gf 91 (by decide)⟩
      · intro i hi
        rw [fS_s] at hi
        unfold va_cpy
        rw [if_pos (by omega)]
        have q := hv i (by omega)
        rw [show 0 * 20 + (0 + i - 0 * 40) = 0 + i by omega]
        exact q
      · intro i hi
        rw [fS_s] at hi
        unfold va_cpy
        rw [if_pos (by omega), if_pos (by omega), show 0 * 20 + (i - 0 * 40) = i by omega]
        exact hT3 i (by omega)
theorem v_rule (hI : InvB n h s C e sp pc sz cl cs pk pm) (z : Int) : StpC 1 6 mX11_rule mX12_rule [vI z] [(1, 0)] (n + 1) h := by
  have hB := hI
  obtain ⟨h72, h1, he, vC, vH, vT, vL, vX, vG, vN, vE, vS⟩ := hI
  obtain ⟨nt, f, gg, t1, t2, t3, t4, t5, t6⟩ := vT
  obtain ⟨R, E, lf2, sf2, l1, l2, l3, l4, l5, l6, l7, l8, l9, l10, l11⟩ := vL
  obtain ⟨lf, sf, hf, r1, r2, r3, r4, r5, r6⟩ := vH
  have hl := r2.1 0 (by omega)
  obtain ⟨y1, y2, y3, ⟨L1, ln1, S1, mn1, j1, j2, j3, j4, j5, j6⟩, ⟨L2, ln2, S2, mn2, k1, k2, k3, k4, k5, k6⟩⟩ := l11
  have vX := hB.2.2.2.2.2.2.2.1
  refine e_rule h1 t1 (by decide) (fun c => ?_) (fun c => ?_)
  · refine ⟨rfl, rfl, rfl, 1, 0, Or.inr ⟨0, by decide, rfl⟩, fun g hg => ?_⟩
    exact e_mrule (z := z) ((hg 57 (by decide)).trans h72) ((hg 62 (by decide)).trans t3) ((hg 61 (by decide)).trans r4) ((hg 63 (by decide)).trans j1) ((hg 64 (by decide)).trans j2) ((hg 65 (by decide)).trans j3) ((hg 66 (by decide)).trans j4) t5 l8.1 y2 j5 (by omega) (by omega) (by decide) (fun _ => fin0 hB hg (fun q => by omega)) (fun q => absurd q (by rw [t4]; exact c)) (fun q => absurd q (by rw [t4]; exact c)) (fun q => absurd q (by rw [t4]; exact c)) (fun q => absurd q (by rw [t4]; exact c))
  · obtain ⟨zn, rfl⟩ : ∃ m : Nat, z = (m : Int) := ⟨z.toNat, by omega⟩
    have hsp := sp_M t5 t6 t2 c (most := 4)
    have hcd : mSp gg (zn : Int) 4 → cd_ gg 0 zn = cd_ f 0 zn := fun q => (cd_ext zn (eq_M t6 (by omega) (by have := q.2.2; rw [Int.toNat_natCast] at this; exact this))).symm
    have hcc : (isSp f nt zn ((4 : Nat) : Int) ∧ ((0 : Nat) : Int) ≤ lf 0 ∧ lf 0 ≤ ((3 : Nat) : Int)) ↔ (mSp gg (zn : Int) 4 ∧ 0 ≤ s 6 ∧ s 6 ≤ 3) := by
      rw [hsp, r5]
      exact Iff.rfl
    refine e_stell (few := 0) h1 t1 t2 r1 r2 l2 l8.2.2.1 l8.1 (by decide) (by decide) (by decide) (by omega) (by decide) (fun c2 => ?_) (fun c2 c3 c4 => ?_) (fun c2 c3 c4 => ?_) (fun c2 k c3 c4 => ?_)
    · refine ⟨⟨_, rfl⟩, (hS_n (by decide)).trans (hS_n (by decide)), (hS_n (by decide)).trans (hS_n (by decide)), (hS_n (by decide)).trans (hS_n (by decide)), 0, _, Or.inl ⟨rfl, rfl⟩, fun g hg => ?_⟩
      have fg : ∀ z', (z' ≠ 10 ∧ z' ≠ 12 ∧ z' ≠ 91) → g.2 z' = h.2 z' := fun z' q => (hg z' q.2.2).trans ((hS_n q.1).trans (hS_n q.2.1))
      have c2' : ¬ (mSp gg (zn : Int) 4 ∧ 0 ≤ s 6 ∧ s 6 ≤ 3) := fun q => c2 (hcc.mpr q)
      refine e_mrule (z := (zn : Int)) ((fg 57 (by omega)).trans h72) ((fg 62 (by omega)).trans t3) ((fg 61 (by omega)).trans r4) ((fg 63 (by omega)).trans j1) ((fg 64 (by omega)).trans j2) ((fg 65 (by omega)).trans j3) ((fg 66 (by omega)).trans j4) t5 l8.1 y2 j5 (by omega) (by omega) (by decide) (fun q => absurd (by rw [t4]; exact c) q) (fun _ _ => ?_) (fun _ q => absurd q c2') (fun _ q => absurd q c2') (fun _ q => absurd q c2')
      have fr : ∀ z', (z' ≠ 10 ∧ z' ≠ 12 ∧ z' ≠ 57 ∧ z' ≠ 91) → (hS g 57 (mO (mS (mS (mS (mS s 0 0) 9 (zn : Int)) 8 0) 6 0))).2 z' = h.2 z' := fun z' q => (hS_n q.2.2.1).trans (fg z' (by omega))
      have f12 : (hS g 57 (mO (mS (mS (mS (mS s 0 0) 9 (zn : Int)) 8 0) 6 0))).2 12 = some (cO 10 [vR 13, vI (0 : Nat)]) := (hS_n (by decide)).trans ((hg 12 (by decide)).trans ((hS_n (by decide)).trans (hS_s _ _ _)))
      have f10 : (hS g 57 (mO (mS (mS (mS (mS s 0 0) 9 (zn : Int)) 8 0) 6 0))).2 10 = some (cI 1 (fS lf 0 0)) := (hS_n (by decide)).trans ((hg 10 (by decide)).trans (hS_s _ _ _))
      have vL := hB.2.2.2.2.2.2.1
      exact ⟨_, mS (mS (mS (mS s 0 0) 9 (zn : Int)) 8 0) 6 0, rfl, hS_s _ _ _, rfl, fun _ => rfl, ⟨mS (mS (mS (mS s 0 0) 9 (zn : Int)) 8 0) 6 0, C, e, sp, pc, sz, cl, cs, pk, pm, hS_s _ _ _, (fr 1 (by omega)).trans h1, (by omega), vC.fr (fun z a => fr z (by omega)) rfl, ⟨fS lf 0 0, sf, hf, ⟨(fr 9 (by omega)).trans r1.1, f10, (fr 11 (by omega)).trans r1.2.2⟩, r2.set (by omega) (by omega), (fun i hi => by rw [fS_s] at hi; omega), (fr 61 (by omega)).trans r4, rfl, (fun i hi => by rw [fS_s] at hi; omega)⟩, ⟨0, f, gg, ⟨f12, (fr 13 (by omega)).trans t1.2⟩, by omega, (fr 62 (by omega)).trans t3, rfl, t5, fun k hk => by omega⟩, vL.fr (fun z a => fr z (by omega)) rfl rfl, vX.fr (fun z a => fr z (by omega)), vG.fr (fun z a => fr z (by omega)) rfl rfl, vN.fr (fr 31 (by omega)), vE.fr (fun z a => fr z (by omega)) (fun i a b => (mS_n (by omega)).trans ((mS_n (by omega)).trans ((mS_n (by omega)).trans ((mS_n (by omega)))))), vS.fr (fun z a => fr z (by omega)) rfl⟩, hS_n (by decide), hS_n (by decide)⟩
    · refine ⟨⟨_, rfl⟩, (hS_n (by decide)).trans (hS_n (by decide)), (hS_n (by decide)).trans (hS_n (by decide)), (hS_n (by decide)).trans (hS_n (by decide)), 0, _, Or.inl ⟨rfl, rfl⟩, fun g hg => ?_⟩
      have fg : ∀ z', (z' ≠ 10 ∧ z' ≠ 12 ∧ z' ≠ 91) → g.2 z' = h.2 z' := fun z' q => (hg z' q.2.2).trans ((hS_n q.1).trans (hS_n q.2.1))
      have c2' := hcc.mp c2
      refine e_mrule (z := (zn : Int)) ((fg 57 (by omega)).trans h72) ((fg 62 (by omega)).trans t3) ((fg 61 (by omega)).trans r4) ((fg 63 (by omega)).trans j1) ((fg 64 (by omega)).trans j2) ((fg 65 (by omega)).trans j3) ((fg 66 (by omega)).trans j4) t5 l8.1 y2 j5 (by omega) (by omega) (by decide) (fun q => absurd (by rw [t4]; exact c) q) (fun _ q => absurd c2' q) (fun _ _ _ _ => ?_) (fun _ _ _ q => by omega) (fun _ _ k q q2 => by rw [Int.toNat_natCast, hcd c2'.1, c3] at q; omega)
      have fr : ∀ z', (z' ≠ 10 ∧ z' ≠ 12 ∧ z' ≠ 57 ∧ z' ≠ 91) → (hS g 57 (mO (mS (mS (mS (mS s 0 0) 9 (zn : Int)) 8 0) 6 0))).2 z' = h.2 z' := fun z' q => (hS_n q.2.2.1).trans (fg z' (by omega))
      have f12 : (hS g 57 (mO (mS (mS (mS (mS s 0 0) 9 (zn : Int)) 8 0) 6 0))).2 12 = some (cO 10 [vR 13, vI (0 : Nat)]) := (hS_n (by decide)).trans ((hg 12 (by decide)).trans ((hS_n (by decide)).trans (hS_s _ _ _)))
      have f10 : (hS g 57 (mO (mS (mS (mS (mS s 0 0) 9 (zn : Int)) 8 0) 6 0))).2 10 = some (cI 1 (fS lf 0 0)) := (hS_n (by decide)).trans ((hg 10 (by decide)).trans (hS_s _ _ _))
      have vL := hB.2.2.2.2.2.2.1
      exact ⟨_, mS (mS (mS (mS s 0 0) 9 (zn : Int)) 8 0) 6 0, rfl, hS_s _ _ _, rfl, fun _ => rfl, ⟨mS (mS (mS (mS s 0 0) 9 (zn : Int)) 8 0) 6 0, C, e, sp, pc, sz, cl, cs, pk, pm, hS_s _ _ _, (fr 1 (by omega)).trans h1, (by omega), vC.fr (fun z a => fr z (by omega)) rfl, ⟨fS lf 0 0, sf, hf, ⟨(fr 9 (by omega)).trans r1.1, f10, (fr 11 (by omega)).trans r1.2.2⟩, r2.set (by omega) (by omega), (fun i hi => by rw [fS_s] at hi; omega), (fr 61 (by omega)).trans r4, rfl, (fun i hi => by rw [fS_s] at hi; omega)⟩, ⟨0, f, gg, ⟨f12, (fr 13 (by omega)).trans t1.2⟩, by omega, (fr 62 (by omega)).trans t3, rfl, t5, fun k hk => by omega⟩, vL.fr (fun z a => fr z (by omega)) rfl rfl, vX.fr (fun z a => fr z (by omega)), vG.fr (fun z a => fr z (by omega)) rfl rfl, vN.fr (fr 31 (by omega)), vE.fr (fun z a => fr z (by omega)) (fun i a b => (mS_n (by omega)).trans ((mS_n (by omega)).trans ((mS_n (by omega)).trans ((mS_n (by omega)))))), vS.fr (fun z a => fr z (by omega)) rfl⟩, hS_n (by decide), hS_n (by decide)⟩
    · refine ⟨⟨_, rfl⟩, (hS_n (by decide)).trans ((hS_n (by decide)).trans (tlH_n (by omega))), (hS_n (by decide)).trans ((hS_n (by decide)).trans (tlH_n (by omega))), (hS_n (by decide)).trans ((hS_n (by decide)).trans (tlH_n (by omega))), 0, _, Or.inl ⟨rfl, rfl⟩, fun g hg => ?_⟩
      have fg : ∀ z', (z' ≠ 10 ∧ z' ≠ 12 ∧ (z' < 14 ∨ 19 < z') ∧ z' ≠ 91) → g.2 z' = h.2 z' := fun z' q => (hg z' q.2.2.2).trans ((hS_n q.1).trans ((hS_n q.2.1).trans (tlH_n q.2.2.1)))
      have c2' := hcc.mp c2
      refine e_mrule (z := (zn : Int)) ((fg 57 (by omega)).trans h72) ((fg 62 (by omega)).trans t3) ((fg 61 (by omega)).trans r4) ((fg 63 (by omega)).trans j1) ((fg 64 (by omega)).trans j2) ((fg 65 (by omega)).trans j3) ((fg 66 (by omega)).trans j4) t5 l8.1 y2 j5 (by omega) (by omega) (by decide) (fun q => absurd (by rw [t4]; exact c) q) (fun _ q => absurd c2' q) (fun _ _ _ q => by omega) (fun _ _ _ _ => ?_) (fun _ _ k q q2 => by rw [Int.toNat_natCast, hcd c2'.1, c3] at q; omega)
      have gf : ∀ z', (z' < 63 ∨ 66 < z') → z' ≠ 57 → (tmH (hS g 57 (mO (mS (mS (mS (mS (mS s 0 0) 9 (zn : Int)) 8 0) 6 0) 14 (R.1 + 1 : Nat)))) 63 240 60 180 L1 ln1 S1 mn1 gg hf 4 3 R.1 zn (s 6)).2 z' = g.2 z' := fun z' q q2 => (tmH_n q).trans (hS_n q2)
      have fr : ∀ z', (z' ≠ 10 ∧ z' ≠ 12 ∧ (z' < 14 ∨ 19 < z') ∧ z' ≠ 57 ∧ (z' < 63 ∨ 66 < z') ∧ z' ≠ 91) → (tmH (hS g 57 (mO (mS (mS (mS (mS (mS s 0 0) 9 (zn : Int)) 8 0) 6 0) 14 (R.1 + 1 : Nat)))) 63 240 60 180 L1 ln1 S1 mn1 gg hf 4 3 R.1 zn (s 6)).2 z' = h.2 z' := fun z' q => (gf z' q.2.2.2.2.1 q.2.2.2.1).trans (fg z' (by omega))
      obtain ⟨m1, m2, m3, m4⟩ := tmH_c (h := hS g 57 (mO (mS (mS (mS (mS (mS s 0 0) 9 (zn : Int)) 8 0) 6 0) 14 (R.1 + 1 : Nat)))) (AL := 63) (nL := 240) (most := 60) (nS := 180) (L := L1) (ln := ln1) (S := S1) (mn := mn1) (gg := gg) (hf := hf) (wide := 4) (w := 3) (k := R.1) (m := zn) (many := s 6)
      have m72 : (tmH (hS g 57 (mO (mS (mS (mS (mS (mS s 0 0) 9 (zn : Int)) 8 0) 6 0) 14 (R.1 + 1 : Nat)))) 63 240 60 180 L1 ln1 S1 mn1 gg hf 4 3 R.1 zn (s 6)).2 57 = some (mO (mS (mS (mS (mS (mS s 0 0) 9 (zn : Int)) 8 0) 6 0) 14 (R.1 + 1 : Nat))) := (tmH_n (by omega)).trans (hS_s _ _ _)
      have f12 : (tmH (hS g 57 (mO (mS (mS (mS (mS (mS s 0 0) 9 (zn : Int)) 8 0) 6 0) 14 (R.1 + 1 : Nat)))) 63 240 60 180 L1 ln1 S1 mn1 gg hf 4 3 R.1 zn (s 6)).2 12 = some (cO 10 [vR 13, vI (0 : Nat)]) := (gf 12 (by omega) (by decide)).trans ((hg 12 (by decide)).trans ((hS_n (by decide)).trans (hS_s _ _ _)))
      have f10 : (tmH (hS g 57 (mO (mS (mS (mS (mS (mS s 0 0) 9 (zn : Int)) 8 0) 6 0) 14 (R.1 + 1 : Nat)))) 63 240 60 180 L1 ln1 S1 mn1 gg hf 4 3 R.1 zn (s 6)).2 10 = some (cI 1 (fS lf 0 0)) := (gf 10 (by omega) (by decide)).trans ((hg 10 (by decide)).trans (hS_s _ _ _))
      have hjn : jn 3 0 (lf 0) = (lf 0).toNat := by unfold jn; split <;> omega
      have hLx := (tlH_c (h := h) (q := 14) (most := 60) (ml := 4) (w := 3) (w' := 40) (k := R.1) (sz' := R.1 + 1) (lf := R.2.2.2.1) (sf := R.2.2.2.2) (lf' := lf) (sf' := sf) (cs' := (fS R.2.1 R.1 (cd_ f 0 zn))) (ls' := (fS R.2.2.1 R.1 (zn : Int))) l2.2.2.2).fr (h := (tmH (hS g 57 (mO (mS (mS (mS (mS (mS s 0 0) 9 (zn : Int)) 8 0) 6 0) 14 (R.1 + 1 : Nat)))) 63 240 60 180 L1 ln1 S1 mn1 gg hf 4 3 R.1 zn (s 6))) (fun z' a b => (gf z' (by omega) (by omega)).trans ((hg z' (by omega)).trans ((hS_n (by omega)).trans (hS_n (by omega)))))
      rw [hjn, Int.toNat_natCast, Nat.zero_mul] at hLx
      have hal : alls gg 0 zn := by have := c2'.1.2.2; rw [Int.toNat_natCast] at this; exact this
      have hn1 : 1 ≤ zn ∧ zn ≤ 4 := ⟨by have := c2'.1.1; omega, by have := c2'.1.2.1; omega⟩
      have hrl : ∀ u, u < R.1 → R.2.2.2.1 u ≤ (3 : Nat) := fun u hu => (l8.2.2.1.1 u (by have := l8.1; omega)).2
      have hsz' : ∀ u, u < R.1 + 1 → u ≠ R.1 → u < R.1 := fun u hu hne => by omega
      have e6 : s 6 = ((lf 0).toNat : Nat) := by omega
      have hxr := by have q := tl_new (g := gg) (n := zn) j5 hal hn1; rw [hcd c2'.1] at q; exact q
      have hxs := tl_S (hf := hf) (sf := sf) (k := R.1) (m := (lf 0).toNat) (sz' := R.1 + 1) j6 hrl (by omega) hsz' (fun i hi => r6 i (by omega))
      have hxv := tl_v (sf := sf) (k := R.1) (m := (lf 0).toNat) (sz' := R.1 + 1) l9 hrl (by omega) hsz' (rvd_n r3 hl.1)
      have hR2 : RwW 3 60 (fS R.2.2.2.1 R.1 ((lf 0).toNat : Nat)) := l8.2.2.1.set (by omega) (by omega)
      have m3b : (tmH (hS g 57 (mO (mS (mS (mS (mS (mS s 0 0) 9 (zn : Int)) 8 0) 6 0) 14 (R.1 + 1 : Nat)))) 63 240 60 180 L1 ln1 S1 mn1 gg hf 4 3 R.1 zn (s 6)).2 (63 + 2) = some (cI 180 (va_cpy hf S1 0 (3 * R.1) (lf 0).toNat)) := by rw [m3, show (s 6).toNat = (lf 0).toNat by omega]
      have m4b : (tmH (hS g 57 (mO (mS (mS (mS (mS (mS s 0 0) 9 (zn : Int)) 8 0) 6 0) 14 (R.1 + 1 : Nat)))) 63 240 60 180 L1 ln1 S1 mn1 gg hf 4 3 R.1 zn (s 6)).2 (63 + 3) = some (cI 60 (fS mn1 R.1 ((lf 0).toNat : Nat))) := by rw [m4, e6]
      exact ⟨_, mS (mS (mS (mS (mS s 0 0) 9 (zn : Int)) 8 0) 6 0) 14 (R.1 + 1 : Nat), rfl, m72, rfl, fun _ => rfl, ⟨mS (mS (mS (mS (mS s 0 0) 9 (zn : Int)) 8 0) 6 0) 14 (R.1 + 1 : Nat), C, e, sp, pc, sz, cl, cs, pk, pm, m72, (fr 1 (by omega)).trans h1, (by omega), vC.fr (fun z a => fr z (by omega)) rfl, ⟨fS lf 0 0, sf, hf, ⟨(fr 9 (by omega)).trans r1.1, f10, (fr 11 (by omega)).trans r1.2.2⟩, r2.set (by omega) (by omega), (fun i hi => by rw [fS_s] at hi; omega), (fr 61 (by omega)).trans r4, rfl, (fun i hi => by rw [fS_s] at hi; omega)⟩, ⟨0, f, gg, ⟨f12, (fr 13 (by omega)).trans t1.2⟩, by omega, (fr 62 (by omega)).trans t3, rfl, t5, fun k hk => by omega⟩, ⟨((R.1 + 1 : Nat), (fS R.2.1 R.1 (cd_ f 0 zn)), (fS R.2.2.1 R.1 (zn : Int)), fS R.2.2.2.1 R.1 ((lf 0).toNat : Nat), va_cpy sf R.2.2.2.2 0 (R.1 * 3) (lf 0).toNat), E, lf2, sf2, (fr 26 (by omega)).trans l1, hLx, l3.fr (fun z a b => fr z (by omega)), (fr 27 (by omega)).trans l4, (fr 28 (by omega)).trans l5, (fr 29 (by omega)).trans l6, l7, ⟨by show R.1 + 1 ≤ 60; omega, l8.2.1, hR2, l8.2.2.2.1, fun u hu => ⟨(hxr u hu).2.1.1, Int.le_trans (hxr u hu).2.1.2 (by decide)⟩, l8.2.2.2.2.2⟩, hxv, l10, ⟨(by obtain ⟨q, q1⟩ := y1; exact ⟨q, (fr 71 (by omega)).trans q1⟩), rfl, y3, ⟨_, _, _, _, m1, m2, m3b, m4b, hxr, hxs⟩, ⟨L2, ln2, S2, mn2, (fr _ (by omega)).trans k1, (fr _ (by omega)).trans k2, (fr _ (by omega)).trans k3, (fr _ (by omega)).trans k4, k5, k6⟩⟩⟩, vX.fr (fun z a => fr z (by omega)), vG.fr (fun z a => fr z (by omega)) rfl rfl, vN.fr (fr 31 (by omega)), vE.fr (fun z a => fr z (by omega)) (fun i a b => (mS_n (by omega)).trans ((mS_n (by omega)).trans ((mS_n (by omega)).trans ((mS_n (by omega)).trans ((mS_n (by omega))))))), vS.fr (fun z a => fr z (by omega)) rfl⟩, gf 0 (by omega) (by decide), gf 91 (by omega) (by decide)⟩
    · refine ⟨⟨_, rfl⟩, (hS_n (by decide)).trans ((hS_n (by decide)).trans (tlH_n (by omega))), (hS_n (by decide)).trans ((hS_n (by decide)).trans (tlH_n (by omega))), (hS_n (by decide)).trans ((hS_n (by decide)).trans (tlH_n (by omega))), 0, _, Or.inl ⟨rfl, rfl⟩, fun g hg => ?_⟩
      have fg : ∀ z', (z' ≠ 10 ∧ z' ≠ 12 ∧ (z' < 14 ∨ 19 < z') ∧ z' ≠ 91) → g.2 z' = h.2 z' := fun z' q => (hg z' q.2.2.2).trans ((hS_n q.1).trans ((hS_n q.2.1).trans (tlH_n q.2.2.1)))
      have c2' := hcc.mp c2
      refine e_mrule (z := (zn : Int)) ((fg 57 (by omega)).trans h72) ((fg 62 (by omega)).trans t3) ((fg 61 (by omega)).trans r4) ((fg 63 (by omega)).trans j1) ((fg 64 (by omega)).trans j2) ((fg 65 (by omega)).trans j3) ((fg 66 (by omega)).trans j4) t5 l8.1 y2 j5 (by omega) (by omega) (by decide) (fun q => absurd (by rw [t4]; exact c) q) (fun _ q => absurd c2' q) (fun _ _ q _ => by rw [Int.toNat_natCast, hcd c2'.1, c3] at q; omega) (fun _ _ q _ => by rw [Int.toNat_natCast, hcd c2'.1, c3] at q; omega) (fun _ _ k' q q2 => ?_)
      obtain rfl : k = k' := by rw [Int.toNat_natCast, hcd c2'.1, c3] at q; omega
      have gf : ∀ z', (z' < 63 ∨ 66 < z') → z' ≠ 57 → (tmH (hS g 57 (mO (mS (mS (mS (mS s 0 0) 9 (zn : Int)) 8 0) 6 0))) 63 240 60 180 L1 ln1 S1 mn1 gg hf 4 3 k zn (s 6)).2 z' = g.2 z' := fun z' q q2 => (tmH_n q).trans (hS_n q2)
      have fr : ∀ z', (z' ≠ 10 ∧ z' ≠ 12 ∧ (z' < 14 ∨ 19 < z') ∧ z' ≠ 57 ∧ (z' < 63 ∨ 66 < z') ∧ z' ≠ 91) → (tmH (hS g 57 (mO (mS (mS (mS (mS s 0 0) 9 (zn : Int)) 8 0) 6 0))) 63 240 60 180 L1 ln1 S1 mn1 gg hf 4 3 k zn (s 6)).2 z' = h.2 z' := fun z' q => (gf z' q.2.2.2.2.1 q.2.2.2.1).trans (fg z' (by omega))
      obtain ⟨m1, m2, m3, m4⟩ := tmH_c (h := hS g 57 (mO (mS (mS (mS (mS s 0 0) 9 (zn : Int)) 8 0) 6 0))) (AL := 63) (nL := 240) (most := 60) (nS := 180) (L := L1) (ln := ln1) (S := S1) (mn := mn1) (gg := gg) (hf := hf) (wide := 4) (w := 3) (k := k) (m := zn) (many := s 6)
      have m72 : (tmH (hS g 57 (mO (mS (mS (mS (mS s 0 0) 9 (zn : Int)) 8 0) 6 0))) 63 240 60 180 L1 ln1 S1 mn1 gg hf 4 3 k zn (s 6)).2 57 = some (mO (mS (mS (mS (mS s 0 0) 9 (zn : Int)) 8 0) 6 0)) := (tmH_n (by omega)).trans (hS_s _ _ _)
      have f12 : (tmH (hS g 57 (mO (mS (mS (mS (mS s 0 0) 9 (zn : Int)) 8 0) 6 0))) 63 240 60 180 L1 ln1 S1 mn1 gg hf 4 3 k zn (s 6)).2 12 = some (cO 10 [vR 13, vI (0 : Nat)]) := (gf 12 (by omega) (by decide)).trans ((hg 12 (by decide)).trans ((hS_n (by decide)).trans (hS_s _ _ _)))
      have f10 : (tmH (hS g 57 (mO (mS (mS (mS (mS s 0 0) 9 (zn : Int)) 8 0) 6 0))) 63 240 60 180 L1 ln1 S1 mn1 gg hf 4 3 k zn (s 6)).2 10 = some (cI 1 (fS lf 0 0)) := (gf 10 (by omega) (by decide)).trans ((hg 10 (by decide)).trans (hS_s _ _ _))
      have hjn : jn 3 0 (lf 0) = (lf 0).toNat := by unfold jn; split <;> omega
      have hLx := (tlH_c (h := h) (q := 14) (most := 60) (ml := 4) (w := 3) (w' := 40) (k := k) (sz' := R.1) (lf := R.2.2.2.1) (sf := R.2.2.2.2) (lf' := lf) (sf' := sf) (cs' := R.2.1) (ls' := R.2.2.1) l2.2.2.2).fr (h := (tmH (hS g 57 (mO (mS (mS (mS (mS s 0 0) 9 (zn : Int)) 8 0) 6 0))) 63 240 60 180 L1 ln1 S1 mn1 gg hf 4 3 k zn (s 6))) (fun z' a b => (gf z' (by omega) (by omega)).trans ((hg z' (by omega)).trans ((hS_n (by omega)).trans (hS_n (by omega)))))
      rw [hjn, Int.toNat_natCast, Nat.zero_mul] at hLx
      have hal : alls gg 0 zn := by have := c2'.1.2.2; rw [Int.toNat_natCast] at this; exact this
      have hn1 : 1 ≤ zn ∧ zn ≤ 4 := ⟨by have := c2'.1.1; omega, by have := c2'.1.2.1; omega⟩
      have hrl : ∀ u, u < R.1 → R.2.2.2.1 u ≤ (3 : Nat) := fun u hu => (l8.2.2.1.1 u (by have := l8.1; omega)).2
      have hsz' : ∀ u, u < R.1 → u ≠ k → u < R.1 := fun u hu hne => by omega
      have e6 : s 6 = ((lf 0).toNat : Nat) := by omega
      have hxr := tl_old (g := gg) (n := zn) j5 hal hn1 c4 (tl_find c3 (hcd c2'.1))
      have hxs := tl_S (hf := hf) (sf := sf) (k := k) (m := (lf 0).toNat) (sz' := R.1) j6 hrl (by omega) hsz' (fun i hi => r6 i (by omega))
      have hxv := tl_v (sf := sf) (k := k) (m := (lf 0).toNat) (sz' := R.1) l9 hrl (by omega) hsz' (rvd_n r3 hl.1)
      have hR2 : RwW 3 60 (fS R.2.2.2.1 k ((lf 0).toNat : Nat)) := l8.2.2.1.set (by omega) (by omega)
      have m3b : (tmH (hS g 57 (mO (mS (mS (mS (mS s 0 0) 9 (zn : Int)) 8 0) 6 0))) 63 240 60 180 L1 ln1 S1 mn1 gg hf 4 3 k zn (s 6)).2 (63 + 2) = some (cI 180 (va_cpy hf S1 0 (3 * k) (lf 0).toNat)) := by rw [m3, show (s 6).toNat = (lf 0).toNat by omega]
      have m4b : (tmH (hS g 57 (mO (mS (mS (mS (mS s 0 0) 9 (zn : Int)) 8 0) 6 0))) 63 240 60 180 L1 ln1 S1 mn1 gg hf 4 3 k zn (s 6)).2 (63 + 3) = some (cI 60 (fS mn1 k ((lf 0).toNat : Nat))) := by rw [m4, e6]
      exact ⟨_, mS (mS (mS (mS s 0 0) 9 (zn : Int)) 8 0) 6 0, rfl, m72, rfl, fun _ => rfl, ⟨mS (mS (mS (mS s 0 0) 9 (zn : Int)) 8 0) 6 0, C, e, sp, pc, sz, cl, cs, pk, pm, m72, (fr 1 (by omega)).trans h1, (by omega), vC.fr (fun z a => fr z (by omega)) rfl, ⟨fS lf 0 0, sf, hf, ⟨(fr 9 (by omega)).trans r1.1, f10, (fr 11 (by omega)).trans r1.2.2⟩, r2.set (by omega) (by omega), (fun i hi => by rw [fS_s] at hi; omega), (fr 61 (by omega)).trans r4, rfl, (fun i hi => by rw [fS_s] at hi; omega)⟩, ⟨0, f, gg, ⟨f12, (fr 13 (by omega)).trans t1.2⟩, by omega, (fr 62 (by omega)).trans t3, rfl, t5, fun k hk => by omega⟩, ⟨((R.1 : Nat), R.2.1, R.2.2.1, fS R.2.2.2.1 k ((lf 0).toNat : Nat), va_cpy sf R.2.2.2.2 0 (k * 3) (lf 0).toNat), E, lf2, sf2, (fr 26 (by omega)).trans l1, hLx, l3.fr (fun z a b => fr z (by omega)), (fr 27 (by omega)).trans l4, (fr 28 (by omega)).trans l5, (fr 29 (by omega)).trans l6, l7, ⟨l8.1, l8.2.1, hR2, l8.2.2.2.1, fun u hu => ⟨(hxr u hu).2.1.1, Int.le_trans (hxr u hu).2.1.2 (by decide)⟩, l8.2.2.2.2.2⟩, hxv, l10, ⟨(by obtain ⟨q, q1⟩ := y1; exact ⟨q, (fr 71 (by omega)).trans q1⟩), y2, y3, ⟨_, _, _, _, m1, m2, m3b, m4b, hxr, hxs⟩, ⟨L2, ln2, S2, mn2, (fr _ (by omega)).trans k1, (fr _ (by omega)).trans k2, (fr _ (by omega)).trans k3, (fr _ (by omega)).trans k4, k5, k6⟩⟩⟩, vX.fr (fun z a => fr z (by omega)), vG.fr (fun z a => fr z (by omega)) rfl rfl, vN.fr (fr 31 (by omega)), vE.fr (fun z a => fr z (by omega)) (fun i a b => (mS_n (by omega)).trans ((mS_n (by omega)).trans ((mS_n (by omega)).trans ((mS_n (by omega)))))), vS.fr (fun z a => fr z (by omega)) rfl⟩, gf 0 (by omega) (by decide), gf 91 (by omega) (by decide)⟩
theorem v_book (hI : InvB n h s C e sp pc sz cl cs pk pm) (z : Int) : StpC 1 6 mX11_book mX12_book [vI z] [(1, 0)] (n + 1) h := by
  have hB := hI
  obtain ⟨h72, h1, he, vC, vH, vT, vL, vX, vG, vN, vE, vS⟩ := hI
  obtain ⟨nt, f, gg, t1, t2, t3, t4, t5, t6⟩ := vT
  obtain ⟨R, E, lf2, sf2, l1, l2, l3, l4, l5, l6, l7, l8, l9, l10, l11⟩ := vL
  obtain ⟨lf, sf, hf, r1, r2, r3, r4, r5, r6⟩ := vH
  have hl := r2.1 0 (by omega)
  obtain ⟨y1, y2, y3, ⟨L1, ln1, S1, mn1, j1, j2, j3, j4, j5, j6⟩, ⟨L2, ln2, S2, mn2, k1, k2, k3, k4, k5, k6⟩⟩ := l11
  have vX := hB.2.2.2.2.2.2.2.1
  refine e_book h1 t1 (by decide) (fun c => ?_) (fun c => ?_)
  · refine ⟨rfl, rfl, rfl, 1, 0, Or.inr ⟨0, by decide, rfl⟩, fun g hg => ?_⟩
    exact e_mbook (z := z) ((hg 57 (by decide)).trans h72) ((hg 62 (by decide)).trans t3) ((hg 61 (by decide)).trans r4) ((hg 67 (by decide)).trans k1) ((hg 68 (by decide)).trans k2) ((hg 69 (by decide)).trans k3) ((hg 70 (by decide)).trans k4) t5 l8.2.1 y3 k5 (by omega) (by omega) (by decide) (fun _ => fin0 hB hg (fun q => by omega)) (fun q => absurd q (by rw [t4]; exact c)) (fun q => absurd q (by rw [t4]; exact c)) (fun q => absurd q (by rw [t4]; exact c)) (fun q => absurd q (by rw [t4]; exact c))
  · obtain ⟨zn, rfl⟩ : ∃ m : Nat, z = (m : Int) := ⟨z.toNat, by omega⟩
    have hsp := sp_M t5 t6 t2 c (most := 10)
    have hcd : mSp gg (zn : Int) 10 → cd_ gg 0 zn = cd_ f 0 zn := fun q => (cd_ext zn (eq_M t6 (by omega) (by have := q.2.2; rw [Int.toNat_natCast] at this; exact this))).symm
    have hcc : (isSp f nt zn ((10 : Nat) : Int) ∧ ((1 : Nat) : Int) ≤ lf 0 ∧ lf 0 ≤ ((20 : Nat) : Int)) ↔ (mSp gg (zn : Int) 10 ∧ 1 ≤ s 6 ∧ s 6 ≤ 20) := by
      rw [hsp, r5]
      exact Iff.rfl
    refine e_stell (few := 1) h1 t1 t2 r1 r2 l3 l8.2.2.2.1 l8.2.1 (by decide) (by decide) (by decide) (by omega) (by decide) (fun c2 => ?_) (fun c2 c3 c4 => ?_) (fun c2 c3 c4 => ?_) (fun c2 k c3 c4 => ?_)
    · refine ⟨⟨_, rfl⟩, (hS_n (by decide)).trans (hS_n (by decide)), (hS_n (by decide)).trans (hS_n (by decide)), (hS_n (by decide)).trans (hS_n (by decide)), 0, _, Or.inl ⟨rfl, rfl⟩, fun g hg => ?_⟩
      have fg : ∀ z', (z' ≠ 10 ∧ z' ≠ 12 ∧ z' ≠ 91) → g.2 z' = h.2 z' := fun z' q => (hg z' q.2.2).trans ((hS_n q.1).trans (hS_n q.2.1))
      have c2' : ¬ (mSp gg (zn : Int) 10 ∧ 1 ≤ s 6 ∧ s 6 ≤ 20) := fun q => c2 (hcc.mpr q)
      refine e_mbook (z := (zn : Int)) ((fg 57 (by omega)).trans h72) ((fg 62 (by omega)).trans t3) ((fg 61 (by omega)).trans r4) ((fg 67 (by omega)).trans k1) ((fg 68 (by omega)).trans k2) ((fg 69 (by omega)).trans k3) ((fg 70 (by omega)).trans k4) t5 l8.2.1 y3 k5 (by omega) (by omega) (by decide) (fun q => absurd (by rw [t4]; exact c) q) (fun _ _ => ?_) (fun _ q => absurd q c2') (fun _ q => absurd q c2') (fun _ q => absurd q c2')
      have fr : ∀ z', (z' ≠ 10 ∧ z' ≠ 12 ∧ z' ≠ 57 ∧ z' ≠ 91) → (hS g 57 (mO (mS (mS (mS (mS s 0 0) 9 (zn : Int)) 8 0) 6 0))).2 z' = h.2 z' := fun z' q => (hS_n q.2.2.1).trans (fg z' (by omega))
      have f12 : (hS g 57 (mO (mS (mS (mS (mS s 0 0) 9 (zn : Int)) 8 0) 6 0))).2 12 = some (cO 10 [vR 13, vI (0 : Nat)]) := (hS_n (by decide)).trans ((hg 12 (by decide)).trans ((hS_n (by decide)).trans (hS_s _ _ _)))
      have f10 : (hS g 57 (mO (mS (mS (mS (mS s 0 0) 9 (zn : Int)) 8 0) 6 0))).2 10 = some (cI 1 (fS lf 0 0)) := (hS_n (by decide)).trans ((hg 10 (by decide)).trans (hS_s _ _ _))
      have vL := hB.2.2.2.2.2.2.1
      exact ⟨_, mS (mS (mS (mS s 0 0) 9 (zn : Int)) 8 0) 6 0, rfl, hS_s _ _ _, rfl, fun _ => rfl, ⟨mS (mS (mS (mS s 0 0) 9 (zn : Int)) 8 0) 6 0, C, e, sp, pc, sz, cl, cs, pk, pm, hS_s _ _ _, (fr 1 (by omega)).trans h1, (by omega), vC.fr (fun z a => fr z (by omega)) rfl, ⟨fS lf 0 0, sf, hf, ⟨(fr 9 (by omega)).trans r1.1, f10, (fr 11 (by omega)).trans r1.2.2⟩, r2.set (by omega) (by omega), (fun i hi => by rw [fS_s] at hi; omega), (fr 61 (by omega)).trans r4, rfl, (fun i hi => by rw [fS_s] at hi; omega)⟩, ⟨0, f, gg, ⟨f12, (fr 13 (by omega)).trans t1.2⟩, by omega, (fr 62 (by omega)).trans t3, rfl, t5, fun k hk => by omega⟩, vL.fr (fun z a => fr z (by omega)) rfl rfl, vX.fr (fun z a => fr z (by omega)), vG.fr (fun z a => fr z (by omega)) rfl rfl, vN.fr (fr 31 (by omega)), vE.fr (fun z a => fr z (by omega)) (fun i a b => (mS_n (by omega)).trans ((mS_n (by omega)).trans ((mS_n (by omega)).trans ((mS_n (by omega)))))), vS.fr (fun z a => fr z (by omega)) rfl⟩, hS_n (by decide), hS_n (by decide)⟩
    · refine ⟨⟨_, rfl⟩, (hS_n (by decide)).trans (hS_n (by decide)), (hS_n (by decide)).trans (hS_n (by decide)), (hS_n (by decide)).trans (hS_n (by decide)), 0, _, Or.inl ⟨rfl, rfl⟩, fun g hg => ?_⟩
      have fg : ∀ z', (z' ≠ 10 ∧ z' ≠ 12 ∧ z' ≠ 91) → g.2 z' = h.2 z' := fun z' q => (hg z' q.2.2).trans ((hS_n q.1).trans (hS_n q.2.1))
      have c2' := hcc.mp c2
      refine e_mbook (z := (zn : Int)) ((fg 57 (by omega)).trans h72) ((fg 62 (by omega)).trans t3) ((fg 61 (by omega)).trans r4) ((fg 67 (by omega)).trans k1) ((fg 68 (by omega)).trans k2) ((fg 69 (by omega)).trans k3) ((fg 70 (by omega)).trans k4) t5 l8.2.1 y3 k5 (by omega) (by omega) (by decide) (fun q => absurd (by rw [t4]; exact c) q) (fun _ q => absurd c2' q) (fun _ _ _ _ => ?_) (fun _ _ _ q => by omega) (fun _ _ k q q2 => by rw [Int.toNat_natCast, hcd c2'.1, c3] at q; omega)
      have fr : ∀ z', (z' ≠ 10 ∧ z' ≠ 12 ∧ z' ≠ 57 ∧ z' ≠ 91) → (hS g 57 (mO (mS (mS (mS (mS s 0 0) 9 (zn : Int)) 8 0) 6 0))).2 z' = h.2 z' := fun z' q => (hS_n q.2.2.1).trans (fg z' (by omega))
      have f12 : (hS g 57 (mO (mS (mS (mS (mS s 0 0) 9 (zn : Int)) 8 0) 6 0))).2 12 = some (cO 10 [vR 13, vI (0 : Nat)]) := (hS_n (by decide)).trans ((hg 12 (by decide)).trans ((hS_n (by decide)).trans (hS_s _ _ _)))
      have f10 : (hS g 57 (mO (mS (mS (mS (mS s 0 0) 9 (zn : Int)) 8 0) 6 0))).2 10 = some (cI 1 (fS lf 0 0)) := (hS_n (by decide)).trans ((hg 10 (by decide)).trans (hS_s _ _ _))
      have vL := hB.2.2.2.2.2.2.1
      exact ⟨_, mS (mS (mS (mS s 0 0) 9 (zn : Int)) 8 0) 6 0, rfl, hS_s _ _ _, rfl, fun _ => rfl, ⟨mS (mS (mS (mS s 0 0) 9 (zn : Int)) 8 0) 6 0, C, e, sp, pc, sz, cl, cs, pk, pm, hS_s _ _ _, (fr 1 (by omega)).trans h1, (by omega), vC.fr (fun z a => fr z (by omega)) rfl, ⟨fS lf 0 0, sf, hf, ⟨(fr 9 (by omega)).trans r1.1, f10, (fr 11 (by omega)).trans r1.2.2⟩, r2.set (by omega) (by omega), (fun i hi => by rw [fS_s] at hi; omega), (fr 61 (by omega)).trans r4, rfl, (fun i hi => by rw [fS_s] at hi; omega)⟩, ⟨0, f, gg, ⟨f12, (fr 13 (by omega)).trans t1.2⟩, by omega, (fr 62 (by omega)).trans t3, rfl, t5, fun k hk => by omega⟩, vL.fr (fun z a => fr z (by omega)) rfl rfl, vX.fr (fun z a => fr z (by omega)), vG.fr (fun z a => fr z (by omega)) rfl rfl, vN.fr (fr 31 (by omega)), vE.fr (fun z a => fr z (by omega)) (fun i a b => (mS_n (by omega)).trans ((mS_n (by omega)).trans ((mS_n (by omega)).trans ((mS_n (by omega)))))), vS.fr (fun z a => fr z (by omega)) rfl⟩, hS_n (by decide), hS_n (by decide)⟩
    · refine ⟨⟨_, rfl⟩, (hS_n (by decide)).trans ((hS_n (by decide)).trans (tlH_n (by omega))), (hS_n (by decide)).trans ((hS_n (by decide)).trans (tlH_n (by omega))), (hS_n (by decide)).trans ((hS_n (by decide)).trans (tlH_n (by omega))), 0, _, Or.inl ⟨rfl, rfl⟩, fun g hg => ?_⟩
      have fg : ∀ z', (z' ≠ 10 ∧ z' ≠ 12 ∧ (z' < 20 ∨ 25 < z') ∧ z' ≠ 91) → g.2 z' = h.2 z' := fun z' q => (hg z' q.2.2.2).trans ((hS_n q.1).trans ((hS_n q.2.1).trans (tlH_n q.2.2.1)))
      have c2' := hcc.mp c2
      refine e_mbook (z := (zn : Int)) ((fg 57 (by omega)).trans h72) ((fg 62 (by omega)).trans t3) ((fg 61 (by omega)).trans r4) ((fg 67 (by omega)).trans k1) ((fg 68 (by omega)).trans k2) ((fg 69 (by omega)).trans k3) ((fg 70 (by omega)).trans k4) t5 l8.2.1 y3 k5 (by omega) (by omega) (by decide) (fun q => absurd (by rw [t4]; exact c) q) (fun _ q => absurd c2' q) (fun _ _ _ q => by omega) (fun _ _ _ _ => ?_) (fun _ _ k q q2 => by rw [Int.toNat_natCast, hcd c2'.1, c3] at q; omega)
      have gf : ∀ z', (z' < 67 ∨ 70 < z') → z' ≠ 57 → (tmH (hS g 57 (mO (mS (mS (mS (mS (mS s 0 0) 9 (zn : Int)) 8 0) 6 0) 19 (E.1 + 1 : Nat)))) 67 400 40 800 L2 ln2 S2 mn2 gg hf 10 20 E.1 zn (s 6)).2 z' = g.2 z' := fun z' q q2 => (tmH_n q).trans (hS_n q2)
      have fr : ∀ z', (z' ≠ 10 ∧ z' ≠ 12 ∧ (z' < 20 ∨ 25 < z') ∧ z' ≠ 57 ∧ (z' < 67 ∨ 70 < z') ∧ z' ≠ 91) → (tmH (hS g 57 (mO (mS (mS (mS (mS (mS s 0 0) 9 (zn : Int)) 8 0) 6 0) 19 (E.1 + 1 : Nat)))) 67 400 40 800 L2 ln2 S2 mn2 gg hf 10 20 E.1 zn (s 6)).2 z' = h.2 z' := fun z' q => (gf z' q.2.2.2.2.1 q.2.2.2.1).trans (fg z' (by omega))
      obtain ⟨m1, m2, m3, m4⟩ := tmH_c (h := hS g 57 (mO (mS (mS (mS (mS (mS s 0 0) 9 (zn : Int)) 8 0) 6 0) 19 (E.1 + 1 : Nat)))) (AL := 67) (nL := 400) (most := 40) (nS := 800) (L := L2) (ln := ln2) (S := S2) (mn := mn2) (gg := gg) (hf := hf) (wide := 10) (w := 20) (k := E.1) (m := zn) (many := s 6)
      have m72 : (tmH (hS g 57 (mO (mS (mS (mS (mS (mS s 0 0) 9 (zn : Int)) 8 0) 6 0) 19 (E.1 + 1 : Nat)))) 67 400 40 800 L2 ln2 S2 mn2 gg hf 10 20 E.1 zn (s 6)).2 57 = some (mO (mS (mS (mS (mS (mS s 0 0) 9 (zn : Int)) 8 0) 6 0) 19 (E.1 + 1 : Nat))) := (tmH_n (by omega)).trans (hS_s _ _ _)
      have f12 : (tmH (hS g 57 (mO (mS (mS (mS (mS (mS s 0 0) 9 (zn : Int)) 8 0) 6 0) 19 (E.1 + 1 : Nat)))) 67 400 40 800 L2 ln2 S2 mn2 gg hf 10 20 E.1 zn (s 6)).2 12 = some (cO 10 [vR 13, vI (0 : Nat)]) := (gf 12 (by omega) (by decide)).trans ((hg 12 (by decide)).trans ((hS_n (by decide)).trans (hS_s _ _ _)))
      have f10 : (tmH (hS g 57 (mO (mS (mS (mS (mS (mS s 0 0) 9 (zn : Int)) 8 0) 6 0) 19 (E.1 + 1 : Nat)))) 67 400 40 800 L2 ln2 S2 mn2 gg hf 10 20 E.1 zn (s 6)).2 10 = some (cI 1 (fS lf 0 0)) := (gf 10 (by omega) (by decide)).trans ((hg 10 (by decide)).trans (hS_s _ _ _))
      have hjn : jn 20 0 (lf 0) = (lf 0).toNat := by unfold jn; split <;> omega
      have hLx := (tlH_c (h := h) (q := 20) (most := 40) (ml := 10) (w := 20) (w' := 40) (k := E.1) (sz' := E.1 + 1) (lf := E.2.2.2.1) (sf := E.2.2.2.2) (lf' := lf) (sf' := sf) (cs' := (fS E.2.1 E.1 (cd_ f 0 zn))) (ls' := (fS E.2.2.1 E.1 (zn : Int))) l3.2.2.2).fr (h := (tmH (hS g 57 (mO (mS (mS (mS (mS (mS s 0 0) 9 (zn : Int)) 8 0) 6 0) 19 (E.1 + 1 : Nat)))) 67 400 40 800 L2 ln2 S2 mn2 gg hf 10 20 E.1 zn (s 6))) (fun z' a b => (gf z' (by omega) (by omega)).trans ((hg z' (by omega)).trans ((hS_n (by omega)).trans (hS_n (by omega)))))
      rw [hjn, Int.toNat_natCast, Nat.zero_mul] at hLx
      have hal : alls gg 0 zn := by have := c2'.1.2.2; rw [Int.toNat_natCast] at this; exact this
      have hn1 : 1 ≤ zn ∧ zn ≤ 10 := ⟨by have := c2'.1.1; omega, by have := c2'.1.2.1; omega⟩
      have hrl : ∀ u, u < E.1 → E.2.2.2.1 u ≤ (20 : Nat) := fun u hu => (l8.2.2.2.1.1 u (by have := l8.2.1; omega)).2
      have hsz' : ∀ u, u < E.1 + 1 → u ≠ E.1 → u < E.1 := fun u hu hne => by omega
      have e6 : s 6 = ((lf 0).toNat : Nat) := by omega
      have hxr := by have q := tl_new (g := gg) (n := zn) k5 hal hn1; rw [hcd c2'.1] at q; exact q
      have hxs := tl_S (hf := hf) (sf := sf) (k := E.1) (m := (lf 0).toNat) (sz' := E.1 + 1) k6 hrl (by omega) hsz' (fun i hi => r6 i (by omega))
      have hxv := tl_v (sf := sf) (k := E.1) (m := (lf 0).toNat) (sz' := E.1 + 1) l10 hrl (by omega) hsz' (rvd_n r3 hl.1)
      have hR2 : RwW 20 40 (fS E.2.2.2.1 E.1 ((lf 0).toNat : Nat)) := l8.2.2.2.1.set (by omega) (by omega)
      have m3b : (tmH (hS g 57 (mO (mS (mS (mS (mS (mS s 0 0) 9 (zn : Int)) 8 0) 6 0) 19 (E.1 + 1 : Nat)))) 67 400 40 800 L2 ln2 S2 mn2 gg hf 10 20 E.1 zn (s 6)).2 (67 + 2) = some (cI 800 (va_cpy hf S2 0 (20 * E.1) (lf 0).toNat)) := by rw [m3, show (s 6).toNat = (lf 0).toNat by omega]
      have m4b : (tmH (hS g 57 (mO (mS (mS (mS (mS (mS s 0 0) 9 (zn : Int)) 8 0) 6 0) 19 (E.1 + 1 : Nat)))) 67 400 40 800 L2 ln2 S2 mn2 gg hf 10 20 E.1 zn (s 6)).2 (67 + 3) = some (cI 40 (fS mn2 E.1 ((lf 0).toNat : Nat))) := by rw [m4, e6]
      exact ⟨_, mS (mS (mS (mS (mS s 0 0) 9 (zn : Int)) 8 0) 6 0) 19 (E.1 + 1 : Nat), rfl, m72, rfl, fun _ => rfl, ⟨mS (mS (mS (mS (mS s 0 0) 9 (zn : Int)) 8 0) 6 0) 19 (E.1 + 1 : Nat), C, e, sp, pc, sz, cl, cs, pk, pm, m72, (fr 1 (by omega)).trans h1, (by omega), vC.fr (fun z a => fr z (by omega)) rfl, ⟨fS lf 0 0, sf, hf, ⟨(fr 9 (by omega)).trans r1.1, f10, (fr 11 (by omega)).trans r1.2.2⟩, r2.set (by omega) (by omega), (fun i hi => by rw [fS_s] at hi; omega), (fr 61 (by omega)).trans r4, rfl, (fun i hi => by rw [fS_s] at hi; omega)⟩, ⟨0, f, gg, ⟨f12, (fr 13 (by omega)).trans t1.2⟩, by omega, (fr 62 (by omega)).trans t3, rfl, t5, fun k hk => by omega⟩, ⟨R, ((E.1 + 1 : Nat), (fS E.2.1 E.1 (cd_ f 0 zn)), (fS E.2.2.1 E.1 (zn : Int)), fS E.2.2.2.1 E.1 ((lf 0).toNat : Nat), va_cpy sf E.2.2.2.2 0 (E.1 * 20) (lf 0).toNat), lf2, sf2, (fr 26 (by omega)).trans l1, l2.fr (fun z a b => fr z (by omega)), hLx, (fr 27 (by omega)).trans l4, (fr 28 (by omega)).trans l5, (fr 29 (by omega)).trans l6, l7, ⟨l8.1, by show E.1 + 1 ≤ 40; omega, l8.2.2.1, hR2, l8.2.2.2.2.1, lx1_set l8.2.2.2.2.2 hsz' (by have := c2'.2.1; omega)⟩, l9, hxv, ⟨(by obtain ⟨q, q1⟩ := y1; exact ⟨q, (fr 71 (by omega)).trans q1⟩), y2, rfl, ⟨L1, ln1, S1, mn1, (fr _ (by omega)).trans j1, (fr _ (by omega)).trans j2, (fr _ (by omega)).trans j3, (fr _ (by omega)).trans j4, j5, j6⟩, ⟨_, _, _, _, m1, m2, m3b, m4b, hxr, hxs⟩⟩⟩, vX.fr (fun z a => fr z (by omega)), vG.fr (fun z a => fr z (by omega)) rfl rfl, vN.fr (fr 31 (by omega)), vE.fr (fun z a => fr z (by omega)) (fun i a b => (mS_n (by omega)).trans ((mS_n (by omega)).trans ((mS_n (by omega)).trans ((mS_n (by omega)).trans ((mS_n (by omega))))))), vS.fr (fun z a => fr z (by omega)) rfl⟩, gf 0 (by omega) (by decide), gf 91 (by omega) (by decide)⟩
    · refine ⟨⟨_, rfl⟩, (hS_n (by decide)).trans ((hS_n (by decide)).trans (tlH_n (by omega))), (hS_n (by decide)).trans ((hS_n (by decide)).trans (tlH_n (by omega))), (hS_n (by decide)).trans ((hS_n (by decide)).trans (tlH_n (by omega))), 0, _, Or.inl ⟨rfl, rfl⟩, fun g hg => ?_⟩
      have fg : ∀ z', (z' ≠ 10 ∧ z' ≠ 12 ∧ (z' < 20 ∨ 25 < z') ∧ z' ≠ 91) → g.2 z' = h.2 z' := fun z' q => (hg z' q.2.2.2).trans ((hS_n q.1).trans ((hS_n q.2.1).trans (tlH_n q.2.2.1)))
      have c2' := hcc.mp c2
      refine e_mbook (z := (zn : Int)) ((fg 57 (by omega)).trans h72) ((fg 62 (by omega)).trans t3) ((fg 61 (by omega)).trans r4) ((fg 67 (by omega)).trans k1) ((fg 68 (by omega)).trans k2) ((fg 69 (by omega)).trans k3) ((fg 70 (by omega)).trans k4) t5 l8.2.1 y3 k5 (by omega) (by omega) (by decide) (fun q => absurd (by rw [t4]; exact c) q) (fun _ q => absurd c2' q) (fun _ _ q _ => by rw [Int.toNat_natCast, hcd c2'.1, c3] at q; omega) (fun _ _ q _ => by rw [Int.toNat_natCast, hcd c2'.1, c3] at q; omega) (fun _ _ k' q q2 => ?_)
      obtain rfl : k = k' := by rw [Int.toNat_natCast, hcd c2'.1, c3] at q; omega
      have gf : ∀ z', (z' < 67 ∨ 70 < z') → z' ≠ 57 → (tmH (hS g 57 (mO (mS (mS (mS (mS s 0 0) 9 (zn : Int)) 8 0) 6 0))) 67 400 40 800 L2 ln2 S2 mn2 gg hf 10 20 k zn (s 6)).2 z' = g.2 z' := fun z' q q2 => (tmH_n q).trans (hS_n q2)
      have fr : ∀ z', (z' ≠ 10 ∧ z' ≠ 12 ∧ (z' < 20 ∨ 25 < z') ∧ z' ≠ 57 ∧ (z' < 67 ∨ 70 < z') ∧ z' ≠ 91) → (tmH (hS g 57 (mO (mS (mS (mS (mS s 0 0) 9 (zn : Int)) 8 0) 6 0))) 67 400 40 800 L2 ln2 S2 mn2 gg hf 10 20 k zn (s 6)).2 z' = h.2 z' := fun z' q => (gf z' q.2.2.2.2.1 q.2.2.2.1).trans (fg z' (by omega))
      obtain ⟨m1, m2, m3, m4⟩ := tmH_c (h := hS g 57 (mO (mS (mS (mS (mS s 0 0) 9 (zn : Int)) 8 0) 6 0))) (AL := 67) (nL := 400) (most := 40) (nS := 800) (L := L2) (ln := ln2) (S := S2) (mn := mn2) (gg := gg) (hf := hf) (wide := 10) (w := 20) (k := k) (m := zn) (many := s 6)
      have m72 : (tmH (hS g 57 (mO (mS (mS (mS (mS s 0 0) 9 (zn : Int)) 8 0) 6 0))) 67 400 40 800 L2 ln2 S2 mn2 gg hf 10 20 k zn (s 6)).2 57 = some (mO (mS (mS (mS (mS s 0 0) 9 (zn : Int)) 8 0) 6 0)) := (tmH_n (by omega)).trans (hS_s _ _ _)
      have f12 : (tmH (hS g 57 (mO (mS (mS (mS (mS s 0 0) 9 (zn : Int)) 8 0) 6 0))) 67 400 40 800 L2 ln2 S2 mn2 gg hf 10 20 k zn (s 6)).2 12 = some (cO 10 [vR 13, vI (0 : Nat)]) := (gf 12 (by omega) (by decide)).trans ((hg 12 (by decide)).trans ((hS_n (by decide)).trans (hS_s _ _ _)))
      have f10 : (tmH (hS g 57 (mO (mS (mS (mS (mS s 0 0) 9 (zn : Int)) 8 0) 6 0))) 67 400 40 800 L2 ln2 S2 mn2 gg hf 10 20 k zn (s 6)).2 10 = some (cI 1 (fS lf 0 0)) := (gf 10 (by omega) (by decide)).trans ((hg 10 (by decide)).trans (hS_s _ _ _))
      have hjn : jn 20 0 (lf 0) = (lf 0).toNat := by unfold jn; split <;> omega
      have hLx := (tlH_c (h := h) (q := 20) (most := 40) (ml := 10) (w := 20) (w' := 40) (k := k) (sz' := E.1) (lf := E.2.2.2.1) (sf := E.2.2.2.2) (lf' := lf) (sf' := sf) (cs' := E.2.1) (ls' := E.2.2.1) l3.2.2.2).fr (h := (tmH (hS g 57 (mO (mS (mS (mS (mS s 0 0) 9 (zn : Int)) 8 0) 6 0))) 67 400 40 800 L2 ln2 S2 mn2 gg hf 10 20 k zn (s 6))) (fun z' a b => (gf z' (by omega) (by omega)).trans ((hg z' (by omega)).trans ((hS_n (by omega)).trans (hS_n (by omega)))))
      rw [hjn, Int.toNat_natCast, Nat.zero_mul] at hLx
      have hal : alls gg 0 zn := by have := c2'.1.2.2; rw [Int.toNat_natCast] at this; exact this
      have hn1 : 1 ≤ zn ∧ zn ≤ 10 := ⟨by have := c2'.1.1; omega, by have := c2'.1.2.1; omega⟩
      have hrl : ∀ u, u < E.1 → E.2.2.2.1 u ≤ (20 : Nat) := fun u hu => (l8.2.2.2.1.1 u (by have := l8.2.1; omega)).2
      have hsz' : ∀ u, u < E.1 → u ≠ k → u < E.1 := fun u hu hne => by omega
      have e6 : s 6 = ((lf 0).toNat : Nat) := by omega
      have hxr := tl_old (g := gg) (n := zn) k5 hal hn1 c4 (tl_find c3 (hcd c2'.1))
      have hxs := tl_S (hf := hf) (sf := sf) (k := k) (m := (lf 0).toNat) (sz' := E.1) k6 hrl (by omega) hsz' (fun i hi => r6 i (by omega))
      have hxv := tl_v (sf := sf) (k := k) (m := (lf 0).toNat) (sz' := E.1) l10 hrl (by omega) hsz' (rvd_n r3 hl.1)
      have hR2 : RwW 20 40 (fS E.2.2.2.1 k ((lf 0).toNat : Nat)) := l8.2.2.2.1.set (by omega) (by omega)
      have m3b : (tmH (hS g 57 (mO (mS (mS (mS (mS s 0 0) 9 (zn : Int)) 8 0) 6 0))) 67 400 40 800 L2 ln2 S2 mn2 gg hf 10 20 k zn (s 6)).2 (67 + 2) = some (cI 800 (va_cpy hf S2 0 (20 * k) (lf 0).toNat)) := by rw [m3, show (s 6).toNat = (lf 0).toNat by omega]
      have m4b : (tmH (hS g 57 (mO (mS (mS (mS (mS s 0 0) 9 (zn : Int)) 8 0) 6 0))) 67 400 40 800 L2 ln2 S2 mn2 gg hf 10 20 k zn (s 6)).2 (67 + 3) = some (cI 40 (fS mn2 k ((lf 0).toNat : Nat))) := by rw [m4, e6]
      exact ⟨_, mS (mS (mS (mS s 0 0) 9 (zn : Int)) 8 0) 6 0, rfl, m72, rfl, fun _ => rfl, ⟨mS (mS (mS (mS s 0 0) 9 (zn : Int)) 8 0) 6 0, C, e, sp, pc, sz, cl, cs, pk, pm, m72, (fr 1 (by omega)).trans h1, (by omega), vC.fr (fun z a => fr z (by omega)) rfl, ⟨fS lf 0 0, sf, hf, ⟨(fr 9 (by omega)).trans r1.1, f10, (fr 11 (by omega)).trans r1.2.2⟩, r2.set (by omega) (by omega), (fun i hi => by rw [fS_s] at hi; omega), (fr 61 (by omega)).trans r4, rfl, (fun i hi => by rw [fS_s] at hi; omega)⟩, ⟨0, f, gg, ⟨f12, (fr 13 (by omega)).trans t1.2⟩, by omega, (fr 62 (by omega)).trans t3, rfl, t5, fun k hk => by omega⟩, ⟨R, ((E.1 : Nat), E.2.1, E.2.2.1, fS E.2.2.2.1 k ((lf 0).toNat : Nat), va_cpy sf E.2.2.2.2 0 (k * 20) (lf 0).toNat), lf2, sf2, (fr 26 (by omega)).trans l1, l2.fr (fun z a b => fr z (by omega)), hLx, (fr 27 (by omega)).trans l4, (fr 28 (by omega)).trans l5, (fr 29 (by omega)).trans l6, l7, ⟨l8.1, l8.2.1, l8.2.2.1, hR2, l8.2.2.2.2.1, lx1_set l8.2.2.2.2.2 hsz' (by have := c2'.2.1; omega)⟩, l9, hxv, ⟨(by obtain ⟨q, q1⟩ := y1; exact ⟨q, (fr 71 (by omega)).trans q1⟩), y2, y3, ⟨L1, ln1, S1, mn1, (fr _ (by omega)).trans j1, (fr _ (by omega)).trans j2, (fr _ (by omega)).trans j3, (fr _ (by omega)).trans j4, j5, j6⟩, ⟨_, _, _, _, m1, m2, m3b, m4b, hxr, hxs⟩⟩⟩, vX.fr (fun z a => fr z (by omega)), vG.fr (fun z a => fr z (by omega)) rfl rfl, vN.fr (fr 31 (by omega)), vE.fr (fun z a => fr z (by omega)) (fun i a b => (mS_n (by omega)).trans ((mS_n (by omega)).trans ((mS_n (by omega)).trans ((mS_n (by omega)))))), vS.fr (fun z a => fr z (by omega)) rfl⟩, gf 0 (by omega) (by decide), gf 91 (by omega) (by decide)⟩
end Stp984
