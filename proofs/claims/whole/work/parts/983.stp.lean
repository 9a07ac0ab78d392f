/-! distances: both alike (written by wip/whole/gen98.py) -/
section Stp983
variable {n : Nat} {h g : PH} {s C : F_} {e : Int} {sp pc sz : Nat} {cl cs pk pm : F_}
theorem v_distance (hI : InvB n h s C e sp pc sz cl cs pk pm) (k l : Int) : StpC 2 12 mX11_distance mX12_distance [vI k, vI l] [(1, 2)] (n + 1) h := by
  have hB := hI
  obtain ⟨h72, h1, he, vC, vH, vT, vL, vX, vG, vN, vE, vS⟩ := hI
  obtain ⟨g0, ⟨wl, ws, wp, wq, op, oq, pt, ob, nw, wc, gr, gw⟩, g3, g4, g5, g6, g7, g8, g9, g10, sd, sm, g11, g12, g13⟩ := vG
  have vG := hB.2.2.2.2.2.2.2.2.1
  obtain ⟨m0, d1, d2, d3, d4, tb, d5⟩ := vC
  refine e_distance h1 gr.1 gr.2.2.2.2.2.2.2.2.2.2 g3 d1 g7 g5 (by decide) (by omega) m0 (fun c => ?_) (fun c c2 h' f8 m' => ?_)
  · refine ⟨rfl, rfl, rfl, 1, 0, Or.inr ⟨2, by decide, rfl⟩, fun g hg => ?_⟩
    have hM : Md g g s C := ⟨rfl, (hg 57 (by omega)).trans h72, d4.fr (fun z a b => hg z (by omega)) rfl, ⟨tb, (hg 60 (by omega)).trans d5⟩, fun _ _ _ _ => rfl⟩
    exact e_mdistance (k := k) (l := l) hM d1 ((hg 81 (by decide)).trans g11) ((hg 82 (by decide)).trans g12) (gn_rvd g13 g7) g5 g9 (fw_sym d1 d2) (by decide) (fun _ => fin0 hB hg (fun q => by omega)) (fun q q2 => absurd ⟨q, q2⟩ c)
  · refine ⟨f8.2 0 (by omega), f8.2 91 (by omega), f8.2 57 (by omega), 0, _, Or.inl ⟨rfl, rfl⟩, fun g hg => ?_⟩
    have fg : ∀ z, ((8 < z ∨ z < 2) ∧ z ≠ 91) → g.2 z = h.2 z := fun z q => (hg z q.2).trans (f8.2 z q.1)
    have hM : Md g g s C := ⟨rfl, (fg 57 (by omega)).trans h72, d4.fr (fun z a b => fg z (by omega)) rfl, ⟨tb, (fg 60 (by omega)).trans d5⟩, fun _ _ _ _ => rfl⟩
    refine e_mdistance (k := k) (l := l) hM d1 ((fg 81 (by omega)).trans g11) ((fg 82 (by omega)).trans g12) (gn_rvd g13 g7) g5 g9 (fw_sym d1 d2) (by decide) (fun q => absurd ⟨c, c2⟩ q) (fun _ _ h2 q => ?_)
    obtain ⟨q1, q2, q3, ⟨tb2, q4⟩, q5⟩ := q
    have fr : ∀ z, ((8 < z ∨ z < 2) ∧ z ≠ 57 ∧ z ≠ 59 ∧ z ≠ 60 ∧ z ≠ 91) → h2.2 z = h.2 z := fun z q => (q5 z q.2.1 q.2.2.1 q.2.2.2.1).trans (fg z ⟨q.1, q.2.2.2.2⟩)
    exact ⟨_, mS (mS s 0 0) 3 1, rfl, q2, rfl, fun _ => ((gap_M g13 (by omega) (by omega)).symm.trans (rch_e (gap_b d1 g13 g7 (by omega) (by omega)).2).symm), ⟨mS (mS s 0 0) 3 1, C, e, sp, pc, sz, cl, cs, pk, pm, q2, (fr 1 (by omega)).trans h1, (by omega), ⟨m'.fr (fun z a b => (q5 z (by omega) (by omega) (by omega)).trans (hg z (by omega))), d1, d2, d3, q3, tb2, q4⟩, vH.fr (fun z a => fr z (by omega)) rfl, vT.fr (fun z a => fr z (by omega)) rfl, vL.fr (fun z a => fr z (by omega)) rfl rfl, vX.fr (fun z a => fr z (by omega)), vG.fr (fun z a => fr z (by omega)) rfl rfl, vN.fr (fr 31 (by omega)), vE.fr (fun z a => fr z (by omega)) (fun i a b => (mS_n (by omega)).trans ((mS_n (by omega)))), vS.fr (fun z a => fr z (by omega)) rfl⟩, q5 0 (by decide) (by decide) (by decide), q5 91 (by decide) (by decide) (by decide)⟩
theorem v_apart (hI : InvB n h s C e sp pc sz cl cs pk pm) : StpC 0 0 mX11_apart mX12_apart [] [] (n + 1) h := by
  have hB := hI
  obtain ⟨h72, h1, he, vC, vH, vT, vL, vX, vG, vN, vE, vS⟩ := hI
  obtain ⟨g0, ⟨wl, ws, wp, wq, op, oq, pt, ob, nw, wc, gr, gw⟩, g3, g4, g5, g6, g7, g8, g9, g10, sd, sm, g11, g12, g13⟩ := vG
  have vG := hB.2.2.2.2.2.2.2.2.1
  obtain ⟨kn, ed, S, n1, n2, n3, n4⟩ := vN
  have eS : (if kn = 1 ∧ ed = e then S else nfA C cl cs sz) = nfA C cl cs sz := by
    split
    · rename_i q; exact n4 q.1 q.2
    · rfl
  obtain ⟨m0, d1, d2, d3, d4, tb, d5⟩ := vC
  refine k_Evm (fun o h' p => ?_) (e_apart h1 n1 gr.1 gr.2.2.2.2.2.2.2.2.2.2 g3 d1 g7 g5 (by decide) (by omega) m0 n2)
  rw [eS] at p
  obtain ⟨rfl, nq, m'⟩ := p
  · refine ⟨nq.2.2 0 (by omega) (by decide), nq.2.2 91 (by omega) (by decide), nq.2.2 57 (by omega) (by decide), 0, _, Or.inl ⟨rfl, rfl⟩, fun g hg => ?_⟩
    have fg : ∀ z, ((8 < z ∨ z < 2) ∧ z ≠ 31 ∧ z ≠ 91) → g.2 z = h.2 z := fun z q => (hg z q.2.2).trans (nq.2.2 z q.1 q.2.1)
    have hM : Md g g s C := ⟨rfl, (fg 57 (by omega)).trans h72, d4.fr (fun z a b => fg z (by omega)) rfl, ⟨tb, (fg 60 (by omega)).trans d5⟩, fun _ _ _ _ => rfl⟩
    refine k_Evm (fun o h2 p => ?_) (e_mapart hM d1 ((fg 81 (by omega)).trans g11) ((fg 82 (by omega)).trans g12) (gn_rvd g13 g7) g5 g9 (fw_sym d1 d2) (by decide))
    obtain ⟨rfl, t', q, qE⟩ := p
    obtain ⟨⟨q1, q2, q3, ⟨tb2, q4⟩, q5⟩, qe⟩ := And.intro q qE
    obtain ⟨e1, e2, e3, e4⟩ := qe
    have fr : ∀ z, ((8 < z ∨ z < 2) ∧ z ≠ 31 ∧ z ≠ 57 ∧ z ≠ 59 ∧ z ≠ 60 ∧ z ≠ 91) → h2.2 z = h.2 z := fun z q => (q5 z q.2.2.1 q.2.2.2.1 q.2.2.2.2.1).trans (fg z ⟨q.1, q.2.1, q.2.2.2.2.2⟩)
    have ft : ∀ i, (i ≠ 0 ∧ i ≠ 3 ∧ i ≠ 42 ∧ i ≠ 43 ∧ i ≠ 44) → t' i = s i := fun i q => (e4 i q.2.1 q.2.2.1 q.2.2.2.1 q.2.2.2.2).trans (mS_n q.1)
    exact ⟨_, t', rfl, q2, (e4 0 (by decide) (by decide) (by decide) (by decide)).trans mS_s, fun _ => by rw [nfA_M d1 g13 g7], ⟨t', C, e, sp, pc, sz, cl, cs, pk, pm, q2, (fr 1 (by omega)).trans (by rw [ft 34 (by decide)]; exact h1), (by omega), ⟨m'.fr (fun z a b => (q5 z (by omega) (by omega) (by omega)).trans (hg z (by omega))), d1, d2, d3, q3, tb2, q4⟩, vH.fr (fun z a => fr z (by omega)) (ft 6 (by decide)), vT.fr (fun z a => fr z (by omega)) (ft 8 (by decide)), vL.fr (fun z a => fr z (by omega)) (ft 14 (by decide)) (ft 19 (by decide)), vX.fr (fun z a => fr z (by omega)), vG.fr (fun z a => fr z (by omega)) (ft 35 (by decide)) (ft 36 (by decide)), ⟨1, e, _, (q5 31 (by decide) (by decide) (by decide)).trans ((hg 31 (by decide)).trans nq.2.1), Or.inr rfl, Int.le_refl _, fun _ _ => rfl⟩, vE.fr (fun z a => fr z (by omega)) (fun i a b => ft i (by omega)), vS.fr (fun z a => fr z (by omega)) (ft 52 (by decide))⟩, q5 0 (by decide) (by decide) (by decide), q5 91 (by decide) (by decide) (by decide)⟩
theorem v_pair (hI : InvB n h s C e sp pc sz cl cs pk pm) (w : Int) : StpC 1 6 mX11_pair mX12_pair [vI w] [(1, 0)] (n + 1) h := by
  have hB := hI
  obtain ⟨h72, h1, he, vC, vH, vT, vL, vX, vG, vN, vE, vS⟩ := hI
  obtain ⟨g0, ⟨wl, ws, wp, wq, op, oq, pt, ob, nw, wc, gr, gw⟩, g3, g4, g5, g6, g7, g8, g9, g10, sd, sm, g11, g12, g13⟩ := vG
  have vG := hB.2.2.2.2.2.2.2.2.1
  obtain ⟨kn, ed, S, n1, n2, n3, n4⟩ := vN
  have eS : (if kn = 1 ∧ ed = e then S else nfA C cl cs sz) = nfA C cl cs sz := by
    split
    · rename_i q; exact n4 q.1 q.2
    · rfl
  obtain ⟨m0, d1, d2, d3, d4, tb, d5⟩ := vC
  refine e_pair h1 n1 gr.1 gr.2.2.2.2.2.2.2.2.2.2 g3 d1 g7 g5 (by decide) (by omega) m0 n2 (fun c => ?_) (fun c h' nq m' => ?_)
  · refine ⟨rfl, rfl, rfl, 1, 0, Or.inr ⟨0, by decide, rfl⟩, fun g hg => ?_⟩
    have hM : Md g g s C := ⟨rfl, (hg 57 (by omega)).trans h72, d4.fr (fun z a b => hg z (by omega)) rfl, ⟨tb, (hg 60 (by omega)).trans d5⟩, fun _ _ _ _ => rfl⟩
    exact e_mpair (w := w) hM d1 ((hg 81 (by decide)).trans g11) ((hg 82 (by decide)).trans g12) (gn_rvd g13 g7) g5 g9 (fw_sym d1 d2) (by decide) (fun _ => fin0 hB hg (fun q => by omega)) (fun q => absurd q c)
  · rw [eS] at nq ⊢
    refine ⟨nq.2.2 0 (by omega) (by decide), nq.2.2 91 (by omega) (by decide), nq.2.2 57 (by omega) (by decide), 0, _, Or.inl ⟨rfl, rfl⟩, fun g hg => ?_⟩
    have fg : ∀ z, ((8 < z ∨ z < 2) ∧ z ≠ 31 ∧ z ≠ 91) → g.2 z = h.2 z := fun z q => (hg z q.2.2).trans (nq.2.2 z q.1 q.2.1)
    have hM : Md g g s C := ⟨rfl, (fg 57 (by omega)).trans h72, d4.fr (fun z a b => fg z (by omega)) rfl, ⟨tb, (fg 60 (by omega)).trans d5⟩, fun _ _ _ _ => rfl⟩
    refine e_mpair (w := w) hM d1 ((fg 81 (by omega)).trans g11) ((fg 82 (by omega)).trans g12) (gn_rvd g13 g7) g5 g9 (fw_sym d1 d2) (by decide) (fun q => absurd c q) (fun _ h2 t' q qE => ?_)
    obtain ⟨⟨q1, q2, q3, ⟨tb2, q4⟩, q5⟩, qe⟩ := And.intro q qE
    obtain ⟨e1, e2, e3, e4⟩ := qe
    have fr : ∀ z, ((8 < z ∨ z < 2) ∧ z ≠ 31 ∧ z ≠ 57 ∧ z ≠ 59 ∧ z ≠ 60 ∧ z ≠ 91) → h2.2 z = h.2 z := fun z q => (q5 z q.2.2.1 q.2.2.2.1 q.2.2.2.2.1).trans (fg z ⟨q.1, q.2.1, q.2.2.2.2.2⟩)
    have ft : ∀ i, (i ≠ 0 ∧ i ≠ 3 ∧ i ≠ 42 ∧ i ≠ 43 ∧ i ≠ 44) → t' i = s i := fun i q => (e4 i q.2.1 q.2.2.1 q.2.2.2.1 q.2.2.2.2).trans (mS_n q.1)
    exact ⟨_, t', rfl, q2, (e4 0 (by decide) (by decide) (by decide) (by decide)).trans mS_s, fun _ => by rw [nfA_M d1 g13 g7], ⟨t', C, e, sp, pc, sz, cl, cs, pk, pm, q2, (fr 1 (by omega)).trans (by rw [ft 34 (by decide)]; exact h1), (by omega), ⟨m'.fr (fun z a b => (q5 z (by omega) (by omega) (by omega)).trans (hg z (by omega))), d1, d2, d3, q3, tb2, q4⟩, vH.fr (fun z a => fr z (by omega)) (ft 6 (by decide)), vT.fr (fun z a => fr z (by omega)) (ft 8 (by decide)), vL.fr (fun z a => fr z (by omega)) (ft 14 (by decide)) (ft 19 (by decide)), vX.fr (fun z a => fr z (by omega)), vG.fr (fun z a => fr z (by omega)) (ft 35 (by decide)) (ft 36 (by decide)), ⟨1, e, _, (q5 31 (by decide) (by decide) (by decide)).trans ((hg 31 (by decide)).trans nq.2.1), Or.inr rfl, Int.le_refl _, fun _ _ => rfl⟩, vE.fr (fun z a => fr z (by omega)) (fun i a b => ft i (by omega)), vS.fr (fun z a => fr z (by omega)) (ft 52 (by decide))⟩, q5 0 (by decide) (by decide) (by decide), q5 91 (by decide) (by decide) (by decide)⟩
theorem v_hear (hI : InvB n h s C e sp pc sz cl cs pk pm) : StpC 0 0 mX11_hear mX12_hear [] [] (n + 1) h := by
  have hB := hI
  obtain ⟨h72, h1, he, vC, vH, vT, vL, vX, vG, vN, vE, vS⟩ := hI
  obtain ⟨g0, ⟨wl, ws, wp, wq, op, oq, pt, ob, nw, wc, gr, gw⟩, g3, g4, g5, g6, g7, g8, g9, g10, sd, sm, g11, g12, g13⟩ := vG
  have vG := hB.2.2.2.2.2.2.2.2.1
  obtain ⟨m0, d1, d2, d3, d4, tb, d5⟩ := vC
  obtain ⟨lf, sf, hf, r1, r2, r3, r4, r5, r6⟩ := vH
  obtain ⟨ac, S, ag, a1, a2, a3, a4, a5⟩ := vE
  have hl := r2.1 0 (by omega)
  have hvh : rvd hf 0 ((lf 0).toNat : Nat) := fun i hi => by
    have q := r3 i (by omega)
    rw [Nat.zero_add] at q ⊢
    rw [r6 i (by omega)]
    exact q
  refine e_hear h1 a1 a2 gr.1 gr.2.2.2.2.2.2.2.2.2.1 gr.2.2.2.2.2.2.2.2.2.2 g3 r1 r2 r3 d1 g7 g5 g6 (by decide) (by omega) m0 (fun c => ?_) (fun c h' hq m' => ?_)
  · refine ⟨rfl, rfl, rfl, 0, _, Or.inl ⟨rfl, rfl⟩, fun g hg => ?_⟩
    have hM : Md g g s C := ⟨rfl, (hg 57 (by omega)).trans h72, d4.fr (fun z a b => hg z (by omega)) rfl, ⟨tb, (hg 60 (by omega)).trans d5⟩, fun _ _ _ _ => rfl⟩
    exact e_mhear (hm := (lf 0).toNat) hM d1 ((hg 61 (by decide)).trans r4) ((hg 81 (by decide)).trans g11) ((hg 82 (by decide)).trans g12) (gn_rvd g13 g7) g5 g9 (by omega) (by omega) hvh (fw_sym d1 d2) (by decide) (fun _ => fin0 hB hg (fun _ => rfl)) (fun q => absurd c q)
  · refine ⟨(hS_n (by decide)).trans (hq.2.2.2 0 (by omega) (by decide) (by decide)), (hS_n (by decide)).trans (hq.2.2.2 91 (by omega) (by decide) (by decide)), (hS_n (by decide)).trans (hq.2.2.2 57 (by omega) (by decide) (by decide)), 0, _, Or.inl ⟨rfl, rfl⟩, fun g hg => ?_⟩
    have fg : ∀ z, ((8 < z ∨ z < 2) ∧ z ≠ 10 ∧ z ≠ 32 ∧ z ≠ 33 ∧ z ≠ 91) → g.2 z = h.2 z := fun z q => (hg z q.2.2.2.2).trans ((hS_n q.2.1).trans (hq.2.2.2 z q.1 q.2.2.1 q.2.2.2.1))
    have hM : Md g g s C := ⟨rfl, (fg 57 (by omega)).trans h72, d4.fr (fun z a b => fg z (by omega)) rfl, ⟨tb, (fg 60 (by omega)).trans d5⟩, fun _ _ _ _ => rfl⟩
    refine e_mhear (hm := (lf 0).toNat) hM d1 ((fg 61 (by omega)).trans r4) ((fg 81 (by omega)).trans g11) ((fg 82 (by omega)).trans g12) (gn_rvd g13 g7) g5 g9 (by omega) (by omega) hvh (fw_sym d1 d2) (by decide) (fun q => absurd q c) (fun _ h2 t' q qt => ?_)
    have hr := hear_M d1 g13 g7 r3 hl r6
    have hi := hear_I d1 g13 g7 r3 hl
    generalize (lsA C cl cs lf sf sz) = A at hr hi hq ⊢
    generalize (hrL (gpH C hf sd sm (lf 0).toNat) sz 0 (-1, 0, -1, 0)) = B at hr ⊢
    obtain ⟨w1, w2, w3, w4⟩ := he_M (pk := pk) (ag := ag) (u := mhS t' B) hr hi g5 g6 rfl rfl rfl rfl
    have Q : Md g (hS h2 57 (mO (mhS t' B))) (mhS t' B) C := Md.put q rfl
    obtain ⟨q1, q2, q3, ⟨tb2, q4⟩, q5⟩ := Q
    have fr : ∀ z, ((8 < z ∨ z < 2) ∧ z ≠ 10 ∧ z ≠ 32 ∧ z ≠ 33 ∧ z ≠ 57 ∧ z ≠ 59 ∧ z ≠ 60 ∧ z ≠ 91) → (hS h2 57 (mO (mhS t' B))).2 z = h.2 z := fun z q => (q5 z q.2.2.2.2.1 q.2.2.2.2.2.1 q.2.2.2.2.2.2.1).trans (fg z (by omega))
    have ft : ∀ i, (i ≠ 0 ∧ i ≠ 3 ∧ i ≠ 6 ∧ i ≠ 45 ∧ i ≠ 46 ∧ i ≠ 47 ∧ i ≠ 48) → mhS t' B i = s i := fun i q => (mS_n q.2.2.2.2.2.2).trans ((mS_n q.2.2.2.2.2.1).trans ((mS_n q.2.2.2.2.1).trans ((mS_n q.2.2.2.1).trans ((mS_n q.2.2.1).trans ((qt i q.2.1).trans (mS_n q.1))))))
    have f10 : (hS h2 57 (mO (mhS t' B))).2 10 = some (cI 1 (fS lf 0 0)) := (q5 10 (by decide) (by decide) (by decide)).trans ((hg 10 (by decide)).trans (hS_s _ _ _))
    have f32 : (hS h2 57 (mO (mhS t' B))).2 32 = some (heO 32 (hrA pk pc A ag).1 A) := (q5 32 (by decide) (by decide) (by decide)).trans ((hg 32 (by decide)).trans ((hS_n (by decide)).trans hq.2.1))
    have f33 : (hS h2 57 (mO (mhS t' B))).2 33 = some (cI 8 (hrA pk pc A ag).2) := (q5 33 (by decide) (by decide) (by decide)).trans ((hg 33 (by decide)).trans ((hS_n (by decide)).trans hq.2.2.1))
    have f0 : mhS t' B 0 = 0 := (mS_n (by decide)).trans ((mS_n (by decide)).trans ((mS_n (by decide)).trans ((mS_n (by decide)).trans ((mS_n (by decide)).trans ((qt 0 (by decide)).trans mS_s)))))
    exact ⟨_, mhS t' B, rfl, q2, f0, fun _ => w4, ⟨mhS t' B, C, e, sp, pc, sz, cl, cs, pk, pm, q2, (fr 1 (by omega)).trans (by rw [ft 34 (by decide)]; exact h1), (by omega), ⟨m'.fr (fun z a b => (q5 z (by omega) (by omega) (by omega)).trans ((hg z (by omega)).trans (hS_n (by omega)))), d1, d2, d3, q3, tb2, q4⟩, ⟨fS lf 0 0, sf, hf, ⟨(fr 9 (by omega)).trans r1.1, f10, (fr 11 (by omega)).trans r1.2.2⟩, r2.set (by omega) (by omega), (fun i hi => by rw [fS_s] at hi; omega), (fr 61 (by omega)).trans r4, rfl, (fun i hi => by rw [fS_s] at hi; omega)⟩, vT.fr (fun z a => fr z (by omega)) (ft 8 (by decide)), vL.fr (fun z a => fr z (by omega)) (ft 14 (by decide)) (ft 19 (by decide)), vX.fr (fun z a => fr z (by omega)), vG.fr (fun z a => fr z (by omega)) (ft 35 (by decide)) (ft 36 (by decide)), vN.fr (fr 31 (by omega)), ⟨_, A, _, f32, f33, w1, w2, w3⟩, vS.fr (fun z a => fr z (by omega)) (ft 52 (by decide))⟩, q5 0 (by decide) (by decide) (by decide), q5 91 (by decide) (by decide) (by decide)⟩
end Stp983
