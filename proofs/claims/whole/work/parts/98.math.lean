/-! the tape, what is read, the rules and the book, the commands: both alike, and no sound but 0 to 15 -/
section Math98
variable {f g : F_} {n : Nat}
theorem all_M (hb : ∀ k, k < 400 → -128 ≤ g k ∧ g k ≤ 127) (hfg : ∀ k, k < n → f k = g k % 256) (hn : n ≤ 400) {m : Nat} (hm : m ≤ n) : alls f 0 m ↔ alls g 0 m := by
  constructor
  · intro h i hi
    have h1 := h i hi
    rw [Nat.zero_add] at h1 ⊢
    rw [hfg i (by omega)] at h1
    exact (lt_b (hb i (by omega))).mp h1
  · intro h i hi
    have h1 := h i hi
    rw [Nat.zero_add] at h1 ⊢
    rw [hfg i (by omega)]
    exact (lt_b (hb i (by omega))).mpr h1
theorem sp_M (hb : ∀ k, k < 400 → -128 ≤ g k ∧ g k ≤ 127) (hfg : ∀ k, k < n → f k = g k % 256) (hn : n ≤ 400) {z : Int} (hz : 0 ≤ z ∧ z ≤ n) {most : Nat} : isSp f n z most ↔ mSp g z most := by
  unfold isSp mSp
  rw [all_M hb hfg hn (m := z.toNat) (by omega)]
  constructor
  · rintro ⟨h1, h2, h3, h4⟩; exact ⟨h1, h2, h4⟩
  · rintro ⟨h1, h2, h4⟩; exact ⟨h1, h2, hz.2, h4⟩
theorem eq_M (hfg : ∀ k, k < n → f k = g k % 256) {m : Nat} (hm : m ≤ n) (ha : alls g 0 m) : ∀ i, i < m → f (0 + i) = g (0 + i) := by
  intro i hi
  have h1 := ha i hi
  rw [Nat.zero_add] at h1 ⊢
  rw [hfg i (by omega)]
  omega
theorem pt4_M {v : Int} (hv : -2147483648 ≤ v ∧ v ≤ 2147483647) (hfg : ∀ k, k < n → f k = g k % 256) : ∀ k, k < n + 4 → pt4 f n v k = mp4 g n v k % 256 := by
  obtain ⟨b1, b2, b3, b4⟩ := bt_i2b hv
  intro k hk
  unfold pt4 mp4
  by_cases e3 : k = n + 3
  · subst e3; rw [fS_s, fS_s]; exact b4
  rw [fS_n e3, fS_n e3]
  by_cases e2 : k = n + 2
  · subst e2; rw [fS_s, fS_s]; exact b3
  rw [fS_n e2, fS_n e2]
  by_cases e1 : k = n + 1
  · subst e1; rw [fS_s, fS_s]; exact b2
  rw [fS_n e1, fS_n e1]
  by_cases e0 : k = n
  · subst e0; rw [fS_s, fS_s]; exact b1
  rw [fS_n e0, fS_n e0]
  exact hfg k (by omega)
theorem mp4_b {v : Int} (hb : ∀ k, k < 400 → -128 ≤ g k ∧ g k ≤ 127) : ∀ k, k < 400 → -128 ≤ mp4 g n v k ∧ mp4 g n v k ≤ 127 := by
  intro k hk
  unfold mp4 fS
  split
  · exact i2b_b _
  · split
    · exact i2b_b _
    · split
      · exact i2b_b _
      · split
        · exact i2b_b _
        · exact hb k hk
end Math98
section Math98b
variable {cs ls rl rs L ln S mn g hf sf : F_} {sz wide w : Nat}
theorem mul_gap {w u k i : Nat} (h : u ≠ k) (hi : i < w) : w * u + i < w * k ∨ w * k + w ≤ w * u + i := by
  rcases Nat.lt_or_gt_of_ne h with h1 | h1
  · left
    have := Nat.mul_le_mul_left w (show u + 1 ≤ k by omega)
    rw [Nat.mul_add, Nat.mul_one] at this
    omega
  · right
    have := Nat.mul_le_mul_left w (show k + 1 ≤ u by omega)
    rw [Nat.mul_add, Nat.mul_one] at this
    omega
theorem tl_L {k n u i : Nat} (hn : n ≤ wide) (hu : u ≠ k) (hi : i < wide) : va_cpy g L 0 (wide * k) n (wide * u + i) = L (wide * u + i) := by
  unfold va_cpy
  have := mul_gap (w := wide) hu hi
  rw [if_neg (by omega)]
theorem tl_K {k n i : Nat} (hi : i < n) : va_cpy g L 0 (wide * k) n (wide * k + i) = g i := by
  unfold va_cpy
  rw [if_pos (by omega), show 0 + (wide * k + i - wide * k) = i by omega]
theorem tl_row {k n u : Nat} (hR : lxR cs ls sz L ln wide) (hn : n ≤ wide) (hus : u < sz) (hu : u ≠ k) : (fS ln k n) u = ls u ∧ (1 ≤ ls u ∧ ls u ≤ wide) ∧ alls (va_cpy g L 0 (wide * k) n) (wide * u) (ls u).toNat ∧ cs u = cd_ (va_cpy g L 0 (wide * k) n) (wide * u) (ls u).toNat := by
  obtain ⟨r1, r2, r3, r4⟩ := hR u hus
  rw [fS_n hu]
  refine ⟨r1, r2, fun i hi => ?_, ?_⟩
  · rw [tl_L hn hu (by omega)]; exact r3 i hi
  · rw [r4]; exact cd_ext _ (fun i hi => (tl_L hn hu (by omega)).symm)
theorem tl_own {k n : Nat} (hg : alls g 0 n) : alls (va_cpy g L 0 (wide * k) n) (wide * k) n ∧ cd_ g 0 n = cd_ (va_cpy g L 0 (wide * k) n) (wide * k) n := by
  refine ⟨fun i hi => ?_, cd_ext _ (fun i hi => ?_)⟩
  · rw [tl_K hi]
    have := hg i hi
    rw [Nat.zero_add] at this
    exact this
  · rw [tl_K hi, Nat.zero_add]
theorem tl_new {n : Nat} (hR : lxR cs ls sz L ln wide) (hg : alls g 0 n) (hn : 1 ≤ n ∧ n ≤ wide) : lxR (fS cs sz (cd_ g 0 n)) (fS ls sz n) (sz + 1) (va_cpy g L 0 (wide * sz) n) (fS ln sz n) wide := by
  intro u hu
  by_cases e : u = sz
  · subst e
    obtain ⟨o1, o2⟩ := tl_own (L := L) (wide := wide) (k := u) hg
    rw [fS_s, fS_s, fS_s, Int.toNat_natCast]
    exact ⟨rfl, by omega, o1, o2⟩
  · obtain ⟨q1, q2, q3, q4⟩ := tl_row (g := g) (n := n) hR hn.2 (show u < sz by omega) e
    rw [fS_n (f := ls) e, fS_n (f := cs) e]
    exact ⟨q1, q2, q3, q4⟩
theorem tl_old {k n : Nat} (hR : lxR cs ls sz L ln wide) (hg : alls g 0 n) (hn : 1 ≤ n ∧ n ≤ wide) (hk : k < sz) (hc : cs k = cd_ g 0 n) : lxR cs ls sz (va_cpy g L 0 (wide * k) n) (fS ln k n) wide := by
  intro u hu
  by_cases e : u = k
  · subst e
    obtain ⟨o1, o2⟩ := tl_own (L := L) (wide := wide) (k := u) hg
    have h1 := ((lxR_eq hR hu hg).mp hc).1
    obtain ⟨r1, r2, r3, r4⟩ := hR u hu
    have h2 : ls u = n := by rw [← r1]; exact h1
    rw [fS_s, h2, Int.toNat_natCast]
    exact ⟨rfl, by omega, o1, hc.trans o2⟩
  · exact tl_row hR hn.2 hu e
theorem tl_S {k m sz' : Nat} (hS : lxS rl rs sz w mn S) (hrl : ∀ u, u < sz → rl u ≤ w) (hm : m ≤ w) (hs : ∀ u, u < sz' → u ≠ k → u < sz) (hh : ∀ i, i < m → hf i = sf i) : lxS (fS rl k m) (va_cpy sf rs 0 (k * w) m) sz' w (fS mn k m) (va_cpy hf S 0 (w * k) m) := by
  intro u hu
  by_cases e : u = k
  · subst e
    rw [fS_s, fS_s]
    refine ⟨rfl, fun i hi => ?_⟩
    rw [tl_K (by omega), Nat.mul_comm u w, tl_K (by omega)]
    exact hh i (by omega)
  · obtain ⟨s1, s2⟩ := hS u (hs u hu e)
    have h1 := hrl u (hs u hu e)
    rw [fS_n e, fS_n e]
    refine ⟨s1, fun i hi => ?_⟩
    rw [tl_L hm e (by omega), s2 i hi, Nat.mul_comm u w, Nat.mul_comm k w, tl_L hm e (by omega)]
theorem tl_v {k m sz' : Nat} (hv : ∀ u, u < sz → rvd rs (u * w) (rl u)) (hrl : ∀ u, u < sz → rl u ≤ w) (hm : m ≤ w) (hs : ∀ u, u < sz' → u ≠ k → u < sz) (hh : rvd sf 0 m) : ∀ u, u < sz' → rvd (va_cpy sf rs 0 (k * w) m) (u * w) (fS rl k m u) := by
  intro u hu i hi
  by_cases e : u = k
  · subst e
    rw [fS_s] at hi
    rw [Nat.mul_comm u w, tl_K (by omega)]
    have := hh i hi
    rw [Nat.zero_add] at this
    exact this
  · rw [fS_n e] at hi
    have h1 := hrl u (hs u hu e)
    have h2 := hv u (hs u hu e) i hi
    rw [Nat.mul_comm u w] at h2 ⊢
    rw [Nat.mul_comm k w, tl_L hm e (by omega)]
    exact h2
end Math98b
section Math98c
variable {R E : LxT} {f : F_}
theorem rdGo_v {cs ls rl rs : F_} {sz w b c : Nat} (hW : ∀ k, k < sz → 0 ≤ rl k) (hv : ∀ k, k < sz → rvd rs (k * w) (rl k)) : ∀ (j at_ : Nat) (many : Int) (lf sf : F_), 0 ≤ lf 0 ∧ lf 0 ≤ 20 → rvd sf 0 (lf 0) → rvd (rdGo cs ls rl rs sz w f b c j at_ many lf sf).2.2 0 ((rdGo cs ls rl rs sz w f b c j at_ many lf sf).2.1 0)
  | 0, _, _, lf, sf, h, hr => hr
  | j + 1, at_, many, lf, sf, h, hr => by
    unfold rdGo
    split
    · exact hr
    · split
      · exact hr
      · rename_i hk
        rcases lgst_b cs sz f (b + at_) (min (c - at_) 4) with hn | ⟨k, hk1, hk2⟩
        · exact absurd hn hk
        · rw [hk2, Int.toNat_natCast]
          have h1 := hW k hk1
          have hj : 0 ≤ jn 20 (lf 0) (rl k) ∧ jn 20 (lf 0) (rl k) ≤ 20 - lf 0 ∧ jn 20 (lf 0) (rl k) ≤ rl k := by unfold jn; split <;> omega
          refine rdGo_v hW hv j _ _ _ _ (by rw [fS_s]; omega) (fun i hi => ?_)
          rw [fS_s] at hi
          rw [Nat.zero_add]
          unfold va_cpy
          by_cases q : (lf 0).toNat ≤ i ∧ i < (lf 0).toNat + (jn 20 (lf 0) (rl k)).toNat
          · rw [if_pos q]
            exact hv k hk1 _ (by omega)
          · rw [if_neg q]
            have := hr i (by omega)
            rw [Nat.zero_add] at this
            exact this
theorem rd_v (hE : EnvI R E) (h3 : rvL 3 R) (h20 : rvL 20 E) {b c : Nat} {lf sf : F_} : rvd (rdE R E f b c lf sf).2.2 0 ((rdE R E f b c lf sf).2.1 0) := by
  obtain ⟨e1, e2, e3, e4, e5, e6⟩ := hE
  show rvd (rdT R.2.1 R.2.2.1 R.2.2.2.1 R.2.2.2.2 R.1 3 E.2.1 E.2.2.2.1 E.2.2.2.2 E.1 f b c lf sf).2.2 0 ((rdT R.2.1 R.2.2.1 R.2.2.2.1 R.2.2.2.2 R.1 3 E.2.1 E.2.2.2.1 E.2.2.2.2 E.1 f b c lf sf).2.1 0)
  unfold rdT
  split
  · exact rdGo_v (fun k hk => (e3.1 k (by omega)).1) h3 _ _ _ _ _ (by rw [fS_s]; omega) (fun i hi => by rw [fS_s] at hi; omega)
  · rename_i hne
    rcases fnd_b E.2.1 (cd_ f b c) E.1 0 with hn | ⟨k, k1, k2, k3, k4⟩
    · exact absurd hn hne
    · rw [k3, Int.toNat_natCast]
      have h1 := e4.1 k (by omega)
      have hj : 0 ≤ jn 20 0 (E.2.2.2.1 k) ∧ jn 20 0 (E.2.2.2.1 k) ≤ E.2.2.2.1 k := by unfold jn; split <;> omega
      intro i hi
      have hi : (i : Int) < fS lf 0 (jn 20 0 (E.2.2.2.1 k)) 0 := hi
      rw [fS_s] at hi
      show 0 ≤ va_cpy E.2.2.2.2 sf (k * 20) 0 (jn 20 0 (E.2.2.2.1 k)).toNat (0 + i) ∧ va_cpy E.2.2.2.2 sf (k * 20) 0 (jn 20 0 (E.2.2.2.1 k)).toNat (0 + i) < 16
      unfold va_cpy
      rw [if_pos (by omega)]
      exact h20 k (by omega) _ (by omega)
/-- no word of the grammar has another sound -/
def psV (S : PS) : Prop := ∀ k, k < S.2.1.1 → rvd S.2.2.1.2.1 (k * 20) (S.2.2.1.1 k)
theorem psV_sign {S : PS} {v : Int} (hV : psV S) : psV (tkSign v S).2 := by
  obtain ⟨⟨o, e⟩, ⟨wc, pc⟩, ⟨wl, ws, wp, wq⟩, ⟨op, oq, pt, ob⟩, ⟨lf, sf⟩⟩ := S
  unfold tkSign tkOpen tkBar tkClose
  dsimp only
  repeat' split
  all_goals exact hV
theorem psV_spell {S : PS} {rc bh : Nat} (hE : EnvI R E) (h3 : rvL 3 R) (h20 : rvL 20 E) (hI : psI rc S) (hV : psV S) : psV (tkSpell R E f rc bh S).2 := by
  obtain ⟨⟨o, e⟩, ⟨wc, pc⟩, ⟨wl, ws, wp, wq⟩, ⟨op, oq, pt, ob⟩, ⟨lf, sf⟩⟩ := S
  unfold tkSpell
  dsimp only
  split
  · exact hV
  · split
    · exact hV
    · split
      · exact hV
      · rename_i hwc
        have hW : RwW 20 20 wl := hI.2.2.2.2.1
        have hwc2 : wc ≤ 20 := hI.2.2.1
        have hb := rdE_b (f := f) (b := rc) (c := bh - rc) (lf := lf) (sf := sf) hE
        have hv := rd_v (f := f) (b := rc) (c := bh - rc) (lf := lf) (sf := sf) hE h3 h20
        have hj : jn 20 0 ((rdE R E f rc (bh - rc) lf sf).2.1 0) = (rdE R E f rc (bh - rc) lf sf).2.1 0 := by unfold jn; split <;> omega
        intro k hk i hi
        have hk : k < wc + 1 := hk
        have hi : (i : Int) < fS wl wc (jn 20 0 ((rdE R E f rc (bh - rc) lf sf).2.1 0)) k := hi
        show 0 ≤ va_cpy (rdE R E f rc (bh - rc) lf sf).2.2 ws (0 * 20) (wc * 20) (jn 20 0 ((rdE R E f rc (bh - rc) lf sf).2.1 0)).toNat (k * 20 + i) ∧ va_cpy (rdE R E f rc (bh - rc) lf sf).2.2 ws (0 * 20) (wc * 20) (jn 20 0 ((rdE R E f rc (bh - rc) lf sf).2.1 0)).toNat (k * 20 + i) < 16
        rw [hj] at hi ⊢
        unfold va_cpy
        by_cases q : k = wc
        · subst q
          rw [fS_s] at hi
          rw [if_pos (by omega)]
          have := hv i hi
          rw [show 0 * 20 + (k * 20 + i - k * 20) = 0 + i by omega]
          exact this
        · rw [fS_n q] at hi
          have := hW.1 k (by omega)
          rw [if_neg (by omega)]
          exact hV k (show k < wc by omega) i hi
theorem prs_V (hE : EnvI R E) (h3 : rvL 3 R) (h20 : rvL 20 E) {en : Nat} : ∀ (j rc : Nat) (S : PS), rc ≤ en → psI rc S → psV S → psV (prs R E f en j rc S).2.2
  | 0, rc, S, _, _, hV => by unfold prs; exact hV
  | j + 1, rc, S, hrc, hI, hV => by
    have hb := bhd_ge (f := f) (en - rc) rc
    have hT := prT_I (f := f) (en := en) hE hI
    have hVT : psV (prT R E f en rc S).2 := by
      unfold prT
      split
      · exact psV_spell hE h3 h20 hI hV
      · exact psV_sign hV
    unfold prs
    split
    · exact hV
    · split
      · exact hVT
      · exact prs_V hE h3 h20 j _ _ (by omega) (hT.mono (by omega)) hVT
variable {wc pc : Nat} {wl ws wp wq op oq pt ob : F_}
theorem jwd_v {nw : F_} {k : Nat} (hwl : ∀ i, i < wc → 0 ≤ wl i ∧ wl i ≤ 20) (hwv : ∀ i, i < wc → rvd ws (i * 20) (wl i)) : ∀ (j i : Nat) (m : Int) (cl cs : F_), i + j ≤ wc → 0 ≤ cl k ∧ cl k ≤ 40 → rvd cs (k * 40) (cl k) → rvd (jwd pc nw wp wq wl ws k j i m cl cs).2.2 (k * 40) ((jwd pc nw wp wq wl ws k j i m cl cs).2.1 k)
  | 0, i, m, cl, cs, _, _, hv => hv
  | j + 1, i, m, cl, cs, hi, hc, hv => by
    unfold jwd
    have hw := hwl i (by omega)
    split
    · exact jwd_v hwl hwv j (i + 1) m cl cs (by omega) hc hv
    · have hj : 0 ≤ jn 40 (cl k) (wl i) ∧ cl k + jn 40 (cl k) (wl i) ≤ 40 ∧ jn 40 (cl k) (wl i) ≤ wl i := by unfold jn; split <;> omega
      refine jwd_v hwl hwv j (i + 1) _ _ _ (by omega) (by rw [fS_s]; omega) (fun u hu => ?_)
      rw [fS_s] at hu
      unfold va_cpy
      by_cases q : k * 40 + (cl k).toNat ≤ k * 40 + u ∧ k * 40 + u < k * 40 + (cl k).toNat + (jn 40 (cl k) (wl i)).toNat
      · rw [if_pos q]
        exact hwv i (by omega) _ (by omega)
      · rw [if_neg q]
        exact hv u (by omega)
theorem mkc_W (hW : RwW 20 20 wl) (hwc : wc ≤ 20) : ∀ (j made : Nat) (tl : Int) (nw pk cl cs : F_), made + j ≤ 120 → RwW 40 120 cl → RwW 40 120 (mkc wc pc wl ws wp wq op oq pt ob j made tl nw pk cl cs).2.2.2.1
  | 0, made, tl, nw, pk, cl, cs, _, h => by unfold mkc; exact h
  | j + 1, made, tl, nw, pk, cl, cs, hm, h => by
    have h1 : RwW 40 120 (jwd pc nw wp wq wl ws made wc 0 0 (fS cl made 0) cs).2.1 := jwd_W hW wc 0 0 _ _ (by omega) (by omega) (h.set (by omega) (by omega))
    unfold mkc
    split
    · exact h1
    · exact mkc_W hW hwc j (made + 1) _ _ _ _ _ (by omega) h1
theorem mkS_W {S : PS} {nw pk cl cs : F_} (hW : RwW 20 20 S.2.2.1.1) (hwc : S.2.1.1 ≤ 20) (h : RwW 40 120 cl) : RwW 40 120 (mkS S nw pk cl cs).2.2.2.1 := mkc_W hW hwc 120 0 _ _ _ _ _ (by omega) h
theorem mkS_v {S : PS} {nw pk cl cs : F_} (hW : RwW 20 20 S.2.2.1.1) (hwc : S.2.1.1 ≤ 20) (hpc : S.2.1.2 ≤ 8) (hV : psV S) (h0 : (mkS S nw pk cl cs).1.1 = 0) : (mkS S nw pk cl cs).1.2 ≤ 120 ∧ ∀ l, l < (mkS S nw pk cl cs).1.2 → rvd (mkS S nw pk cl cs).2.2.2.2 (l * 40) ((mkS S nw pk cl cs).2.2.2.1 l) := by
  have hwl : ∀ i, i < S.2.1.1 → 0 ≤ S.2.2.1.1 i ∧ S.2.2.1.1 i ≤ 20 := fun i hi => hW.1 i (by omega)
  obtain ⟨-, hr⟩ := mk_rows (wc := S.2.1.1) (pc := S.2.1.2) (wl := S.2.2.1.1) (ws := S.2.2.1.2.1) (wp := S.2.2.1.2.2.1) (wq := S.2.2.1.2.2.2) (op := S.2.2.2.1.1) (oq := S.2.2.2.1.2.1) (pt := S.2.2.2.1.2.2.1) (ob := S.2.2.2.1.2.2.2) hpc (fun i hi => (hwl i hi).1) 120 0 0 (stl S.2.1.2 S.2.2.2.1.1 S.2.2.2.1.2.1 S.2.1.2 0 nw) pk cl cs Z_ (Or.inl rfl)
  have h0' : (mkc S.2.1.1 S.2.1.2 S.2.2.1.1 S.2.2.1.2.1 S.2.2.1.2.2.1 S.2.2.1.2.2.2 S.2.2.2.1.1 S.2.2.2.1.2.1 S.2.2.2.1.2.2.1 S.2.2.2.1.2.2.2 120 0 0 (stl S.2.1.2 S.2.2.2.1.1 S.2.2.2.1.2.1 S.2.1.2 0 nw) pk cl cs).1.1 = 0 := h0
  rcases hr with ⟨h5, -⟩ | ⟨q, h1, h2, h3, h4⟩
  · rw [h0'] at h5; omega
  · refine ⟨by have := h2.2; show (mkc _ _ _ _ _ _ _ _ _ _ 120 0 0 _ pk cl cs).1.2 ≤ 120; omega, fun l hl i hi => ?_⟩
    obtain ⟨r1, r2, cl0, cs0, r3, r4, r5⟩ := h3 l (by omega) hl
    have hi : (i : Int) < (mkc S.2.1.1 S.2.1.2 S.2.2.1.1 S.2.2.1.2.1 S.2.2.1.2.2.1 S.2.2.1.2.2.2 S.2.2.2.1.1 S.2.2.2.1.2.1 S.2.2.2.1.2.2.1 S.2.2.2.1.2.2.2 120 0 0 (stl S.2.1.2 S.2.2.2.1.1 S.2.2.2.1.2.1 S.2.1.2 0 nw) pk cl cs).2.2.2.1 l := hi
    rw [r4] at hi
    have hb := (jwd_fr (pc := S.2.1.2) (wc := S.2.1.1) (wl := S.2.2.1.1) (ws := S.2.2.1.2.1) (wp := S.2.2.1.2.2.1) (wq := S.2.2.1.2.2.2) (nw := q l) (k := l) (fun i hi => (hwl i hi).1) S.2.1.1 0 0 cl0 cs0 (by omega) (by omega)).2.2
    have hv := jwd_v (pc := S.2.1.2) (wp := S.2.2.1.2.2.1) (wq := S.2.2.1.2.2.2) (nw := q l) (k := l) hwl hV S.2.1.1 0 0 cl0 cs0 (by omega) (by omega) (fun u hu => by omega) i hi
    rw [← r5 i (by omega)] at hv
    exact hv
end Math98c
