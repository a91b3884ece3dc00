/-! keepings on both sides -/
theorem kCn_le {c : Nat → Int64} {z n i0 : Nat} : ∀ a, kCn c z n i0 a ≤ a
  | 0 => Nat.le_refl _
  | a + 1 => by
    have := kCn_le (c := c) (z := z) (n := n) (i0 := i0) a
    unfold kCn
    split <;> omega

theorem s_keepings (l : Launch) {Ls : Nat} {xs : Nat → Int32} {q n m c b : Nat} {S : Shp} {I : MI} {L : ML} {R : MR} (g : KG Ls m c S R) (k : K2 xs q n m c b S R I I L L) (hq : q < 600) (x y u v : Int32) : Sr l wI mX8_keepings mX9_keepings [.inl x, .inl y, .inl u, .inl v] Ls xs q S I L R := by
  have hN := k.hN
  have hM := k.hM
  have hC := k.hC
  cases hx : inb x m with
  | false => exact sr1 g k hq (-1) (c_keepingsN l g.xg k.xm hx (fun d hd => xg_26 g.xg hd) y u v) (by omega) (qIp rfl) (fun J hJ k1 => ⟨_, _, c_mKpsB l g.mg k1.ym hM (Or.inl hx), by omega, qIp rfl⟩)
  | true =>
    obtain ⟨j, hj, rfl⟩ := inb_of (by omega) hx
    cases hy : inb y 6 with
    | false => exact sr1 g k hq (-1) (c_keepingsM l g.xg k.xm hj hM (g.rw j hj) (g.wg j hj) hy u v) (by omega) (qIp rfl) (fun J hJ k1 => ⟨_, _, c_mKpsB l g.mg k1.ym hM (Or.inr (Or.inl hy)), by omega, qIp rfl⟩)
    | true =>
    obtain ⟨d, hd6, rfl⟩ := inb_of (by omega) hy
    by_cases v1 : v < nI 1
    · exact sr1 g k hq (-1) (c_keepingsB l g.xg k.xm hj hM (g.rw j hj) (g.wg j hj) hd6 (xg_26 g.xg hd6) (g.dg d hd6) u (Or.inl v1)) (by omega) (qIp rfl) (fun J hJ k1 => ⟨_, _, c_mKpsB l g.mg k1.ym hM (Or.inr (Or.inr (Or.inl v1))), by omega, qIp rfl⟩)
    by_cases v9 : nI 60 < v
    · exact sr1 g k hq (-1) (c_keepingsB l g.xg k.xm hj hM (g.rw j hj) (g.wg j hj) hd6 (xg_26 g.xg hd6) (g.dg d hd6) u (Or.inr v9)) (by omega) (qIp rfl) (fun J hJ k1 => ⟨_, _, c_mKpsB l g.mg k1.ym hM (Or.inr (Or.inr (Or.inr v9))), by omega, qIp rfl⟩)
    have v0 : ¬ v < 0 := fun q => v1 (Int32.lt_trans q (by decide))
    obtain ⟨a, ha', rfl⟩ := nI_of v0
    have ha : 1 ≤ a ∧ a ≤ 60 := by
      rw [nI_ltI ha' (by omega)] at v1
      rw [nI_ltI (by omega) ha'] at v9
      omega
    obtain ⟨h, s, z, bd, hh3, hs4, hz6, e0, e1, e2, e3, hm, hb1, hL, hn⟩ := k.sh d hd6
    by_cases h0 : h = 0
    · subst h0
      exact sr1 g k hq (nI 0) (c_keepingsE l g.xg k.xm hj hM (g.rw j hj) (g.wg j hj) hd6 (xg_26 g.xg hd6) (g.dg d hd6) e0 u ha) (by omega) (qIp rfl) (fun J hJ k1 => ⟨_, _, c_mKps0 l g.mg k1.ym hM hj hd6 ((hm.J hJ).2.1 rfl) u ha, by omega, qIp rfl⟩)
    by_cases h1 : ¬ h = 2 ∨ ¬ s = 0
    · refine sr1 g k hq (-12) (c_keepingsO l g.xg k.xm hj hM (g.rw j hj) (g.wg j hj) hd6 (xg_26 g.xg hd6) (g.dg d hd6) e0 e2 hh3 hs4 h0 h1 u ha) (by omega) (qIp rfl) (fun J hJ k1 => ?_)
      obtain ⟨w, hw, e91, hw2, hw1⟩ := shM_91 (hm.J hJ) h0 hs4
      exact ⟨_, _, c_mKps1 l g.mg k1.ym hM hj hd6 (c := w) hw (by omega) e91 u ha, by omega, qIp rfl⟩
    have hh : h = 2 := by omega
    have hs : s = 0 := by omega
    subst hh hs
    have hm2 := hm.2.2.2 rfl
    cases hu : inb u z with
    | false =>
      refine sr1 g k hq (nI 0) (c_keepingsZ l g.xg k.xm hj hM (g.rw j hj) (g.wg j hj) hd6 (xg_26 g.xg hd6) (g.dg d hd6) e0 e2 e3 hz6 hu ha) (by omega) (qIp rfl) (fun J hJ k1 => ?_)
      have m2 := (hm.J hJ).2.2.2 rfl
      by_cases hun : u < 0
      · exact ⟨_, _, c_mKpsL l g.mg k1.ym hM hj hd6 m2.1 m2.2 hz6 hun ha, by omega, qIp rfl⟩
      · obtain ⟨p, hp, rfl⟩ := nI_of hun
        rw [inb_nI hp (by omega), decide_eq_false_iff_not] at hu
        exact ⟨_, _, c_mKpsH l g.mg k1.yn hN k1.ym hM hj hd6 m2.1 m2.2 hz6 (by omega) hp ha, by omega, qIp rfl⟩
    | true =>
    obtain ⟨i0, hi0, rfl⟩ := inb_of (by omega) hu
    obtain ⟨lj, ke, hlj, hRl, w3, w4, w5, wa, w6, w7⟩ := k.wb j hj
    have hTa := kCn_le (c := L (28, d)) (z := z) (n := n) (i0 := i0) a
    have hc := c_keepingsS l (L := L) g.xg g.sg k.xn hN k.xm hj hM (g.rw j hj) (g.wg j hj) hd6 (xg_26 g.xg hd6) (g.dg d hd6) e0 e2 e3 hz6 hi0 ha wa.2.2.1.1 (by omega)
    have hwf := kSt_w (c := L (28, d)) (n := n) (i0 := i0) (k := j) (I := I) (ke := ke) wa.2.2.1.1 (kCn (L (28, d)) z n i0 a)
    obtain ⟨T, hT⟩ : ∃ T, T = kCn (L (28, d)) z n i0 a := ⟨_, rfl⟩
    rw [← hT] at hTa hc hwf
    refine sr2 (nI T) (fun J L' => J = (kSt (L (28, d)) j n i0 I ke T).1 ∧ L = L') hc (by omega) (by rintro r S' I' L' R' ⟨v, rfl, rfl, rfl, rfl, rfl, rfl⟩; exact ⟨rfl, rfl, rfl, rfl, rfl⟩) ?_
    rintro J L' ⟨hJe, rfl⟩
    rw [← hJe] at hwf
    have hIJ : ∀ t i, ¬ (cmX j t ∧ t.1 < 40) → J t i = I t i := fun t i q => hwf.1 t i (fun z => q (cmX_c (lj := lj) t i (Or.inl z)))
    have hJ : ∀ a i, 40 ≤ a → J (a, 0) i = I (a, 0) i := fun a i ha => hIJ _ _ (fun z => absurd z.2 (by show ¬ a < 40; omega))
    have waJ := wa.J hJ
    obtain ⟨e2', wm⟩ := WA.kps (c := L (28, d)) (i0 := i0) hN waJ T
    have mw := mkSt_w (c := L (28, d)) (w := j) (n := n) (i0 := i0) hN waJ.2.2.1.2 (waJ.bd hN) T
    refine ⟨3, _, c_mKpsS l g.mg ((hJ 40 _ (by omega)).trans k.yn) hN ((hJ 40 _ (by omega)).trans k.ym) hM hj hd6 ((hJ 91 _ (by omega)).trans hm2.1) ((hJ 92 _ (by omega)).trans hm2.2) hz6 (c := L (28, d)) (fun q hq => (hL q (by omega)).symm) (fun q hq => hn rfl rfl q (by omega)) hi0 ha waJ.2.2.1.2 (by omega) (waJ.bd hN), by omega, ?_⟩
    rintro r S' F L2 R' ⟨v, rfl, rfl, rfl, rfl, hv, hF⟩
    rw [← hT] at hv hF
    refine ⟨by rw [hv]; rfl, rfl, rfl, n, m, c, b, g, ?_⟩
    rw [← hF] at mw
    have hJF : ∀ t i, ¬ cmY j t i → F t i = J t i := fun t i q => mw.1 t i (fun z => q (cmY_o t i (Or.inl z)))
    have hX : ∀ t i, t.1 < 40 → ¬ cmX j t → F t i = I t i := fun t i ht q => (hJF t i (fun z => absurd (cmY_m t i z) (by omega))).trans (hIJ t i (fun z => q z.1))
    have hY : ∀ t i, 40 ≤ t.1 → ¬ cmY j t i → F t i = I t i := fun t i ht q => (hJF t i q).trans (hIJ t i (fun z => absurd z.2 (by omega)))
    have hFJ : ∀ t i, t.1 < 40 → F t i = J t i := fun t i ht => hJF t i (fun z => absurd (cmY_m t i z) (by omega))
    have w11 : ∀ i, ¬ (i = 6 ∨ i = 7 ∨ i = 8) → F (11, j) i = I (11, j) i := fun i hi => (hFJ _ _ (by simp)).trans (hwf.1 _ _ (by simp [wldP]; omega))
    rw [← hJe, ← hF] at wm
    have hwj : WB j (q + 1) n c R' F F := by
      refine ⟨lj, _, hlj, hRl, ?_, ?_, ?_, wm.to (fun i _ _ => hFJ _ _ (by simp)) (fun i => hFJ _ _ (by simp)) (fun i => hFJ _ _ (by simp)) (fun _ _ _ => rfl), ?_, ?_⟩
      · rw [w11 _ (by omega)]; exact w3
      · rw [hY _ _ (by simp) (by simp [cmY])]; exact w4
      · have := hwf.2.2; omega
      · rw [w11 _ (by omega), hY _ _ (by simp) (by simp [cmY])]; exact w6
      · rw [w11 _ (by omega), hY _ _ (by simp) (by simp [cmY])]; exact w7
    exact K2.mk (hN := k.hN) (hM := k.hM) (hC := k.hC) (hB := k.hB) (hq := (by omega)) (xn := ((hX _ _ (by first | (simp [cmX, cmY]; done) | (simp [cmX, cmY]; omega)) (by first | (simp [cmX, cmY]; done) | (simp [cmX, cmY]; omega))).trans k.xn)) (xm := ((hX _ _ (by first | (simp [cmX, cmY]; done) | (simp [cmX, cmY]; omega)) (by first | (simp [cmX, cmY]; done) | (simp [cmX, cmY]; omega))).trans k.xm)) (xc := ((hX _ _ (by first | (simp [cmX, cmY]; done) | (simp [cmX, cmY]; omega)) (by first | (simp [cmX, cmY]; done) | (simp [cmX, cmY]; omega))).trans k.xc)) (yn := ((hY _ _ (by first | (simp [cmX, cmY]; done) | (simp [cmX, cmY]; omega)) (by first | (simp [cmX, cmY]; done) | (simp [cmX, cmY]; omega))).trans k.yn)) (ym := ((hY _ _ (by first | (simp [cmX, cmY]; done) | (simp [cmX, cmY]; omega)) (by first | (simp [cmX, cmY]; done) | (simp [cmX, cmY]; omega))).trans k.ym)) (yc := ((hY _ _ (by first | (simp [cmX, cmY]; done) | (simp [cmX, cmY]; omega)) (by first | (simp [cmX, cmY]; done) | (simp [cmX, cmY]; omega))).trans k.yc)) (st := (st_to k.st (fun i => (hX _ _ (by first | (simp [cmX, cmY]; done) | (simp [cmX, cmY]; omega)) (by first | (simp [cmX, cmY]; done) | (simp [cmX, cmY]; omega)))))) (at_ := (at_to k.at_ (fun i => (hX _ _ (by first | (simp [cmX, cmY]; done) | (simp [cmX, cmY]; omega)) (by first | (simp [cmX, cmY]; done) | (simp [cmX, cmY]; omega)))) (fun i => (hX _ _ (by first | (simp [cmX, cmY]; done) | (simp [cmX, cmY]; omega)) (by first | (simp [cmX, cmY]; done) | (simp [cmX, cmY]; omega)))))) (so := (k.so.to k.hN (fun i hi => (hX _ _ (by first | (simp [cmX, cmY]; done) | (simp [cmX, cmY]; omega)) (by first | (simp [cmX, cmY]; done) | (simp [cmX, cmY]; omega)))) (fun i hi => (hY _ _ (by first | (simp [cmX, cmY]; done) | (simp [cmX, cmY]; omega)) (by first | (simp [cmX, cmY]; done) | (simp [cmX, cmY]; omega)))))) (tp := (k.tp.to (hX _ _ (by first | (simp [cmX, cmY]; done) | (simp [cmX, cmY]; omega)) (by first | (simp [cmX, cmY]; done) | (simp [cmX, cmY]; omega))) (fun i => (hX _ _ (by first | (simp [cmX, cmY]; done) | (simp [cmX, cmY]; omega)) (by first | (simp [cmX, cmY]; done) | (simp [cmX, cmY]; omega)))) (hY _ _ (by first | (simp [cmX, cmY]; done) | (simp [cmX, cmY]; omega)) (by first | (simp [cmX, cmY]; done) | (simp [cmX, cmY]; omega))) (fun i => (hY _ _ (by first | (simp [cmX, cmY]; done) | (simp [cmX, cmY]; omega)) (by first | (simp [cmX, cmY]; done) | (simp [cmX, cmY]; omega)))))) (ch := ((k.ch.to (fun t i h1 h2 => (hX _ _ (by first | (simp [cmX, cmY]; done) | (simp [cmX, cmY]; omega)) (by first | (simp [cmX, cmY]; done) | (simp [cmX, cmY]; omega)))) (hY _ _ (by first | (simp [cmX, cmY]; done) | (simp [cmX, cmY]; omega)) (by first | (simp [cmX, cmY]; done) | (simp [cmX, cmY]; omega))) (hY _ _ (by first | (simp [cmX, cmY]; done) | (simp [cmX, cmY]; omega)) (by first | (simp [cmX, cmY]; done) | (simp [cmX, cmY]; omega))) (fun t i h1 h2 => (hY _ _ (by first | (simp [cmX, cmY]; done) | (simp [cmX, cmY]; omega)) (by first | (simp [cmX, cmY]; done) | (simp [cmX, cmY]; omega))))).mono (Nat.le_refl _) (Nat.le_refl _))) (ac := (k.ac.to (hX _ _ (by first | (simp [cmX, cmY]; done) | (simp [cmX, cmY]; omega)) (by first | (simp [cmX, cmY]; done) | (simp [cmX, cmY]; omega))) (hX _ _ (by first | (simp [cmX, cmY]; done) | (simp [cmX, cmY]; omega)) (by first | (simp [cmX, cmY]; done) | (simp [cmX, cmY]; omega))) (fun i => (hX _ _ (by first | (simp [cmX, cmY]; done) | (simp [cmX, cmY]; omega)) (by first | (simp [cmX, cmY]; done) | (simp [cmX, cmY]; omega)))) (fun i => (hX _ _ (by first | (simp [cmX, cmY]; done) | (simp [cmX, cmY]; omega)) (by first | (simp [cmX, cmY]; done) | (simp [cmX, cmY]; omega)))) (hY _ _ (by first | (simp [cmX, cmY]; done) | (simp [cmX, cmY]; omega)) (by first | (simp [cmX, cmY]; done) | (simp [cmX, cmY]; omega))) (hY _ _ (by first | (simp [cmX, cmY]; done) | (simp [cmX, cmY]; omega)) (by first | (simp [cmX, cmY]; done) | (simp [cmX, cmY]; omega))) (fun i => (hY _ _ (by first | (simp [cmX, cmY]; done) | (simp [cmX, cmY]; omega)) (by first | (simp [cmX, cmY]; done) | (simp [cmX, cmY]; omega)))) (fun i => (hY _ _ (by first | (simp [cmX, cmY]; done) | (simp [cmX, cmY]; omega)) (by first | (simp [cmX, cmY]; done) | (simp [cmX, cmY]; omega)))))) (sh := (fun d hd => (k.sh d hd).to (Nat.le_refl _) k.hB (fun i => (hX _ _ (by first | (simp [cmX, cmY]; done) | (simp [cmX, cmY]; omega)) (by first | (simp [cmX, cmY]; done) | (simp [cmX, cmY]; omega)))) (hY _ _ (by first | (simp [cmX, cmY]; done) | (simp [cmX, cmY]; omega)) (by first | (simp [cmX, cmY]; done) | (simp [cmX, cmY]; omega))) (hY _ _ (by first | (simp [cmX, cmY]; done) | (simp [cmX, cmY]; omega)) (by first | (simp [cmX, cmY]; done) | (simp [cmX, cmY]; omega))) (fun i => rfl) (fun i _ => rfl))) (lw := (fun j hj => (k.lw j hj).to (fun _ z => z) (fun i => (hX _ _ (by first | (simp [cmX, cmY]; done) | (simp [cmX, cmY]; omega)) (by first | (simp [cmX, cmY]; done) | (simp [cmX, cmY]; omega)))) (fun i _ _ => (hY _ _ (by first | (simp [cmX, cmY]; done) | (simp [cmX, cmY]; omega)) (by first | (simp [cmX, cmY]; done) | (simp [cmX, cmY]; omega)))) (hY _ _ (by first | (simp [cmX, cmY]; done) | (simp [cmX, cmY]; omega)) (by first | (simp [cmX, cmY]; done) | (simp [cmX, cmY]; omega))))) (wb := (fun k2 hk2 => by
      by_cases e : k2 = j
      · subst e
        exact hwj
      · exact (k.wb k2 hk2).to (by omega) (Nat.le_refl _) (Nat.le_refl _) rfl (fun i => hX _ _ (by simp) (by simp [cmX, e])) (fun i => hX _ _ (by simp) (by simp [cmX, e])) (fun i => hX _ _ (by simp) (by simp [cmX, e])) (fun t i z => hY _ _ (by show 40 ≤ t; omega) (by simp [cmY]; omega)))) (fs := (fun j h1 h2 => (hY _ _ (by first | (simp [cmX, cmY]; done) | (simp [cmX, cmY]; omega)) (by first | (simp [cmX, cmY]; done) | (simp [cmX, cmY]; omega))).trans (k.fs j h1 h2))) (sc := (fun i => (hY _ _ (by first | (simp [cmX, cmY]; done) | (simp [cmX, cmY]; omega)) (by first | (simp [cmX, cmY]; done) | (simp [cmX, cmY]; omega))).trans (k.sc i)))
