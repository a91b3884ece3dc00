/-! the calls that write: crate, shop -/

theorem s_crate (l : Launch) {Ls : Nat} {xs : Nat → Int32} {q n m c b : Nat} {S : Shp} {I : MI} {L : ML} {R : MR} (g : KG Ls m c S R) (k : K2 xs q n m c b S R I I L L) (hq : q < 600) (x y z : Int32) : Sr l wI mX8_crate mX9_crate [.inl x, .inl y, .inl z] Ls xs q S I L R := by
  have hN := k.hN
  have hM := k.hM
  have hC := k.hC
  cases hx : inb x m with
  | false => exact sr1 g k hq (-1) (c_crateN l g.xg k.xm hx y z) (by omega) (qIp rfl) (fun J hJ k1 => ⟨_, _, c_mCrateN l g.mg k1.yn hN k1.ym hM (Or.inl hx), by omega, qIp rfl⟩)
  | true =>
    obtain ⟨j, hj, rfl⟩ := inb_of (by omega) hx
    cases hy : inb y n with
    | false => exact sr1 g k hq (-1) (c_crateM l g.xg g.sg k.xn hN k.xm hj hM (g.rw j hj) (g.wg j hj) hy z) (by omega) (qIp rfl) (fun J hJ k1 => ⟨_, _, c_mCrateN l g.mg k1.yn hN k1.ym hM (Or.inr (Or.inl hy)), by omega, qIp rfl⟩)
    | true =>
    obtain ⟨s, hs, rfl⟩ := inb_of (by omega) hy
    obtain ⟨d, hd4, hd, hdy⟩ := k.d
    have hc := c_crateS l (I := I) (S := S) (L := L) (R := R) g.xg g.sg k.xn hN k.xm hj hM (g.rw j hj) (g.wg j hj) g.hg hd hd4 hs z
    by_cases h1 : z < nI 1
    · rw [if_pos (Or.inl h1), if_pos (Or.inl h1)] at hc
      exact sr1 g k hq (-1) hc (by omega) (qIp rfl) (fun J hJ k1 => ⟨_, _, c_mCrateN l g.mg k1.yn hN k1.ym hM (Or.inr (Or.inr (Or.inl h1))), by omega, qIp rfl⟩)
    by_cases h9 : nI 9999 < z
    · rw [if_pos (Or.inr h9), if_pos (Or.inr h9)] at hc
      exact sr1 g k hq (-1) hc (by omega) (qIp rfl) (fun J hJ k1 => ⟨_, _, c_mCrateN l g.mg k1.yn hN k1.ym hM (Or.inr (Or.inr (Or.inr h9))), by omega, qIp rfl⟩)
    have hno : ¬ (z < nI 1 ∨ nI 9999 < z) := fun z => z.elim h1 h9
    rw [if_neg hno, if_neg hno] at hc
    have h0 : ¬ z < 0 := fun q => h1 (Int32.lt_trans q (by decide))
    obtain ⟨v, hv, rfl⟩ := nI_of h0
    have h9' := h9
    rw [nI_ltI (by omega) hv] at h9'
    obtain ⟨lj, ke, w1, w2, w3, w4, w5, wa, w6, w7⟩ := k.wb j hj
    obtain ⟨a, ha, e1, e2⟩ := wa.2.2.2.1 s (by omega)
    have hmin : minI (nI a + nI v) 99999 = nI (min (a + v) 99999) := by rw [nI_add, minI_n (by omega)]
    obtain ⟨p, hp⟩ : ∃ p, p = min (a + v) 99999 := ⟨_, rfl⟩
    have hp9 : p ≤ 99999 := by omega
    rw [e1, hmin, ← hp] at hc
    refine sr2 (nI p) (fun J L' => J = noteI (upM I (12, j) s (nI p)) d (nI j) (nI s) (nI a) (nI p) ∧ L' = L) hc (by omega) (by rintro r S' I' L' R' ⟨v, rfl, rfl, rfl, rfl, rfl, rfl⟩; exact ⟨rfl, rfl, rfl, rfl, rfl⟩) ?_
    rintro J L' ⟨rfl, rfl⟩
    have hm : ∀ i, noteI (upM I (12, j) s (nI p)) d (nI j) (nI s) (nI a) (nI p) (40, 0) i = I (40, 0) i := fun i => by rw [noteM (by simp), upM_n _ (by simp)]
    have hcm := c_mCrateS l (S := S) (L := L') (R := R) g.mg ((hm 6).trans k.yn) hN ((hm 18).trans k.ym) hM hj ((hm 5).trans hdy) hd4 hs (x := nI a) (z := nI v) (by rw [noteM (by simp), upM_n _ (by simp)]; exact e2) h1 h9
    rw [hmin, ← hp] at hcm
    refine ⟨3, _, hcm, by omega, ?_⟩
    rintro r S' I' L2 R' ⟨v, rfl, rfl, rfl, rfl, rfl, rfl⟩
    refine ⟨rfl, rfl, rfl, n, m, c, b, g, ?_⟩
    have hX := chg_x (I := I) (tx := (12, j)) (ix := s) (d := d) (w := nI j) (s := nI s) (idx := 23 + 12 * j + s) (a := a) (b := p)
    have hY := chg_y (I := I) (tx := (12, j)) (ix := s) (d := d) (w := nI j) (s := nI s) (idx := 23 + 12 * j + s) (a := a) (b := p) (by simp)
    have hx0 := chg_xv (I := I) (tx := (12, j)) (ix := s) (d := d) (w := nI j) (s := nI s) (idx := 23 + 12 * j + s) (a := a) (b := p) (by simp)
    have hy0 := chg_yv (I := I) (tx := (12, j)) (ix := s) (d := d) (w := nI j) (s := nI s) (idx := 23 + 12 * j + s) (a := a) (b := p) (by simp) e2
    have hch := chg_ch (tx := (12, j)) (ix := s) (w := nI j) (s := nI s) (idx := 23 + 12 * j + s) (lim := 99999) (a := a) (b := p) (by simp) k.ch hd hd4 (by omega) (Or.inr (Or.inr ⟨j, s, hj, hs, rfl, rfl, rfl, rfl⟩)) ha hp9
    show K2 xs (q + 1) n m c b _ _ (chgI I (12, j) s d (nI j) (nI s) (23 + 12 * j + s) a p) (chgI I (12, j) s d (nI j) (nI s) (23 + 12 * j + s) a p) _ _
    generalize chgI I (12, j) s d (nI j) (nI s) (23 + 12 * j + s) a p = F at *
    have hwj : WB j (q + 1) n c R' F F := by
      obtain ⟨⟨a3, a4, a6, a7⟩, a5, ⟨a8, b8⟩, hcc, hl⟩ := wa
      refine ⟨lj, ke, w1, w2, ?_, ?_, by omega, ⟨⟨?_, ?_, ?_, ?_⟩, ?_, ⟨?_, ?_⟩, fun s' hs' => ?_, fun t ht => ?_⟩, ?_, ?_⟩
      · rw [hX _ _ (by simp) (by simp)]; exact w3
      · rw [hY _ _ (by simp) (by simp)]; exact w4
      · rw [hX _ _ (by simp) (by simp), hY _ _ (by simp) (by simp)]; exact a3
      · rw [hX _ _ (by simp) (by simp), hX _ _ (by simp) (by simp), hY _ _ (by simp) (by simp)]; exact a4
      · rw [hX _ _ (by simp) (by simp), hY _ _ (by simp) (by simp)]; exact a6
      · rw [hX _ _ (by simp) (by simp), hY _ _ (by simp) (by simp)]; exact a7
      · rw [hX _ _ (by simp) (by simp), hY _ _ (by simp) (by simp; omega)]; exact a5
      · rw [hX _ _ (by simp) (by simp)]; exact a8
      · rw [hY _ _ (by simp) (by simp)]; exact b8
      · by_cases e : s' = s
        · subst e
          exact ⟨p, hp9, hx0, hy0⟩
        · rw [hX _ _ (by simp) (by simp [e]), hY _ _ (by simp) (by simp; omega)]; exact hcc s' hs'
      · rw [hX _ _ (by simp) (by simp), hY _ _ (by simp) (by simp)]; exact hl t ht
      · rw [hX _ _ (by simp) (by simp), hY _ _ (by simp) (by simp)]; exact w6
      · rw [hX _ _ (by simp) (by simp), hY _ _ (by simp) (by simp)]; exact w7
    exact K2.mk (hN := k.hN) (hM := k.hM) (hC := k.hC) (hB := k.hB) (hq := (by omega)) (xn := ((hX _ _ (by first | (simp; done) | (simp; omega)) (by first | (simp; done) | (simp; omega))).trans k.xn)) (xm := ((hX _ _ (by first | (simp; done) | (simp; omega)) (by first | (simp; done) | (simp; omega))).trans k.xm)) (xc := ((hX _ _ (by first | (simp; done) | (simp; omega)) (by first | (simp; done) | (simp; omega))).trans k.xc)) (yn := ((hY _ _ (by first | (simp; done) | (simp; omega)) (by first | (simp; done) | (simp; omega))).trans k.yn)) (ym := ((hY _ _ (by first | (simp; done) | (simp; omega)) (by first | (simp; done) | (simp; omega))).trans k.ym)) (yc := ((hY _ _ (by first | (simp; done) | (simp; omega)) (by first | (simp; done) | (simp; omega))).trans k.yc)) (st := (st_to k.st (fun i => (hX _ _ (by first | (simp; done) | (simp; omega)) (by first | (simp; done) | (simp; omega)))))) (at_ := (at_to k.at_ (fun i => (hX _ _ (by first | (simp; done) | (simp; omega)) (by first | (simp; done) | (simp; omega)))) (fun i => (hX _ _ (by first | (simp; done) | (simp; omega)) (by first | (simp; done) | (simp; omega)))))) (so := (k.so.to k.hN (fun i hi => (hX _ _ (by first | (simp; done) | (simp; omega)) (by first | (simp; done) | (simp; omega)))) (fun i hi => (hY _ _ (by first | (simp; done) | (simp; omega)) (by first | (simp; done) | (simp; omega)))))) (tp := (k.tp.to (hX _ _ (by first | (simp; done) | (simp; omega)) (by first | (simp; done) | (simp; omega))) (fun i => (hX _ _ (by first | (simp; done) | (simp; omega)) (by first | (simp; done) | (simp; omega)))) (hY _ _ (by first | (simp; done) | (simp; omega)) (by first | (simp; done) | (simp; omega))) (fun i => (hY _ _ (by first | (simp; done) | (simp; omega)) (by first | (simp; done) | (simp; omega)))))) (ch := hch) (ac := (k.ac.to (hX _ _ (by first | (simp; done) | (simp; omega)) (by first | (simp; done) | (simp; omega))) (hX _ _ (by first | (simp; done) | (simp; omega)) (by first | (simp; done) | (simp; omega))) (fun i => (hX _ _ (by first | (simp; done) | (simp; omega)) (by first | (simp; done) | (simp; omega)))) (fun i => (hX _ _ (by first | (simp; done) | (simp; omega)) (by first | (simp; done) | (simp; omega)))) (hY _ _ (by first | (simp; done) | (simp; omega)) (by first | (simp; done) | (simp; omega))) (hY _ _ (by first | (simp; done) | (simp; omega)) (by first | (simp; done) | (simp; omega))) (fun i => (hY _ _ (by first | (simp; done) | (simp; omega)) (by first | (simp; done) | (simp; omega)))) (fun i => (hY _ _ (by first | (simp; done) | (simp; omega)) (by first | (simp; done) | (simp; omega)))))) (sh := (fun d hd => (k.sh d hd).to (Nat.le_refl _) k.hB (fun i => (hX _ _ (by first | (simp; done) | (simp; omega)) (by first | (simp; done) | (simp; omega)))) (hY _ _ (by first | (simp; done) | (simp; omega)) (by first | (simp; done) | (simp; omega))) (hY _ _ (by first | (simp; done) | (simp; omega)) (by first | (simp; done) | (simp; omega))) (fun i => rfl) (fun i _ => rfl))) (lw := (fun j hj => (k.lw j hj).to (fun _ z => z) (fun i => (hX _ _ (by first | (simp; done) | (simp; omega)) (by first | (simp; done) | (simp; omega)))) (fun i _ _ => (hY _ _ (by first | (simp; done) | (simp; omega)) (by first | (simp; done) | (simp; omega)))) (hY _ _ (by first | (simp; done) | (simp; omega)) (by first | (simp; done) | (simp; omega))))) (wb := (fun k2 hk2 => by
      by_cases e : k2 = j
      · subst e
        exact hwj
      · exact (k.wb k2 hk2).to (by omega) (Nat.le_refl _) (Nat.le_refl _) rfl (fun i => hX _ _ (by simp) (by simp [e])) (fun i => hX _ _ (by simp) (by simp [e])) (fun i => hX _ _ (by simp) (by simp [e])) (fun t i z => hY _ _ (by show 40 ≤ t; omega) (by simp; omega)))) (fs := (fun j h1 h2 => (hY _ _ (by first | (simp; done) | (simp; omega)) (by first | (simp; done) | (simp; omega))).trans (k.fs j h1 h2))) (sc := (fun i => (hY _ _ (by first | (simp; done) | (simp; omega)) (by first | (simp; done) | (simp; omega))).trans (k.sc i)))

theorem s_shop (l : Launch) {Ls : Nat} {xs : Nat → Int32} {q n m c b : Nat} {S : Shp} {I : MI} {L : ML} {R : MR} (g : KG Ls m c S R) (k : K2 xs q n m c b S R I I L L) (hq : q < 600) (x y : Int32) : Sr l wI mX8_shop mX9_shop [.inl x, .inl y] Ls xs q S I L R := by
  have hN := k.hN
  have hM := k.hM
  have hC := k.hC
  cases hx : inb x m with
  | false => exact sr1 g k hq (-1) (c_shopN l g.xg k.xm hx y) (by omega) (qIp rfl) (fun J hJ k1 => ⟨_, _, c_mShopN l g.mg k1.ym hM (Or.inl hx), by omega, qIp rfl⟩)
  | true =>
    obtain ⟨j, hj, rfl⟩ := inb_of (by omega) hx
    have hc := c_shopS l (I := I) (S := S) (L := L) (R := R) g.xg g.sg k.xn hN k.xm hj hM (g.rw j hj) (g.wg j hj) y
    by_cases h0 : y < 0
    · rw [if_pos (Or.inl h0), if_pos (Or.inl h0)] at hc
      exact sr1 g k hq (-1) hc (by omega) (qIp rfl) (fun J hJ k1 => ⟨_, _, c_mShopN l g.mg k1.ym hM (Or.inr (Or.inl h0)), by omega, qIp rfl⟩)
    by_cases h9 : nI 9 < y
    · rw [if_pos (Or.inr h9), if_pos (Or.inr h9)] at hc
      exact sr1 g k hq (-1) hc (by omega) (qIp rfl) (fun J hJ k1 => ⟨_, _, c_mShopN l g.mg k1.ym hM (Or.inr (Or.inr h9)), by omega, qIp rfl⟩)
    have hno : ¬ (y < 0 ∨ nI 9 < y) := fun z => z.elim h0 h9
    rw [if_neg hno, if_neg hno] at hc
    obtain ⟨lj, ke, w1, w2, w3, w4, w5, wa, w6, w7⟩ := k.wb j hj
    refine sr2 (I (11, j) 9) (fun J L' => J = upM I (11, j) 9 y ∧ L' = L) hc (by omega) (by rintro r S' I' L' R' ⟨v, rfl, rfl, rfl, rfl, rfl, rfl⟩; exact ⟨rfl, rfl, rfl, rfl, rfl⟩) ?_
    rintro J L' ⟨rfl, rfl⟩
    refine ⟨3, _, c_mShopS l g.mg (by rw [upM_n _ (by simp)]; exact k.ym) hM hj (x := I (11, j) 9) (by rw [upM_n _ (by simp)]; exact w6.symm) h0 h9, by omega, ?_⟩
    rintro r S' I' L2 R' ⟨v, rfl, rfl, rfl, rfl, rfl, rfl⟩
    refine ⟨rfl, rfl, rfl, n, m, c, b, g, ?_⟩
    have hX : ∀ t i, t.1 < 40 → ¬ (t = (11, j) ∧ i = 9) → upM (upM I (11, j) 9 y) (82, 0) j y t i = I t i := fun t i ht hw => by
      rw [upM_n _ (fun z => by rw [z] at ht; simp at ht)]
      exact if_neg hw
    have hY : ∀ t i, 40 ≤ t.1 → ¬ (t = (82, 0) ∧ i = j) → upM (upM I (11, j) 9 y) (82, 0) j y t i = I t i := fun t i ht hw => by
      rw [show upM _ (82, 0) j y t i = _ from if_neg hw, upM_n _ (fun z => by rw [z] at ht; simp at ht)]
    have hx0 : upM (upM I (11, j) 9 y) (82, 0) j y (11, j) 9 = y := by rw [upM_n _ (by simp), upM_s]
    have hy0 : upM (upM I (11, j) 9 y) (82, 0) j y (82, 0) j = y := upM_s _ _ _ _
    generalize upM (upM I (11, j) 9 y) (82, 0) j y = F at *
    have hwj : WB j (q + 1) n c R' F F := by
      refine ⟨lj, ke, w1, w2, ?_, ?_, by omega, wa.to (fun i h1 h2 => hX _ _ (by simp) (by simp; omega)) (fun i => hX _ _ (by simp) (by simp)) (fun i => hX _ _ (by simp) (by simp)) (fun t i z => hY _ _ (by show 40 ≤ t; omega) (by simp; omega)), hx0.trans hy0.symm, ?_⟩
      · rw [hX _ _ (by simp) (by simp)]; exact w3
      · rw [hY _ _ (by simp) (by simp)]; exact w4
      · rw [hX _ _ (by simp) (by simp), hY _ _ (by simp) (by simp)]; exact w7
    exact K2.mk (hN := k.hN) (hM := k.hM) (hC := k.hC) (hB := k.hB) (hq := (by omega)) (xn := ((hX _ _ (by first | (simp; done) | (simp; omega)) (by first | (simp; done) | (simp; omega))).trans k.xn)) (xm := ((hX _ _ (by first | (simp; done) | (simp; omega)) (by first | (simp; done) | (simp; omega))).trans k.xm)) (xc := ((hX _ _ (by first | (simp; done) | (simp; omega)) (by first | (simp; done) | (simp; omega))).trans k.xc)) (yn := ((hY _ _ (by first | (simp; done) | (simp; omega)) (by first | (simp; done) | (simp; omega))).trans k.yn)) (ym := ((hY _ _ (by first | (simp; done) | (simp; omega)) (by first | (simp; done) | (simp; omega))).trans k.ym)) (yc := ((hY _ _ (by first | (simp; done) | (simp; omega)) (by first | (simp; done) | (simp; omega))).trans k.yc)) (st := (st_to k.st (fun i => (hX _ _ (by first | (simp; done) | (simp; omega)) (by first | (simp; done) | (simp; omega)))))) (at_ := (at_to k.at_ (fun i => (hX _ _ (by first | (simp; done) | (simp; omega)) (by first | (simp; done) | (simp; omega)))) (fun i => (hX _ _ (by first | (simp; done) | (simp; omega)) (by first | (simp; done) | (simp; omega)))))) (so := (k.so.to k.hN (fun i hi => (hX _ _ (by first | (simp; done) | (simp; omega)) (by first | (simp; done) | (simp; omega)))) (fun i hi => (hY _ _ (by first | (simp; done) | (simp; omega)) (by first | (simp; done) | (simp; omega)))))) (tp := (k.tp.to (hX _ _ (by first | (simp; done) | (simp; omega)) (by first | (simp; done) | (simp; omega))) (fun i => (hX _ _ (by first | (simp; done) | (simp; omega)) (by first | (simp; done) | (simp; omega)))) (hY _ _ (by first | (simp; done) | (simp; omega)) (by first | (simp; done) | (simp; omega))) (fun i => (hY _ _ (by first | (simp; done) | (simp; omega)) (by first | (simp; done) | (simp; omega)))))) (ch := ((k.ch.to (fun t i h1 h2 => (hX _ _ (by first | (simp; done) | (simp; omega)) (by first | (simp; done) | (simp; omega)))) (hY _ _ (by first | (simp; done) | (simp; omega)) (by first | (simp; done) | (simp; omega))) (hY _ _ (by first | (simp; done) | (simp; omega)) (by first | (simp; done) | (simp; omega))) (fun t i h1 h2 => (hY _ _ (by first | (simp; done) | (simp; omega)) (by first | (simp; done) | (simp; omega))))).mono (Nat.le_refl _) (Nat.le_refl _))) (ac := (k.ac.to (hX _ _ (by first | (simp; done) | (simp; omega)) (by first | (simp; done) | (simp; omega))) (hX _ _ (by first | (simp; done) | (simp; omega)) (by first | (simp; done) | (simp; omega))) (fun i => (hX _ _ (by first | (simp; done) | (simp; omega)) (by first | (simp; done) | (simp; omega)))) (fun i => (hX _ _ (by first | (simp; done) | (simp; omega)) (by first | (simp; done) | (simp; omega)))) (hY _ _ (by first | (simp; done) | (simp; omega)) (by first | (simp; done) | (simp; omega))) (hY _ _ (by first | (simp; done) | (simp; omega)) (by first | (simp; done) | (simp; omega))) (fun i => (hY _ _ (by first | (simp; done) | (simp; omega)) (by first | (simp; done) | (simp; omega)))) (fun i => (hY _ _ (by first | (simp; done) | (simp; omega)) (by first | (simp; done) | (simp; omega)))))) (sh := (fun d hd => (k.sh d hd).to (Nat.le_refl _) k.hB (fun i => (hX _ _ (by first | (simp; done) | (simp; omega)) (by first | (simp; done) | (simp; omega)))) (hY _ _ (by first | (simp; done) | (simp; omega)) (by first | (simp; done) | (simp; omega))) (hY _ _ (by first | (simp; done) | (simp; omega)) (by first | (simp; done) | (simp; omega))) (fun i => rfl) (fun i _ => rfl))) (lw := (fun j hj => (k.lw j hj).to (fun _ z => z) (fun i => (hX _ _ (by first | (simp; done) | (simp; omega)) (by first | (simp; done) | (simp; omega)))) (fun i _ _ => (hY _ _ (by first | (simp; done) | (simp; omega)) (by first | (simp; done) | (simp; omega)))) (hY _ _ (by first | (simp; done) | (simp; omega)) (by first | (simp; done) | (simp; omega))))) (wb := (fun k2 hk2 => by
      by_cases e : k2 = j
      · subst e
        exact hwj
      · exact (k.wb k2 hk2).to (by omega) (Nat.le_refl _) (Nat.le_refl _) rfl (fun i => hX _ _ (by simp) (by simp [e])) (fun i => hX _ _ (by simp) (by simp [e])) (fun i => hX _ _ (by simp) (by simp [e])) (fun t i z => hY _ _ (by show 40 ≤ t; omega) (by simp; omega)))) (fs := (fun j h1 h2 => (hY _ _ (by first | (simp; done) | (simp; omega)) (by first | (simp; done) | (simp; omega))).trans (k.fs j h1 h2))) (sc := (fun i => (hY _ _ (by first | (simp; done) | (simp; omega)) (by first | (simp; done) | (simp; omega))).trans (k.sc i)))
