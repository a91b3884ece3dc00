/-! the calls that write: put -/

theorem s_put (l : Launch) {Ls : Nat} {xs : Nat → Int32} {q n m c b : Nat} {S : Shp} {I : MI} {L : ML} {R : MR} (g : KG Ls m c S R) (k : K2 xs q n m c b S R I I L L) (hq : q < 600) (x y : Int32) (w : Int64) : Sr l wI mX8_put mX9_put [.inl x, .inl y, .inr (.inl w)] Ls xs q S I L R := by
  cases hx : inb x 6 with
  | false => exact sr1 g k hq (-1) (c_putN l g.xg hx y w) (by omega) (qIp rfl) (fun J hJ k1 => ⟨_, _, c_mPutN l g.mg hx y w, by omega, qIp rfl⟩)
  | true =>
    obtain ⟨d, hd6, rfl⟩ := inb_of (by omega) hx
    obtain ⟨h, s, z, bd, hh3, hs4, hz6, e0, e1, e2, e3, hm, hb1, hL, hs0⟩ := k.sh d hd6
    by_cases hr : rfV h z y = 0
    case neg => exact sr1 g k hq (rfV h z y) (c_putR l g.xg hd6 (xg_26 g.xg hd6) (g.dg d hd6) e0 hh3 e3 hz6 y w hr) (by omega) (qIp rfl) (fun J hJ k1 => ⟨_, _, c_mPutR l g.mg hd6 (hm.J hJ) hs4 hz6 w hr, by omega, qIp rfl⟩)
    have hhz : h = 2 ∧ inb y z = true := by
      unfold rfV at hr
      split at hr
      · exact absurd hr (by decide)
      · split at hr
        · split at hr
          · exact ⟨by assumption, by assumption⟩
          · exact absurd hr (by decide)
        · exact absurd hr (by decide)
    obtain ⟨rfl, hy⟩ := hhz
    obtain ⟨t, ht, rfl⟩ := inb_of (by omega) hy
    refine sr2 (nI 1) (fun J L' => J = I ∧ L' = upM L (28, d) t (lowI s w)) (c_putS l g.xg hd6 (xg_26 g.xg hd6) (g.dg d hd6) e0 e3 hz6 ht w e2 hs4) (by omega) (by rintro r S' I' L' R' ⟨u, rfl, rfl, rfl, rfl, rfl, rfl⟩; exact ⟨rfl, rfl, rfl, rfl, rfl⟩) ?_
    rintro J L' ⟨rfl, hL'⟩
    have hm2 := hm.2.2.2 rfl
    refine ⟨4, _, c_mPutS l g.mg hd6 hm2.1 hm2.2 hs4 hz6 ht w, by omega, ?_⟩
    rintro r S' F L2 R' ⟨u, rfl, rfl, rfl, rfl, rfl, rfl⟩
    refine ⟨rfl, rfl, rfl, n, m, c, b, g, ?_⟩
    have hX : ∀ t i, t.1 < 40 → ¬ False → F t i = F t i := fun _ _ _ _ => rfl
    have hY : ∀ t i, 40 ≤ t.1 → ¬ False → F t i = F t i := fun _ _ _ _ => rfl
    have hLX : ∀ d2, ¬ d2 = d → ∀ i, upM L' (93, 0) (60 * d + t) (lowI s w) (28, d2) i = L (28, d2) i := fun d2 e i => by
      rw [upM_n _ (by simp), hL', upM_n _ (by simp [e])]
    have hLM : ∀ d2, ¬ d2 = d → d2 < 6 → ∀ i, i < 60 → upM L' (93, 0) (60 * d + t) (lowI s w) (93, 0) (60 * d2 + i) = L (93, 0) (60 * d2 + i) := fun d2 e _ i hi => by
      rw [upM_k _ _ (by omega), hL', upM_n _ (by simp)]
    have ht60 : t < 60 := by omega
    have hLd : ∀ i, upM L' (93, 0) (60 * d + t) (lowI s w) (28, d) i = if i = t then lowI s w else L (28, d) i := fun i => by
      rw [upM_n _ (by simp), hL']
      by_cases e : i = t
      · rw [if_pos e, e, upM_s]
      · rw [if_neg e, upM_k _ _ e]
    have hLe : ∀ i, upM L' (93, 0) (60 * d + t) (lowI s w) (93, 0) (60 * d + i) = if i = t then lowI s w else L (93, 0) (60 * d + i) := fun i => by
      by_cases e : i = t
      · rw [if_pos e, e, upM_s]
      · rw [if_neg e, upM_k _ _ (by omega), hL', upM_n _ (by simp)]
    generalize upM L' (93, 0) (60 * d + t) (lowI s w) = L3 at *
    have hsd : SH d b F F L3 L3 := ⟨2, s, z, bd, by omega, hs4, hz6, e0, e1, e2, e3, hm, hb1, fun i hi => by
        rw [hLd, hLe]
        split
        · rfl
        · exact hL i hi, fun q1 q2 i hi => by
        rw [hLd]
        split
        · subst q2
          unfold lowI
          rw [if_pos rfl]
          simp
        · exact hs0 q1 q2 i hi⟩
    exact K2.mk (hN := k.hN) (hM := k.hM) (hC := k.hC) (hB := k.hB) (hq := (by omega)) (xn := ((hX _ _ (by first | (simp; done) | (simp; omega)) (by first | (simp; done) | (simp; omega))).trans k.xn)) (xm := ((hX _ _ (by first | (simp; done) | (simp; omega)) (by first | (simp; done) | (simp; omega))).trans k.xm)) (xc := ((hX _ _ (by first | (simp; done) | (simp; omega)) (by first | (simp; done) | (simp; omega))).trans k.xc)) (yn := ((hY _ _ (by first | (simp; done) | (simp; omega)) (by first | (simp; done) | (simp; omega))).trans k.yn)) (ym := ((hY _ _ (by first | (simp; done) | (simp; omega)) (by first | (simp; done) | (simp; omega))).trans k.ym)) (yc := ((hY _ _ (by first | (simp; done) | (simp; omega)) (by first | (simp; done) | (simp; omega))).trans k.yc)) (st := (st_to k.st (fun i => (hX _ _ (by first | (simp; done) | (simp; omega)) (by first | (simp; done) | (simp; omega)))))) (at_ := (at_to k.at_ (fun i => (hX _ _ (by first | (simp; done) | (simp; omega)) (by first | (simp; done) | (simp; omega)))) (fun i => (hX _ _ (by first | (simp; done) | (simp; omega)) (by first | (simp; done) | (simp; omega)))))) (so := (k.so.to k.hN (fun i hi => (hX _ _ (by first | (simp; done) | (simp; omega)) (by first | (simp; done) | (simp; omega)))) (fun i hi => (hY _ _ (by first | (simp; done) | (simp; omega)) (by first | (simp; done) | (simp; omega)))))) (tp := (k.tp.to (hX _ _ (by first | (simp; done) | (simp; omega)) (by first | (simp; done) | (simp; omega))) (fun i => (hX _ _ (by first | (simp; done) | (simp; omega)) (by first | (simp; done) | (simp; omega)))) (hY _ _ (by first | (simp; done) | (simp; omega)) (by first | (simp; done) | (simp; omega))) (fun i => (hY _ _ (by first | (simp; done) | (simp; omega)) (by first | (simp; done) | (simp; omega)))))) (ch := ((k.ch.to (fun t i h1 h2 => (hX _ _ (by first | (simp; done) | (simp; omega)) (by first | (simp; done) | (simp; omega)))) (hY _ _ (by first | (simp; done) | (simp; omega)) (by first | (simp; done) | (simp; omega))) (hY _ _ (by first | (simp; done) | (simp; omega)) (by first | (simp; done) | (simp; omega))) (fun t i h1 h2 => (hY _ _ (by first | (simp; done) | (simp; omega)) (by first | (simp; done) | (simp; omega))))).mono (Nat.le_refl _) (Nat.le_refl _))) (ac := (k.ac.to (hX _ _ (by first | (simp; done) | (simp; omega)) (by first | (simp; done) | (simp; omega))) (hX _ _ (by first | (simp; done) | (simp; omega)) (by first | (simp; done) | (simp; omega))) (fun i => (hX _ _ (by first | (simp; done) | (simp; omega)) (by first | (simp; done) | (simp; omega)))) (fun i => (hX _ _ (by first | (simp; done) | (simp; omega)) (by first | (simp; done) | (simp; omega)))) (hY _ _ (by first | (simp; done) | (simp; omega)) (by first | (simp; done) | (simp; omega))) (hY _ _ (by first | (simp; done) | (simp; omega)) (by first | (simp; done) | (simp; omega))) (fun i => (hY _ _ (by first | (simp; done) | (simp; omega)) (by first | (simp; done) | (simp; omega)))) (fun i => (hY _ _ (by first | (simp; done) | (simp; omega)) (by first | (simp; done) | (simp; omega)))))) (sh := (fun d2 hd2 => by
      by_cases e : d2 = d
      · subst e
        exact hsd
      · exact (k.sh d2 hd2).to (Nat.le_refl _) k.hB (fun i => hX _ _ (by simp) (by simp)) (hY _ _ (by simp) (by simp)) (hY _ _ (by simp) (by simp)) (hLX d2 e) (hLM d2 e hd2))) (lw := (fun j hj => (k.lw j hj).to (fun _ z => z) (fun i => (hX _ _ (by first | (simp; done) | (simp; omega)) (by first | (simp; done) | (simp; omega)))) (fun i _ _ => (hY _ _ (by first | (simp; done) | (simp; omega)) (by first | (simp; done) | (simp; omega)))) (hY _ _ (by first | (simp; done) | (simp; omega)) (by first | (simp; done) | (simp; omega))))) (wb := (fun j hj => (k.wb j hj).to (by omega) (Nat.le_refl _) (Nat.le_refl _) rfl (fun i => (hX _ _ (by first | (simp; done) | (simp; omega)) (by first | (simp; done) | (simp; omega)))) (fun i => (hX _ _ (by first | (simp; done) | (simp; omega)) (by first | (simp; done) | (simp; omega)))) (fun i => (hX _ _ (by first | (simp; done) | (simp; omega)) (by first | (simp; done) | (simp; omega)))) (fun t i z => (hY _ _ (by first | (simp; done) | (simp; omega)) (by first | (simp; done) | (simp; omega)))))) (fs := (fun j h1 h2 => (hY _ _ (by first | (simp; done) | (simp; omega)) (by first | (simp; done) | (simp; omega))).trans (k.fs j h1 h2))) (sc := (fun i => (hY _ _ (by first | (simp; done) | (simp; omega)) (by first | (simp; done) | (simp; omega))).trans (k.sc i)))
