/-! the calls that write: feed, row -/

theorem feB_lt {B : Nat → Nat} {len : Nat} {v : Int32} (h : ∀ i, i < len → B i < 256) : ∀ i, feB B len v i < 256 := fun i => by
  unfold feB
  split
  · exact h i (by assumption)
  · exact (byN_eq _ _).1
theorem s_feed (l : Launch) {Ls : Nat} {xs : Nat → Int32} {q n m c b : Nat} {S : Shp} {I : MI} {L : ML} {R : MR} (g : KG Ls m c S R) (k : K2 xs q n m c b S R I I L L) (hq : q < 600) (x y : Int32) : Sr l wI mX8_feed mX9_feed [.inl x, .inl y] Ls xs q S I L R := by
  have hN := k.hN
  have hM := k.hM
  have hC := k.hC
  by_cases h1 : x < nI 1
  · exact sr1 g k hq (-1) (c_feedB l g.xg (Or.inl h1)) (by omega) (qIp rfl) (fun J hJ k1 => ⟨_, _, c_mFeedB l g.mg (Or.inl h1) y, by omega, qIp rfl⟩)
  by_cases h4 : nI 4 < x
  · exact sr1 g k hq (-1) (c_feedB l g.xg (Or.inr h4)) (by omega) (qIp rfl) (fun J hJ k1 => ⟨_, _, c_mFeedB l g.mg (Or.inr h4) y, by omega, qIp rfl⟩)
  have h0 : ¬ x < 0 := fun q => h1 (Int32.lt_trans q (by decide))
  obtain ⟨a, ha', rfl⟩ := nI_of h0
  have ha : 1 ≤ a ∧ a ≤ 4 := by
    rw [nI_ltI ha' (by omega)] at h1
    rw [nI_ltI (by omega) ha'] at h4
    omega
  obtain ⟨len, Bt, hlen, hB, t1, t2, t3, t4⟩ := k.tp
  by_cases hf : 120 < len + a
  · exact sr1 g k hq (-3) (c_feedF l g.xg g.tg t1 hlen y ha hf) (by omega) (qIp rfl) (fun J hJ k1 => ⟨_, _, c_mFeedF l g.mg ((hJ 40 _ (by omega)).trans t3) hlen y ha hf, by omega, qIp rfl⟩)
  refine sr2 (nI (len + a)) (fun J L' => (J (3, 0) 1 = nI (len + a) ∧ (∀ q, q < len + a → J (4, 0) q = nI (feB Bt len y q)) ∧ Fr feP I J) ∧ L' = L) (c_feedS l g.xg g.tg t1 hlen t2 y ha (by omega)) (by omega) (by rintro r S' I' L' R' ⟨v, rfl, rfl, rfl, rfl, rfl, hh⟩; exact ⟨rfl, rfl, rfl, hh, rfl⟩) ?_
  rintro J L' ⟨⟨j1, j2, jf⟩, rfl⟩
  have jm : ∀ t i, 40 ≤ t.1 → J t i = I t i := fun t i ht => jf t i (fun z => by
    unfold feP at z
    rcases z with ⟨rfl, z⟩ | rfl <;> simp at ht)
  refine ⟨2, _, c_mFeedS l g.mg ((jm _ _ (by simp)).trans t3) hlen y ha (B := Bt) (fun q hq => (jm _ _ (by simp)).trans (t4 q hq)) (by omega), by omega, ?_⟩
  rintro r S' F L2 R' ⟨v, rfl, rfl, rfl, rfl, rfl, f1, f2, ff⟩
  refine ⟨rfl, rfl, rfl, n, m, c, b, g, ?_⟩
  have hFJ : ∀ t i, t.1 < 40 → F t i = J t i := fun t i ht => ff t i (fun z => by
    unfold mfP at z
    rcases z with ⟨rfl, z⟩ | rfl <;> simp at ht)
  have hX : ∀ t i, t.1 < 40 → ¬ ((t = (3, 0) ∧ i = 1) ∨ t = (4, 0)) → F t i = I t i := fun t i ht q => (hFJ t i ht).trans (jf t i q)
  have hY : ∀ t i, 40 ≤ t.1 → ¬ ((t = (40, 0) ∧ i = 8) ∨ t = (57, 0)) → F t i = I t i := fun t i ht q => (ff t i q).trans (jm t i ht)
  have htp : TP F F := ⟨len + a, feB Bt len y, by omega, fun i _ => feB_lt hB i, (hFJ _ _ (by simp)).trans j1, fun i hi => (hFJ _ _ (by simp)).trans (j2 i hi), f1, f2⟩
  exact K2.mk (hN := k.hN) (hM := k.hM) (hC := k.hC) (hB := k.hB) (hq := (by omega)) (xn := ((hX _ _ (by first | (simp; done) | (simp; omega)) (by first | (simp; done) | (simp; omega))).trans k.xn)) (xm := ((hX _ _ (by first | (simp; done) | (simp; omega)) (by first | (simp; done) | (simp; omega))).trans k.xm)) (xc := ((hX _ _ (by first | (simp; done) | (simp; omega)) (by first | (simp; done) | (simp; omega))).trans k.xc)) (yn := ((hY _ _ (by first | (simp; done) | (simp; omega)) (by first | (simp; done) | (simp; omega))).trans k.yn)) (ym := ((hY _ _ (by first | (simp; done) | (simp; omega)) (by first | (simp; done) | (simp; omega))).trans k.ym)) (yc := ((hY _ _ (by first | (simp; done) | (simp; omega)) (by first | (simp; done) | (simp; omega))).trans k.yc)) (st := (st_to k.st (fun i => (hX _ _ (by first | (simp; done) | (simp; omega)) (by first | (simp; done) | (simp; omega)))))) (at_ := (at_to k.at_ (fun i => (hX _ _ (by first | (simp; done) | (simp; omega)) (by first | (simp; done) | (simp; omega)))) (fun i => (hX _ _ (by first | (simp; done) | (simp; omega)) (by first | (simp; done) | (simp; omega)))))) (so := (k.so.to k.hN (fun i hi => (hX _ _ (by first | (simp; done) | (simp; omega)) (by first | (simp; done) | (simp; omega)))) (fun i hi => (hY _ _ (by first | (simp; done) | (simp; omega)) (by first | (simp; done) | (simp; omega)))))) (tp := htp) (ch := ((k.ch.to (fun t i h1 h2 => (hX _ _ (by first | (simp; done) | (simp; omega)) (by first | (simp; done) | (simp; omega)))) (hY _ _ (by first | (simp; done) | (simp; omega)) (by first | (simp; done) | (simp; omega))) (hY _ _ (by first | (simp; done) | (simp; omega)) (by first | (simp; done) | (simp; omega))) (fun t i h1 h2 => (hY _ _ (by first | (simp; done) | (simp; omega)) (by first | (simp; done) | (simp; omega))))).mono (Nat.le_refl _) (Nat.le_refl _))) (ac := (k.ac.to (hX _ _ (by first | (simp; done) | (simp; omega)) (by first | (simp; done) | (simp; omega))) (hX _ _ (by first | (simp; done) | (simp; omega)) (by first | (simp; done) | (simp; omega))) (fun i => (hX _ _ (by first | (simp; done) | (simp; omega)) (by first | (simp; done) | (simp; omega)))) (fun i => (hX _ _ (by first | (simp; done) | (simp; omega)) (by first | (simp; done) | (simp; omega)))) (hY _ _ (by first | (simp; done) | (simp; omega)) (by first | (simp; done) | (simp; omega))) (hY _ _ (by first | (simp; done) | (simp; omega)) (by first | (simp; done) | (simp; omega))) (fun i => (hY _ _ (by first | (simp; done) | (simp; omega)) (by first | (simp; done) | (simp; omega)))) (fun i => (hY _ _ (by first | (simp; done) | (simp; omega)) (by first | (simp; done) | (simp; omega)))))) (sh := (fun d hd => (k.sh d hd).to (Nat.le_refl _) k.hB (fun i => (hX _ _ (by first | (simp; done) | (simp; omega)) (by first | (simp; done) | (simp; omega)))) (hY _ _ (by first | (simp; done) | (simp; omega)) (by first | (simp; done) | (simp; omega))) (hY _ _ (by first | (simp; done) | (simp; omega)) (by first | (simp; done) | (simp; omega))) (fun i => rfl) (fun i _ => rfl))) (lw := (fun j hj => (k.lw j hj).to (fun _ z => z) (fun i => (hX _ _ (by first | (simp; done) | (simp; omega)) (by first | (simp; done) | (simp; omega)))) (fun i _ _ => (hY _ _ (by first | (simp; done) | (simp; omega)) (by first | (simp; done) | (simp; omega)))) (hY _ _ (by first | (simp; done) | (simp; omega)) (by first | (simp; done) | (simp; omega))))) (wb := (fun j hj => (k.wb j hj).to (by omega) (Nat.le_refl _) (Nat.le_refl _) rfl (fun i => (hX _ _ (by first | (simp; done) | (simp; omega)) (by first | (simp; done) | (simp; omega)))) (fun i => (hX _ _ (by first | (simp; done) | (simp; omega)) (by first | (simp; done) | (simp; omega)))) (fun i => (hX _ _ (by first | (simp; done) | (simp; omega)) (by first | (simp; done) | (simp; omega)))) (fun t i z => (hY _ _ (by first | (simp; done) | (simp; omega)) (by first | (simp; done) | (simp; omega)))))) (fs := (fun j h1 h2 => (hY _ _ (by first | (simp; done) | (simp; omega)) (by first | (simp; done) | (simp; omega))).trans (k.fs j h1 h2))) (sc := (fun i => (hY _ _ (by first | (simp; done) | (simp; omega)) (by first | (simp; done) | (simp; omega))).trans (k.sc i)))

theorem s_row (l : Launch) {Ls : Nat} {xs : Nat → Int32} {q n m c b : Nat} {S : Shp} {I : MI} {L : ML} {R : MR} (g : KG Ls m c S R) (k : K2 xs q n m c b S R I I L L) (hq : q < 600) (x y z : Int32) : Sr l wI mX8_row mX9_row [.inl x, .inl y, .inl z] Ls xs q S I L R := by
  have hN := k.hN
  have hM := k.hM
  have hC := k.hC
  cases hx : inb x 6 with
  | false => exact sr1 g k hq (-1) (c_rowN l g.xg hx y z) (by omega) (qIp rfl) (fun J hJ k1 => ⟨_, _, c_mRowB l g.mg (Or.inl hx), by omega, qIp rfl⟩)
  | true =>
    obtain ⟨d, hd6, rfl⟩ := inb_of (by omega) hx
    by_cases h0 : y < 0
    · exact sr1 g k hq (-1) (c_rowB l g.xg hd6 (xg_26 g.xg hd6) (g.dg d hd6) (Or.inl h0)) (by omega) (qIp rfl) (fun J hJ k1 => ⟨_, _, c_mRowB l g.mg (Or.inr (Or.inl (Or.inl h0))), by omega, qIp rfl⟩)
    by_cases h4 : nI 4 < y
    · exact sr1 g k hq (-1) (c_rowB l g.xg hd6 (xg_26 g.xg hd6) (g.dg d hd6) (Or.inr (Or.inl h4))) (by omega) (qIp rfl) (fun J hJ k1 => ⟨_, _, c_mRowB l g.mg (Or.inr (Or.inl (Or.inr h4))), by omega, qIp rfl⟩)
    by_cases h6 : nI 60 < z
    · exact sr1 g k hq (-1) (c_rowB l g.xg hd6 (xg_26 g.xg hd6) (g.dg d hd6) (Or.inr (Or.inr h6))) (by omega) (qIp rfl) (fun J hJ k1 => ⟨_, _, c_mRowB l g.mg (Or.inr (Or.inr h6)), by omega, qIp rfl⟩)
    have hno : ¬ (y < 0 ∨ nI 4 < y ∨ nI 60 < z) := fun q => by
      rcases q with q | q | q
      · exact h0 q
      · exact h4 q
      · exact h6 q
    obtain ⟨s, hs', rfl⟩ := nI_of h0
    have h4' := h4
    rw [nI_ltI (by omega) hs'] at h4'
    by_cases hz : z < 0
    · exact sr1 g k hq (-14) (c_rowM l g.xg hd6 (xg_26 g.xg hd6) (g.dg d hd6) hno hz) (by omega) (qIp rfl) (fun J hJ k1 => ⟨_, _, c_mRowM l g.mg hd6 (s := s) (by omega) hz, by omega, qIp rfl⟩)
    obtain ⟨v, hv', rfl⟩ := nI_of hz
    have h6' := h6
    rw [nI_ltI (by omega) hv'] at h6'
    obtain ⟨h, s0, z0, bd, hh3, hs4, hz6, e0, e1, e2, e3, hm, hb1, hL, hs0⟩ := k.sh d hd6
    refine sr2 (nI 1) (fun J L' => J = upM (upM (upM I (27, d) 0 (nI 2)) (27, d) 2 (nI s)) (27, d) 3 (nI v) ∧ L' = upT L (28, d) (filN 60 0 (L (28, d)))) (c_rowS l g.xg hd6 (xg_26 g.xg hd6) (g.dg d hd6) (s := s) (q := v) (by omega) (by omega)) (by omega) (by rintro r S' I' L' R' ⟨w, rfl, rfl, rfl, rfl, rfl, rfl⟩; exact ⟨rfl, rfl, rfl, rfl, rfl⟩) ?_
    rintro J L' ⟨hJ, hL'⟩
    have hJm : ∀ t i, 40 ≤ t.1 → J t i = I t i := fun t i ht => by
      rw [hJ, upM_n _ (fun z => by rw [z] at ht; simp at ht), upM_n _ (fun z => by rw [z] at ht; simp at ht), upM_n _ (fun z => by rw [z] at ht; simp at ht)]
    refine ⟨3, _, c_mRowS l g.mg hd6 (s := s) (q := v) (by omega) (by omega), by omega, ?_⟩
    rintro r S' I' L2 R' ⟨w, rfl, rfl, rfl, rfl, rfl, rfl⟩
    refine ⟨rfl, rfl, rfl, n, m, c, b, g, ?_⟩
    have hX : ∀ t i, t.1 < 40 → ¬ (t = (27, d) ∧ (i = 0 ∨ i = 2 ∨ i = 3)) → upM (upM J (91, 0) d (nI (50 + s))) (92, 0) d (nI v) t i = I t i := fun t i ht hw => by
      rw [upM_n _ (fun z => by rw [z] at ht; simp at ht), upM_n _ (fun z => by rw [z] at ht; simp at ht), hJ]
      rw [show upM _ (27, d) 3 _ t i = _ from if_neg (fun z => hw ⟨z.1, Or.inr (Or.inr z.2)⟩), show upM _ (27, d) 2 _ t i = _ from if_neg (fun z => hw ⟨z.1, Or.inr (Or.inl z.2)⟩), show upM _ (27, d) 0 _ t i = _ from if_neg (fun z => hw ⟨z.1, Or.inl z.2⟩)]
    have hY : ∀ t i, 40 ≤ t.1 → ¬ ((t = (91, 0) ∨ t = (92, 0)) ∧ i = d) → upM (upM J (91, 0) d (nI (50 + s))) (92, 0) d (nI v) t i = I t i := fun t i ht hw => by
      rw [show upM _ (92, 0) d _ t i = _ from if_neg (fun z => hw ⟨Or.inr z.1, z.2⟩), show upM _ (91, 0) d _ t i = _ from if_neg (fun z => hw ⟨Or.inl z.1, z.2⟩)]
      exact hJm t i ht
    have v0 : upM (upM J (91, 0) d (nI (50 + s))) (92, 0) d (nI v) (27, d) 0 = nI 2 := by rw [upM_n _ (by simp), upM_n _ (by simp), hJ, upM_k _ _ (by decide), upM_k _ _ (by decide), upM_s]
    have v2 : upM (upM J (91, 0) d (nI (50 + s))) (92, 0) d (nI v) (27, d) 2 = nI s := by rw [upM_n _ (by simp), upM_n _ (by simp), hJ, upM_k _ _ (by decide), upM_s]
    have v3 : upM (upM J (91, 0) d (nI (50 + s))) (92, 0) d (nI v) (27, d) 3 = nI v := by rw [upM_n _ (by simp), upM_n _ (by simp), hJ, upM_s]
    have v91 : upM (upM J (91, 0) d (nI (50 + s))) (92, 0) d (nI v) (91, 0) d = nI (50 + s) := by rw [upM_n _ (by simp), upM_s]
    have v92 : upM (upM J (91, 0) d (nI (50 + s))) (92, 0) d (nI v) (92, 0) d = nI v := upM_s _ _ _ _
    have hLX : ∀ d2, ¬ d2 = d → ∀ i, zrL L' d 60 (28, d2) i = L (28, d2) i := fun d2 e i => by
      unfold zrL
      rw [upT_n _ (by simp), hL', upT_n _ (by simp [e])]
    have hLM : ∀ d2, ¬ d2 = d → d2 < 6 → ∀ i, i < 60 → zrL L' d 60 (93, 0) (60 * d2 + i) = L (93, 0) (60 * d2 + i) := fun d2 e _ i hi => by
      unfold zrL
      rw [upT_s, if_neg (by omega), hL', upT_n _ (by simp)]
    have hLd : ∀ t, t < 60 → zrL L' d 60 (28, d) t = 0 ∧ zrL L' d 60 (93, 0) (60 * d + t) = 0 := fun t ht => by
      unfold zrL
      rw [upT_n _ (by simp), upT_s, hL', upT_s, if_pos (by omega)]
      exact ⟨if_pos ht, rfl⟩
    generalize upM (upM J (91, 0) d (nI (50 + s))) (92, 0) d (nI v) = F at *
    generalize zrL L' d 60 = L3 at *
    have hsd : SH d b F F L3 L3 := ⟨2, s, v, bd, by omega, by omega, by omega, v0, (hX _ _ (by simp) (by simp)).trans e1, v2, v3, ⟨by omega, fun q => absurd q (by omega), fun q => absurd q (by omega), fun _ => ⟨v91, v92⟩⟩, fun q => absurd q (by omega), fun t ht => (hLd t ht).1.trans (hLd t ht).2.symm, fun _ _ t ht => by rw [(hLd t ht).1]; decide⟩
    exact K2.mk (hN := k.hN) (hM := k.hM) (hC := k.hC) (hB := k.hB) (hq := (by omega)) (xn := ((hX _ _ (by first | (simp; done) | (simp; omega)) (by first | (simp; done) | (simp; omega))).trans k.xn)) (xm := ((hX _ _ (by first | (simp; done) | (simp; omega)) (by first | (simp; done) | (simp; omega))).trans k.xm)) (xc := ((hX _ _ (by first | (simp; done) | (simp; omega)) (by first | (simp; done) | (simp; omega))).trans k.xc)) (yn := ((hY _ _ (by first | (simp; done) | (simp; omega)) (by first | (simp; done) | (simp; omega))).trans k.yn)) (ym := ((hY _ _ (by first | (simp; done) | (simp; omega)) (by first | (simp; done) | (simp; omega))).trans k.ym)) (yc := ((hY _ _ (by first | (simp; done) | (simp; omega)) (by first | (simp; done) | (simp; omega))).trans k.yc)) (st := (st_to k.st (fun i => (hX _ _ (by first | (simp; done) | (simp; omega)) (by first | (simp; done) | (simp; omega)))))) (at_ := (at_to k.at_ (fun i => (hX _ _ (by first | (simp; done) | (simp; omega)) (by first | (simp; done) | (simp; omega)))) (fun i => (hX _ _ (by first | (simp; done) | (simp; omega)) (by first | (simp; done) | (simp; omega)))))) (so := (k.so.to k.hN (fun i hi => (hX _ _ (by first | (simp; done) | (simp; omega)) (by first | (simp; done) | (simp; omega)))) (fun i hi => (hY _ _ (by first | (simp; done) | (simp; omega)) (by first | (simp; done) | (simp; omega)))))) (tp := (k.tp.to (hX _ _ (by first | (simp; done) | (simp; omega)) (by first | (simp; done) | (simp; omega))) (fun i => (hX _ _ (by first | (simp; done) | (simp; omega)) (by first | (simp; done) | (simp; omega)))) (hY _ _ (by first | (simp; done) | (simp; omega)) (by first | (simp; done) | (simp; omega))) (fun i => (hY _ _ (by first | (simp; done) | (simp; omega)) (by first | (simp; done) | (simp; omega)))))) (ch := ((k.ch.to (fun t i h1 h2 => (hX _ _ (by first | (simp; done) | (simp; omega)) (by first | (simp; done) | (simp; omega)))) (hY _ _ (by first | (simp; done) | (simp; omega)) (by first | (simp; done) | (simp; omega))) (hY _ _ (by first | (simp; done) | (simp; omega)) (by first | (simp; done) | (simp; omega))) (fun t i h1 h2 => (hY _ _ (by first | (simp; done) | (simp; omega)) (by first | (simp; done) | (simp; omega))))).mono (Nat.le_refl _) (Nat.le_refl _))) (ac := (k.ac.to (hX _ _ (by first | (simp; done) | (simp; omega)) (by first | (simp; done) | (simp; omega))) (hX _ _ (by first | (simp; done) | (simp; omega)) (by first | (simp; done) | (simp; omega))) (fun i => (hX _ _ (by first | (simp; done) | (simp; omega)) (by first | (simp; done) | (simp; omega)))) (fun i => (hX _ _ (by first | (simp; done) | (simp; omega)) (by first | (simp; done) | (simp; omega)))) (hY _ _ (by first | (simp; done) | (simp; omega)) (by first | (simp; done) | (simp; omega))) (hY _ _ (by first | (simp; done) | (simp; omega)) (by first | (simp; done) | (simp; omega))) (fun i => (hY _ _ (by first | (simp; done) | (simp; omega)) (by first | (simp; done) | (simp; omega)))) (fun i => (hY _ _ (by first | (simp; done) | (simp; omega)) (by first | (simp; done) | (simp; omega)))))) (sh := (fun d2 hd2 => by
      by_cases e : d2 = d
      · subst e
        exact hsd
      · exact (k.sh d2 hd2).to (Nat.le_refl _) k.hB (fun i => hX _ _ (by simp) (by simp [e])) (hY _ _ (by simp) (by simp [e])) (hY _ _ (by simp) (by simp [e])) (hLX d2 e) (hLM d2 e hd2))) (lw := (fun j hj => (k.lw j hj).to (fun _ z => z) (fun i => (hX _ _ (by first | (simp; done) | (simp; omega)) (by first | (simp; done) | (simp; omega)))) (fun i _ _ => (hY _ _ (by first | (simp; done) | (simp; omega)) (by first | (simp; done) | (simp; omega)))) (hY _ _ (by first | (simp; done) | (simp; omega)) (by first | (simp; done) | (simp; omega))))) (wb := (fun j hj => (k.wb j hj).to (by omega) (Nat.le_refl _) (Nat.le_refl _) rfl (fun i => (hX _ _ (by first | (simp; done) | (simp; omega)) (by first | (simp; done) | (simp; omega)))) (fun i => (hX _ _ (by first | (simp; done) | (simp; omega)) (by first | (simp; done) | (simp; omega)))) (fun i => (hX _ _ (by first | (simp; done) | (simp; omega)) (by first | (simp; done) | (simp; omega)))) (fun t i z => (hY _ _ (by first | (simp; done) | (simp; omega)) (by first | (simp; done) | (simp; omega)))))) (fs := (fun j h1 h2 => (hY _ _ (by first | (simp; done) | (simp; omega)) (by first | (simp; done) | (simp; omega))).trans (k.fs j h1 h2))) (sc := (fun i => (hY _ _ (by first | (simp; done) | (simp; omega)) (by first | (simp; done) | (simp; omega))).trans (k.sc i)))
