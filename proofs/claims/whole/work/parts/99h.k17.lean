/-! redo on both sides -/

theorem s_redo (l : Launch) {Ls : Nat} {xs : Nat → Int32} {q n m c b : Nat} {S : Shp} {I : MI} {L : ML} {R : MR} (g : KG Ls m c S R) (k : K2 xs q n m c b S R I I L L) (hq : q < 600) : Sr l wI mX8_redo mX9_redo [] Ls xs q S I L R := by
  have hN := k.hN
  have hM := k.hM
  obtain ⟨d, z, a1, a2, a3, a4, a5, a6, hc⟩ := k.ch
  by_cases h0 : z ≤ d
  · have e : d = z := by omega
    exact sr1 g k hq (-5) (c_redoE l g.xg g.hg a3 a4 (by omega) a2 h0) (by omega) (qIp rfl) (fun J hJ k1 => ⟨_, _, c_mRedoE l g.mg ((hJ 40 _ (by omega)).trans a5) ((hJ 40 _ (by omega)).trans a6) a2 e, by omega, qIp rfl⟩)
  obtain ⟨idx, lim, a, bb, cx, y51, ha, hb, x21, y52, x22, y53⟩ := hc d (by omega)
  have hl := cx.lt hN hM
  have hcS := c_redoS l (S := S) (L := L) g.xg g.sg k.xn hN k.xm hM g.rw g.wg g.hg a3 a4 a2 (show d < z by omega)
  rw [x22] at hcS
  refine sr2 (nI (z - (d + 1))) (fun J L' => J = appI (upM I (18, 0) 4 (nI (d + 1))) n m (I (19, 0) d) (I (20, 0) d) (nI bb) ∧ L' = L) hcS (by omega) (by rintro r S' I' L' R' ⟨v, rfl, rfl, rfl, rfl, rfl, rfl⟩; exact ⟨rfl, rfl, rfl, rfl, rfl⟩) ?_
  rintro J L' ⟨hJ, rfl⟩
  have hJm : ∀ t i, 40 ≤ t.1 → J t i = I t i := fun t i ht => by
    rw [hJ, appI_o (by omega), upM_n _ (fun z => by rw [z] at ht; simp at ht)]
  have hcm := c_mRedoS l (S := S) (L := L') (R := R) g.mg (t := d) (z := z) (q := idx) ((hJm _ _ (by simp)).trans a5) ((hJm _ _ (by simp)).trans a6) a2 (by omega) ((hJm _ _ (by simp)).trans y51) hl
  rw [show J (53, 0) d = nI bb from (hJm _ _ (by simp)).trans y53] at hcm
  refine ⟨1, _, hcm, by omega, ?_⟩
  rintro r S' F L2 R' ⟨v, rfl, rfl, rfl, rfl, rfl, hF⟩
  refine ⟨rfl, rfl, rfl, n, m, c, b, g, ?_⟩
  have fx : ∀ t' i, t'.1 < 40 → F t' i = J t' i := fun t' i ht => by
    rw [hF, upM_n _ (fun z => by rw [z] at ht; simp at ht), upM_n _ (fun z => by rw [z] at ht; simp at ht)]
  have fy : ∀ t' i, 40 ≤ t'.1 → ¬ (t' = (40, 0) ∧ i = 5) → F t' i = upM I (50, 0) idx (nI bb) t' i := fun t' i ht hw => by
    rw [hF, show upM (upM J (50, 0) idx (nI bb)) (40, 0) 5 _ t' i = _ from if_neg hw]
    by_cases zz : t' = (50, 0) ∧ i = idx
    · rw [show upM J (50, 0) idx (nI bb) t' i = nI bb from if_pos zz, show upM I (50, 0) idx (nI bb) t' i = nI bb from if_pos zz]
    · rw [show upM J (50, 0) idx (nI bb) t' i = _ from if_neg zz, show upM I (50, 0) idx (nI bb) t' i = _ from if_neg zz]
      exact hJm t' i ht
  refine k.app hq cx hb (fun t' i ht hw => by rw [fx t' i ht, hJ, appI_u hw]) fy ?_
  refine ⟨d + 1, z, by omega, a2, ?_, ?_, ?_, ?_, fun t2 ht2 => ?_⟩
  · rw [fx _ _ (by simp), hJ, appI_o (by simp), upM_s]
  · rw [fx _ _ (by simp), hJ, appI_o (by simp), upM_k _ _ (by decide)]; exact a4
  · rw [hF, upM_s]
  · rw [fy _ _ (by simp) (by simp), upM_n _ (by simp)]; exact a6
  · have e : ∀ u, 18 ≤ u → u ≤ 22 → ¬ u = 18 → F (u, 0) t2 = I (u, 0) t2 := fun u h1 h2 h3 => by
      rw [fx _ _ (by show u < 40; omega), hJ, appI_o (by simp; omega), upM_n _ (by simp [h3])]
    have e2 : ∀ u, 51 ≤ u → u ≤ 53 → F (u, 0) t2 = I (u, 0) t2 := fun u h1 h2 => by
      rw [fy _ _ (by show 40 ≤ u; omega) (by simp; omega), upM_n _ (by simp; omega)]
    have := hc t2 ht2
    unfold CE at this ⊢
    rw [e 19 (by omega) (by omega) (by omega), e 20 (by omega) (by omega) (by omega), e 21 (by omega) (by omega) (by omega), e 22 (by omega) (by omega) (by omega), e2 51 (by omega) (by omega), e2 52 (by omega) (by omega), e2 53 (by omega) (by omega)]
    exact this
