/-! undo and redo on both sides -/

theorem appI_u {I : MI} {n m : Nat} {w s v x : Int32} {t : Tok} {i : Nat} (h : ¬ (t = (18, 0) ∧ i = 4)) : appI (upM I (18, 0) 4 x) n m w s v t i = appI I n m w s v t i := by
  have e : ∀ u j, upM (upM I (18, 0) 4 x) u j v t i = upM I u j v t i := fun u j => by
    by_cases z : t = u ∧ i = j
    · rw [show upM (upM I (18, 0) 4 x) u j v t i = v from if_pos z, show upM I u j v t i = v from if_pos z]
    · rw [show upM (upM I (18, 0) 4 x) u j v t i = _ from if_neg z, show upM I u j v t i = _ from if_neg z]
      exact if_neg h
  unfold appI
  split
  · split
    · exact e _ _
    · exact e _ _
  · split
    · exact e _ _
    · exact if_neg h
theorem appI_o {I : MI} {n m : Nat} {w s v : Int32} {t : Tok} {i : Nat} (h : ¬ (t.1 = 2 ∨ t.1 = 11 ∨ t.1 = 12)) : appI I n m w s v t i = I t i := by
  have e : ∀ (u : Tok) j, (u.1 = 2 ∨ u.1 = 11 ∨ u.1 = 12) → upM I u j v t i = I t i := fun u j hu => if_neg (fun z => h (by rw [z.1]; exact hu))
  unfold appI
  split
  · split
    · exact e _ _ (Or.inr (Or.inr rfl))
    · exact e _ _ (Or.inr (Or.inl rfl))
  · split
    · exact e _ _ (Or.inl rfl)
    · rfl
theorem CX.lt {n m : Nat} {w s : Int32} {idx lim : Nat} (hN : n ≤ 12) (hM : m ≤ 9) (h : CX n m w s idx lim) : idx < 155 := by
  rcases h with ⟨-, -, h, -⟩ | ⟨k, h, -, -, rfl, -⟩ | ⟨k, o, h, h2, -, -, rfl, -⟩ <;> omega
theorem s_undo (l : Launch) {Ls : Nat} {xs : Nat → Int32} {q n m c b : Nat} {S : Shp} {I : MI} {L : ML} {R : MR} (g : KG Ls m c S R) (k : K2 xs q n m c b S R I I L L) (hq : q < 600) : Sr l wI mX8_undo mX9_undo [] Ls xs q S I L R := by
  have hN := k.hN
  have hM := k.hM
  obtain ⟨d, z, a1, a2, a3, a4, a5, a6, hc⟩ := k.ch
  by_cases h0 : d = 0
  · subst h0
    exact sr1 g k hq (-5) (c_undoE l g.xg g.hg a3) (by omega) (qIp rfl) (fun J hJ k1 => ⟨_, _, c_mUndoE l g.mg ((hJ 40 _ (by omega)).trans a5), by omega, qIp rfl⟩)
  obtain ⟨t, rfl⟩ : ∃ t, d = t + 1 := ⟨d - 1, by omega⟩
  obtain ⟨idx, lim, a, bb, cx, y51, ha, hb, x21, y52, x22, y53⟩ := hc t (by omega)
  have hl := cx.lt hN hM
  have hcS := c_undoS l (S := S) (L := L) g.xg g.sg k.xn hN k.xm hM g.rw g.wg g.hg (show t < 40 by omega) a3
  rw [x21] at hcS
  refine sr2 (nI t) (fun J L' => J = appI (upM I (18, 0) 4 (nI t)) n m (I (19, 0) t) (I (20, 0) t) (nI a) ∧ L' = L) hcS (by omega) (by rintro r S' I' L' R' ⟨v, rfl, rfl, rfl, rfl, rfl, rfl⟩; exact ⟨rfl, rfl, rfl, rfl, rfl⟩) ?_
  rintro J L' ⟨hJ, rfl⟩
  have hJm : ∀ t i, 40 ≤ t.1 → J t i = I t i := fun t i ht => by
    rw [hJ, appI_o (by omega), upM_n _ (fun z => by rw [z] at ht; simp at ht)]
  have hcm := c_mUndoS l (S := S) (L := L') (R := R) g.mg (t := t) (q := idx) (by omega) ((hJm _ _ (by simp)).trans a5) ((hJm _ _ (by simp)).trans y51) hl
  rw [show J (52, 0) t = nI a from (hJm _ _ (by simp)).trans y52] at hcm
  refine ⟨1, _, hcm, by omega, ?_⟩
  rintro r S' F L2 R' ⟨v, rfl, rfl, rfl, rfl, rfl, hF⟩
  refine ⟨rfl, rfl, rfl, n, m, c, b, g, ?_⟩
  have fx : ∀ t' i, t'.1 < 40 → F t' i = J t' i := fun t' i ht => by
    rw [hF, upM_n _ (fun z => by rw [z] at ht; simp at ht), upM_n _ (fun z => by rw [z] at ht; simp at ht)]
  have fy : ∀ t' i, 40 ≤ t'.1 → ¬ (t' = (40, 0) ∧ i = 5) → F t' i = upM I (50, 0) idx (nI a) t' i := fun t' i ht hw => by
    rw [hF]
    by_cases z : t' = (50, 0) ∧ i = idx
    · rw [show upM _ (50, 0) idx (nI a) t' i = nI a from if_pos z, show upM _ (50, 0) idx (nI a) t' i = nI a from if_pos z]
    · rw [show upM (upM J (40, 0) 5 (nI t)) (50, 0) idx (nI a) t' i = _ from if_neg z, show upM I (50, 0) idx (nI a) t' i = _ from if_neg z, show upM J (40, 0) 5 (nI t) t' i = _ from if_neg hw]
      exact hJm t' i ht
  refine k.app hq cx ha (fun t' i ht hw => by rw [fx t' i ht, hJ, appI_u hw]) fy ?_
  refine ⟨t, z, by omega, a2, ?_, ?_, ?_, ?_, fun t2 ht2 => ?_⟩
  · rw [fx _ _ (by simp), hJ, appI_o (by simp), upM_s]
  · rw [fx _ _ (by simp), hJ, appI_o (by simp), upM_k _ _ (by decide)]; exact a4
  · rw [hF, upM_n _ (by simp), upM_s]
  · rw [fy _ _ (by simp) (by simp), upM_n _ (by simp)]; exact a6
  · have e : ∀ u, 18 ≤ u → u ≤ 22 → ¬ u = 18 → F (u, 0) t2 = I (u, 0) t2 := fun u h1 h2 h3 => by
      rw [fx _ _ (by show u < 40; omega), hJ, appI_o (by simp; omega), upM_n _ (by simp [h3])]
    have e2 : ∀ u, 51 ≤ u → u ≤ 53 → F (u, 0) t2 = I (u, 0) t2 := fun u h1 h2 => by
      rw [fy _ _ (by show 40 ≤ u; omega) (by simp; omega), upM_n _ (by simp; omega)]
    have := hc t2 ht2
    unfold CE at this ⊢
    rw [e 19 (by omega) (by omega) (by omega), e 20 (by omega) (by omega) (by omega), e 21 (by omega) (by omega) (by omega), e 22 (by omega) (by omega) (by omega), e2 51 (by omega) (by omega), e2 52 (by omega) (by omega), e2 53 (by omega) (by omega)]
    exact this
