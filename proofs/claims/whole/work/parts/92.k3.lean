/-! the calls, one by one: asking -/

theorem s_led (l : Launch) {Ls : Nat} {xs : Nat → Int32} {q n m c b : Nat} {S : Shp} {I : MI} {L : ML} {R : MR} (g : KG Ls m c S R) (k : K2 xs q n m c b S R I I L L) (hq : q < 600) (x y : Int32) : Sr l wI mX8_led mX9_led [.inl x, .inl y] Ls xs q S I L R := by
  have hN := k.hN
  have hM := k.hM
  have hC := k.hC
  cases hx : inb x m with
  | false =>
    exact sr1 g k hq (-1) (c_ledN l g.xg k.xm hx y) (by omega) (qIp rfl) (fun J hJ k1 => ⟨_, _, c_mLedN l g.mg k1.ym hM hx y, by omega, qIp rfl⟩)
  | true =>
    obtain ⟨j, hj, rfl⟩ := inb_of (by omega) hx
    obtain ⟨ke, hk0, hk9, h8, h74, w⟩ := k.ke hj
    cases hy : inb y (min ke 200) with
    | false =>
      exact sr1 g k hq (-1) (c_ledM l g.xg g.sg k.xn hN k.xm hj hM (g.rw j hj) (g.wg j hj) h8 (by omega) hy) (by omega) (qIp rfl) (fun J hJ k1 => ⟨_, _, c_mLedM l g.mg k1.ym hM hj ((hJ 74 _ (by omega)).trans h74) (by omega) hy, by omega, qIp rfl⟩)
    | true =>
      obtain ⟨t, ht, rfl⟩ := inb_of (by omega) hy
      obtain ⟨f, hf, h1, h2⟩ := w.2.2.2.2 t ht
      exact sr1 g k hq (nI f) (c_ledS l g.xg g.sg k.xn hN k.xm hj hM (g.rw j hj) (g.wg j hj) h8 (by omega) ht) (by omega) (qIp h1) (fun J hJ k1 => ⟨_, _, c_mLedS l g.mg k1.ym hM hj ((hJ 74 _ (by omega)).trans h74) (by omega) ht, by omega, qIp ((hJ 75 _ (by omega)).trans h2)⟩)

theorem s_unequal (l : Launch) {Ls : Nat} {xs : Nat → Int32} {q n m c b : Nat} {S : Shp} {I : MI} {L : ML} {R : MR} (g : KG Ls m c S R) (k : K2 xs q n m c b S R I I L L) (hq : q < 600) (x : Int32) : Sr l wI mX8_unequal mX9_unequal [.inl x] Ls xs q S I L R := by
  have hN := k.hN
  have hM := k.hM
  have hC := k.hC
  cases hx : inb x m with
  | false =>
    exact sr1 g k hq (-1) (c_unequalN l g.xg k.xm hx) (by omega) (qIp rfl) (fun J hJ k1 => ⟨_, _, c_mUnequalN l g.mg k1.ym hM hx, by omega, qIp rfl⟩)
  | true =>
    obtain ⟨j, hj, rfl⟩ := inb_of (by omega) hx
    exact sr1 g k hq (if n = 0 then 0 else ueI I n j / nI n) (c_unequalS l g.xg g.sg k.xn hN k.xm hj hM (g.rw j hj) (g.wg j hj)) (by omega) (qIp rfl) (fun J hJ k1 => ⟨_, _, c_mUnequalS l g.mg k1.yn hN k1.ym hM hj (fun o ho => (hJ 50 _ (by omega)).trans (k.ct hj (by omega))) (k.bd hj), by omega, qIp (by rw [ue_t]; rfl)⟩)

theorem s_unlike (l : Launch) {Ls : Nat} {xs : Nat → Int32} {q n m c b : Nat} {S : Shp} {I : MI} {L : ML} {R : MR} (g : KG Ls m c S R) (k : K2 xs q n m c b S R I I L L) (hq : q < 600) (x : Int32) : Sr l wI mX8_unlike mX9_unlike [.inl x] Ls xs q S I L R := by
  have hN := k.hN
  have hM := k.hM
  have hC := k.hC
  cases h1 : inb (x / nI 10) m with
  | false =>
    cases h2 : inb (x - x / nI 10 * nI 10) m with
    | false => exact sr1 g k hq (-1) (c_unlikeNN l g.xg k.xm hM g.rw g.wg h1 h2) (by omega) (qIp rfl) (fun J hJ k1 => ⟨_, _, c_mUnlikeB l g.mg k1.ym hM (Or.inr (Or.inl h1)), by omega, qIp rfl⟩)
    | true =>
      obtain ⟨j2, hj2, e2⟩ := inb_of (by omega) h2
      exact sr1 g k hq (-1) (c_unlikeNS l g.xg k.xm hM g.rw g.wg h1 e2 hj2) (by omega) (qIp rfl) (fun J hJ k1 => ⟨_, _, c_mUnlikeB l g.mg k1.ym hM (Or.inr (Or.inl h1)), by omega, qIp rfl⟩)
  | true =>
    obtain ⟨j1, hj1, e1⟩ := inb_of (by omega) h1
    cases h2 : inb (x - x / nI 10 * nI 10) m with
    | false => exact sr1 g k hq (-1) (c_unlikeSN l g.xg k.xm hM g.rw g.wg e1 hj1 h2) (by omega) (qIp rfl) (fun J hJ k1 => ⟨_, _, c_mUnlikeB l g.mg k1.ym hM (Or.inr (Or.inr (Or.inl h2))), by omega, qIp rfl⟩)
    | true =>
      obtain ⟨j2, hj2, e2⟩ := inb_of (by omega) h2
      by_cases he : j1 = j2
      · exact sr1 g k hq (-1) (c_unlikeE l g.xg k.xm hM g.rw g.wg e1 hj1 e2 hj2 he) (by omega) (qIp rfl) (fun J hJ k1 => ⟨_, _, c_mUnlikeB l g.mg k1.ym hM (Or.inr (Or.inr (Or.inr (e1.trans (by rw [he]; exact e2.symm))))), by omega, qIp rfl⟩)
      · exact sr1 g k hq (apI I n j1 j2) (c_unlikeS l g.xg g.sg k.xn hN k.xm hM g.rw g.wg e1 hj1 e2 hj2 he) (by omega) (qIp rfl) (fun J hJ k1 => ⟨_, _, c_mUnlikeS l g.mg k1.yn hN k1.ym hM e1 hj1 e2 hj2 he (fun o ho => (hJ 50 _ (by omega)).trans (k.ct hj1 (by omega))) (k.bd hj1) (fun o ho => (hJ 50 _ (by omega)).trans (k.ct hj2 (by omega))) (k.bd hj2), by omega, qIp rfl⟩)

theorem s_line (l : Launch) {Ls : Nat} {xs : Nat → Int32} {q n m c b : Nat} {S : Shp} {I : MI} {L : ML} {R : MR} (g : KG Ls m c S R) (k : K2 xs q n m c b S R I I L L) (hq : q < 600) (x : Int32) : Sr l wI mX8_line mX9_line [.inl x] Ls xs q S I L R := by
  have hN := k.hN
  have hM := k.hM
  have hC := k.hC
  cases h1 : inb (x / nI 10) m with
  | false =>
    cases h2 : inb (x - x / nI 10 * nI 10) m with
    | false => exact sr1 g k hq (-1) (c_lineNN l g.xg k.xm hM g.rw g.wg h1 h2) (by omega) (qIp rfl) (fun J hJ k1 => ⟨_, _, c_mLineB l g.mg k1.ym hM (Or.inr (Or.inl h1)), by omega, qIp rfl⟩)
    | true =>
      obtain ⟨j2, hj2, e2⟩ := inb_of (by omega) h2
      exact sr1 g k hq (-1) (c_lineNS l g.xg k.xm hM g.rw g.wg h1 e2 hj2) (by omega) (qIp rfl) (fun J hJ k1 => ⟨_, _, c_mLineB l g.mg k1.ym hM (Or.inr (Or.inl h1)), by omega, qIp rfl⟩)
  | true =>
    obtain ⟨j1, hj1, e1⟩ := inb_of (by omega) h1
    cases h2 : inb (x - x / nI 10 * nI 10) m with
    | false => exact sr1 g k hq (-1) (c_lineSN l g.xg k.xm hM g.rw g.wg e1 hj1 h2) (by omega) (qIp rfl) (fun J hJ k1 => ⟨_, _, c_mLineB l g.mg k1.ym hM (Or.inr (Or.inr (Or.inl h2))), by omega, qIp rfl⟩)
    | true =>
      obtain ⟨j2, hj2, e2⟩ := inb_of (by omega) h2
      by_cases he : j1 = j2
      · exact sr1 g k hq (-1) (c_lineE l g.xg k.xm hM g.rw g.wg e1 hj1 e2 hj2 he) (by omega) (qIp rfl) (fun J hJ k1 => ⟨_, _, c_mLineB l g.mg k1.ym hM (Or.inr (Or.inr (Or.inr (e1.trans (by rw [he]; exact e2.symm))))), by omega, qIp rfl⟩)
      · exact sr1 g k hq (lnI I n j1 j2) (c_lineS l g.xg g.sg k.xn hN k.xm hM g.rw g.wg e1 hj1 e2 hj2 he) (by omega) (qIm rfl (fun t i z => by rcases z with rfl | rfl | rfl | rfl <;> simp [cSP, cS])) (fun J hJ k1 => ⟨_, _, c_mLineS l g.mg k1.yn hN k1.ym hM e1 hj1 e2 hj2 he (fun o ho => (hJ 50 _ (by omega)).trans (k.ct hj1 (by omega))) (fun o ho => (hJ 50 _ (by omega)).trans (k.ct hj2 (by omega))), by omega, qIm rfl (fun t i z => by subst z; simp [mSP, mS])⟩)

theorem s_right (l : Launch) {Ls : Nat} {xs : Nat → Int32} {q n m c b : Nat} {S : Shp} {I : MI} {L : ML} {R : MR} (g : KG Ls m c S R) (k : K2 xs q n m c b S R I I L L) (hq : q < 600) (x : Int32) : Sr l wI mX8_right mX9_right [.inl x] Ls xs q S I L R := by
  have hN := k.hN
  have hM := k.hM
  have hC := k.hC
  cases hx : inb x m with
  | false =>
    exact sr1 g k hq (-1) (c_rightN l g.xg k.xm hx) (by omega) (qIp rfl) (fun J hJ k1 => ⟨_, _, c_mRightN l g.mg k1.ym hM hx, by omega, qIp rfl⟩)
  | true =>
    obtain ⟨j, hj, rfl⟩ := inb_of (by omega) hx
    exact sr1 g k hq (rtV I n j) (c_rightS l g.xg g.sg k.xn hN k.xm hj hM (g.rw j hj) (g.wg j hj)) (by omega) (qIp rfl) (fun J hJ k1 => ⟨_, _, c_mRightS l g.mg k1.yn hN k1.ym hM hj (wo := I (2, 0)) (F := fun k => I (12, k)) (fun o ho => (hJ 50 _ (by omega)).trans (k.wo ho)) (fun _ hk o ho => (hJ 50 _ (by omega)).trans (k.ct hk (by omega))), by omega, qIm (rt_t hj hM).symm (fun t i z => by obtain ⟨rfl, z⟩ := z; simp [mSP, mS]; omega)⟩)

theorem s_guess (l : Launch) {Ls : Nat} {xs : Nat → Int32} {q n m c b : Nat} {S : Shp} {I : MI} {L : ML} {R : MR} (g : KG Ls m c S R) (k : K2 xs q n m c b S R I I L L) (hq : q < 600) (x y : Int32) : Sr l wI mX8_guess mX9_guess [.inl x, .inl y] Ls xs q S I L R := by
  have hN := k.hN
  have hM := k.hM
  have hC := k.hC
  by_cases h0 : x < 0
  · exact sr1 g k hq (-1) (c_guessB l g.xg k.xm (Or.inl h0)) (by omega) (qIp rfl) (fun J hJ k1 => ⟨_, _, c_mGuessB l g.mg k1.ym hM (Or.inl h0), by omega, qIp rfl⟩)
  by_cases h1 : nI 1 <<< (nI m &&& 31) ≤ x
  · exact sr1 g k hq (-1) (c_guessB l g.xg k.xm (Or.inr (Or.inl h1))) (by omega) (qIp rfl) (fun J hJ k1 => ⟨_, _, c_mGuessB l g.mg k1.ym hM (Or.inr (Or.inl ((grd (by omega) h0).mp h1))), by omega, qIp rfl⟩)
  have h1' : (x >>> (nI m &&& 31)) = 0 := Decidable.not_not.mp (fun z => h1 ((grd (by omega) h0).mpr z))
  by_cases h2 : y < 0
  · exact sr1 g k hq (-1) (c_guessB l g.xg k.xm (Or.inr (Or.inr (Or.inl h2)))) (by omega) (qIp rfl) (fun J hJ k1 => ⟨_, _, c_mGuessB l g.mg k1.ym hM (Or.inr (Or.inr (Or.inl h2))), by omega, qIp rfl⟩)
  by_cases h3 : nI 1 < y
  · exact sr1 g k hq (-1) (c_guessB l g.xg k.xm (Or.inr (Or.inr (Or.inr h3)))) (by omega) (qIp rfl) (fun J hJ k1 => ⟨_, _, c_mGuessB l g.mg k1.ym hM (Or.inr (Or.inr (Or.inr h3))), by omega, qIp rfl⟩)
  obtain ⟨w, hw, rfl⟩ := nI_of h2
  have hw1 : w ≤ 1 := by
    rw [nI_ltI (by omega) hw] at h3
    omega
  exact sr1 g k hq (gsV I x n m w) (c_guessS l g.xg g.sg k.xn hN k.xm hM g.rw g.wg h0 h1 hw1) (by omega) (qIp rfl) (fun J hJ k1 => ⟨_, _, c_mGuessS l g.mg k1.yn hN k1.ym hM (wo := I (2, 0)) (F := fun k => I (12, k)) (fun o ho => (hJ 50 _ (by omega)).trans (k.wo ho)) (fun _ hk o ho => (hJ 50 _ (by omega)).trans (k.ct hk (by omega))) h0 h1' hw1, by omega, qIm (gs_t hw1).symm (fun t i z => by obtain ⟨rfl, z⟩ := z; simp [mSP, mS]; omega)⟩)

theorem s_after (l : Launch) {Ls : Nat} {xs : Nat → Int32} {q n m c b : Nat} {S : Shp} {I : MI} {L : ML} {R : MR} (g : KG Ls m c S R) (k : K2 xs q n m c b S R I I L L) (hq : q < 600) (x : Int32) : Sr l wI mX8_after mX9_after [.inl x] Ls xs q S I L R := by
  have hN := k.hN
  have hM := k.hM
  have hC := k.hC
  cases hx : inb x m with
  | false =>
    exact sr1 g k hq (-1) (c_afterN l g.xg k.xm hx) (by omega) (qIp rfl) (fun J hJ k1 => ⟨_, _, c_mAfterN l g.mg k1.ym hM hx, by omega, qIp rfl⟩)
  | true =>
    obtain ⟨j, hj, rfl⟩ := inb_of (by omega) hx
    obtain ⟨ke, hk0, hk9, h8, h74, w⟩ := k.ke hj
    by_cases hb : ke = 0 ∨ 200 < ke
    · exact sr1 g k hq (if ke = 0 then -2 else -5) (c_afterE l g.xg k.xm hj hM (g.rw j hj) (g.wg j hj) h8 (by omega) hb) (by omega) (qIp rfl) (fun J hJ k1 => ⟨_, _, c_mAfterE l g.mg k1.ym hM hj ((hJ 74 _ (by omega)).trans h74) (by omega) hb, by omega, qIp rfl⟩)
    · have hm : min ke 200 = ke := by omega
      have hlg : ∃ lg : Nat → Nat, ∀ t, t < ke → lg t < n ∧ I (16, j) t = nI (lg t) ∧ I (75, 0) (200 * j + t) = nI (lg t) := by
        refine ⟨fun t => (I (16, j) t).toInt.toNat, fun t ht => ?_⟩
        obtain ⟨f, hf, h1, h2⟩ := w.2.2.2.2 t (by omega)
        have e : (I (16, j) t).toInt.toNat = f := by rw [h1, toN_nI (by omega)]
        dsimp only
        rw [e]
        exact ⟨hf, h1, h2⟩
      obtain ⟨lg, hlg⟩ := hlg
      have hs := c_afterS l (L := L) g.xg g.sg k.xn hN k.xm hj hM (g.rw j hj) (g.wg j hj) h8 (by omega) (by omega) (by omega) (lg := lg) (fun t ht => ⟨(hlg t (by omega)).2.1, by have := (hlg t (by omega)).1; omega⟩)
      rw [hm] at hs
      exact sr1 g k hq (nI (frN (fun t => grN (tallyN lg t) n) ke)) hs (by omega) (qIm (by rw [← sinc_t]) (fun t i z => by subst z; simp [cSP, cS])) (fun J hJ k1 => ⟨_, _, c_mAfterS l g.mg k1.yn hN k1.ym hM hj ((hJ 74 _ (by omega)).trans h74) (by omega) (by omega) (by omega) (lg := lg) (fun t ht => ⟨(hJ 75 _ (by omega)).trans (hlg t ht).2.2, (hlg t ht).1⟩), by omega, qIm rfl (fun t i z => by subst z; simp [mSP, mS])⟩)
