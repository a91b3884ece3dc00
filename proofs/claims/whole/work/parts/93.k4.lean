/-! the calls, one by one: asking, 2 -/
theorem inb_no {y : Int32} {n : Nat} (h : inb y n = false) (h1 : ¬ y = -1) : y < -1 ∨ ¬ y < nI n := by
  by_cases h2 : y < nI n
  · refine Or.inl ?_
    by_cases h0 : (0 : Int32) ≤ y
    · unfold inb at h
      rw [decide_eq_true h0, decide_eq_true h2] at h
      cases h
    · have a := Int32.lt_iff_toInt_lt.mp (Int32.not_le.mp h0)
      have e0 : (0 : Int32).toInt = 0 := by decide
      have e1 : (-1 : Int32).toInt = -1 := by decide
      have b : ¬ y.toInt = -1 := fun z => h1 (Int32.toInt_inj.mp (z.trans e1.symm))
      rw [Int32.lt_iff_toInt_lt]
      omega
  · exact Or.inr h2
theorem of_t {I : MI} {n j w : Nat} : ofV I n j w = mofV n (I (12, j)) (I (11, j) 7) (I (11, j) 8) (I (11, j) 2) (I (11, j) 3) w := by
  unfold ofV mofV
  rw [rk0]
theorem okN_cg {w w' : Nat → Int32} : ∀ {n : Nat}, (∀ s, s < n → w s = w' s) → okN w n = okN w' n
  | 0, _ => rfl
  | n + 1, h => by
    simp only [okN]
    rw [okN_cg (n := n) (fun s hs => h s (by omega)), h n (by omega)]
    unfold prevW
    by_cases e : n = 0
    · rw [if_pos e, if_pos e]
    · rw [if_neg e, if_neg e, h (n - 1) (by omega)]
theorem sd_t {B : Nat → Nat} {len n s : Nat} {wo p : Int32} (hlen : len ≤ 120) (hf : (cText B len).2.1 = none) : wtSd (cdT B len) (lnT B len) wo n s p = wtSm B len wo n s p := evalT hlen hf _

theorem s_luck (l : Launch) {Ls : Nat} {xs : Nat → Int32} {q n m c b : Nat} {S : Shp} {I : MI} {L : ML} {R : MR} (g : KG Ls m c S R) (k : K2 xs q n m c b S R I I L L) (hq : q < 600) (x y : Int32) : Sr l wI mX8_luck mX9_luck [.inl x, .inl y] Ls xs q S I L R := by
  have hN := k.hN
  have hM := k.hM
  have hC := k.hC
  cases hx : inb x c with
  | false => exact sr1 g k hq (-1) (c_luckN l g.xg k.xc hx y) (by omega) (qIp rfl) (fun J hJ k1 => ⟨_, _, c_mLuckB l g.mg k1.yn hN k1.yc hC (Or.inl hx), by omega, qIp rfl⟩)
  | true =>
    obtain ⟨lj, hlj, rfl⟩ := inb_of (by omega) hx
    by_cases h1 : y = -1
    · subst h1
      by_cases hz : n = 0
      · exact sr1 g k hq (-2) (c_luckZ l g.xg g.sg k.xn hN k.xc hlj hC (g.rl lj hlj) (by decide) (by subst hz; decide) hz) (by omega) (qIp rfl) (fun J hJ k1 => ⟨_, _, c_mLuckA l g.mg k1.yn hN k1.yc hC k1.ym hM (lw := fun k => I (11, k) 2) (F := fun k => I (12, k)) (fun _ hk => (hJ 69 _ (by omega)).trans (k.l2 hk)) (fun _ hk o ho => (hJ 50 _ (by omega)).trans (k.ct hk (by omega))) (fun _ hk => k.bd hk) hx, by omega, qIp (by unfold lkAm; rw [if_pos hz])⟩)
      · exact sr1 g k hq (lkAll I (nI lj) n m) (c_luckA l g.xg g.sg k.xn hN k.xm hM g.rw g.wg k.xc hlj hC (g.rl lj hlj) (by omega)) (by omega) (qIp rfl) (fun J hJ k1 => ⟨_, _, c_mLuckA l g.mg k1.yn hN k1.yc hC k1.ym hM (lw := fun k => I (11, k) 2) (F := fun k => I (12, k)) (fun _ hk => (hJ 69 _ (by omega)).trans (k.l2 hk)) (fun _ hk o ho => (hJ 50 _ (by omega)).trans (k.ct hk (by omega))) (fun _ hk => k.bd hk) hx, by omega, qIp (lkA_t (by omega)).symm⟩)
    · cases hy : inb y n with
      | false => exact sr1 g k hq (-1) (c_luckB l g.xg g.sg k.xn hN k.xc hlj hC (g.rl lj hlj) (inb_no hy h1)) (by omega) (qIp rfl) (fun J hJ k1 => ⟨_, _, c_mLuckB l g.mg k1.yn hN k1.yc hC (Or.inr ⟨h1, hy⟩), by omega, qIp rfl⟩)
      | true =>
        obtain ⟨s, hs, rfl⟩ := inb_of (by omega) hy
        exact sr1 g k hq (lkV I (nI lj) n m s) (c_luckS l g.xg g.sg k.xn hN k.xm hM g.rw g.wg k.xc hlj hC (g.rl lj hlj) hs) (by omega) (qIp rfl) (fun J hJ k1 => ⟨_, _, c_mLuckS l g.mg k1.yn hN k1.yc hC k1.ym hM (lw := fun k => I (11, k) 2) (F := fun k => I (12, k)) (fun _ hk => (hJ 69 _ (by omega)).trans (k.l2 hk)) (fun _ hk o ho => (hJ 50 _ (by omega)).trans (k.ct hk (by omega))) (fun _ hk => k.bd hk) hx hs, by omega, qIp lkV_t.symm⟩)

theorem s_chart (l : Launch) {Ls : Nat} {xs : Nat → Int32} {q n m c b : Nat} {S : Shp} {I : MI} {L : ML} {R : MR} (g : KG Ls m c S R) (k : K2 xs q n m c b S R I I L L) (hq : q < 600) (y z : Int32) : Sr l wI mX8_chart mX9_chart [.inl y, .inl z] Ls xs q S I L R := by
  have hN := k.hN
  have hM := k.hM
  have hC := k.hC
  cases hy : inb y n with
  | false => exact sr1 g k hq (-1) (c_chartB l g.xg g.sg k.xn hN (Or.inl hy)) (by omega) (qIp rfl) (fun J hJ k1 => ⟨_, _, c_mChartB l g.mg k1.yn hN (Or.inl hy), by omega, qIp rfl⟩)
  | true =>
    obtain ⟨s, hs, rfl⟩ := inb_of (by omega) hy
    by_cases h0 : z < 0
    · exact sr1 g k hq (-1) (c_chartB l g.xg g.sg k.xn hN (Or.inr (Or.inl h0))) (by omega) (qIp rfl) (fun J hJ k1 => ⟨_, _, c_mChartB l g.mg k1.yn hN (Or.inr (Or.inl h0)), by omega, qIp rfl⟩)
    by_cases h1 : nI 1 < z
    · exact sr1 g k hq (-1) (c_chartB l g.xg g.sg k.xn hN (Or.inr (Or.inr h1))) (by omega) (qIp rfl) (fun J hJ k1 => ⟨_, _, c_mChartB l g.mg k1.yn hN (Or.inr (Or.inr h1)), by omega, qIp rfl⟩)
    obtain ⟨w, hw, rfl⟩ := nI_of h0
    have hw1 : w ≤ 1 := by
      rw [nI_ltI (by omega) hw] at h1
      omega
    exact sr1 g k hq (chV I n m s w) (c_chartS l g.xg g.sg k.xn hN k.xm hM g.rw g.wg hs hw1) (by omega) (qIm rfl (fun t i z => by rcases z with rfl | rfl <;> simp [cSP, cS])) (fun J hJ k1 => ⟨_, _, c_mChartS l g.mg k1.yn hN k1.ym hM (sp := fun k => I (11, k) 9) (F := fun k => I (12, k)) (fun _ hk => (hJ 82 _ (by omega)).trans (k.sp hk)) (fun _ hk o ho => (hJ 50 _ (by omega)).trans (k.ct hk (by omega))) hs hw1, by omega, qIp rfl⟩)

theorem s_found (l : Launch) {Ls : Nat} {xs : Nat → Int32} {q n m c b : Nat} {S : Shp} {I : MI} {L : ML} {R : MR} (g : KG Ls m c S R) (k : K2 xs q n m c b S R I I L L) (hq : q < 600) (x z : Int32) : Sr l wI mX8_found mX9_found [.inl x, .inl z] Ls xs q S I L R := by
  have hN := k.hN
  have hM := k.hM
  have hC := k.hC
  cases hx : inb x m with
  | false => exact sr1 g k hq (-1) (c_foundN l g.xg k.xm hx z) (by omega) (qIp rfl) (fun J hJ k1 => ⟨_, _, c_mFoundB l g.mg k1.ym hM (Or.inl hx), by omega, qIp rfl⟩)
  | true =>
    obtain ⟨j, hj, rfl⟩ := inb_of (by omega) hx
    by_cases h0 : z < 0
    · exact sr1 g k hq (-1) (c_foundB l g.xg g.sg k.xn hN k.xm hj hM (g.rw j hj) (g.wg j hj) (Or.inl h0)) (by omega) (qIp rfl) (fun J hJ k1 => ⟨_, _, c_mFoundB l g.mg k1.ym hM (Or.inr (Or.inl h0)), by omega, qIp rfl⟩)
    by_cases h1 : nI 1 < z
    · exact sr1 g k hq (-1) (c_foundB l g.xg g.sg k.xn hN k.xm hj hM (g.rw j hj) (g.wg j hj) (Or.inr h1)) (by omega) (qIp rfl) (fun J hJ k1 => ⟨_, _, c_mFoundB l g.mg k1.ym hM (Or.inr (Or.inr h1)), by omega, qIp rfl⟩)
    obtain ⟨w, hw, rfl⟩ := nI_of h0
    have hw1 : w ≤ 1 := by
      rw [nI_ltI (by omega) hw] at h1
      omega
    by_cases hz : sumN (I (12, j)) n = 0 ∨ sumN (I (2, 0)) n = 0
    · exact sr1 g k hq (-2) (c_foundZ l g.xg g.sg k.xn hN k.xm hj hM (g.rw j hj) (g.wg j hj) hw1 hz) (by omega) (qIp rfl) (fun J hJ k1 => ⟨_, _, c_mFoundZ l g.mg k1.yn hN k1.ym hM hj (fun o ho => (hJ 50 _ (by omega)).trans (k.ct hj (by omega))) (fun o ho => (hJ 50 _ (by omega)).trans (k.wo ho)) k.wb9 hw1 hz, by omega, qIp rfl⟩)
    · exact sr1 g k hq (fdV I n j w) (c_foundS l g.xg g.sg k.xn hN k.xm hj hM (g.rw j hj) (g.wg j hj) hw1 (fun q => hz (Or.inl q)) (fun q => hz (Or.inr q))) (by omega) (qIp rfl) (fun J hJ k1 => ⟨_, _, c_mFoundS l g.mg k1.yn hN k1.ym hM hj (fun o ho => (hJ 50 _ (by omega)).trans (k.ct hj (by omega))) (fun o ho => (hJ 50 _ (by omega)).trans (k.wo ho)) k.wb9 hw1 (fun q => hz (Or.inl q)) (fun q => hz (Or.inr q)), by omega, qIp rfl⟩)

theorem s_house (l : Launch) {Ls : Nat} {xs : Nat → Int32} {q n m c b : Nat} {S : Shp} {I : MI} {L : ML} {R : MR} (g : KG Ls m c S R) (k : K2 xs q n m c b S R I I L L) (hq : q < 600) (x y z w : Int32) : Sr l wI mX8_house mX9_house [.inl x, .inl y, .inl z, .inl w] Ls xs q S I L R := by
  have hN := k.hN
  have hM := k.hM
  have hC := k.hC
  cases hx : inb x m with
  | false => exact sr1 g k hq (-2000000000) (c_houseN l g.xg g.sg k.xn hN k.xm hx y z w) (by omega) (qIp rfl) (fun J hJ k1 => ⟨_, _, c_mHouseB l g.mg k1.yn hN k1.ym hM (Or.inl hx), by omega, qIp rfl⟩)
  | true =>
    obtain ⟨j, hj, rfl⟩ := inb_of (by omega) hx
    by_cases h0 : y < 0
    · exact sr1 g k hq (-2000000000) (c_houseB l g.xg g.sg k.xn hN k.xm hj hM (g.rw j hj) (g.wg j hj) (Or.inl h0)) (by omega) (qIp rfl) (fun J hJ k1 => ⟨_, _, c_mHouseB l g.mg k1.yn hN k1.ym hM (Or.inr (Or.inl h0)), by omega, qIp rfl⟩)
    by_cases h1 : nI 1 <<< (nI n &&& 31) ≤ y
    · exact sr1 g k hq (-2000000000) (c_houseB l g.xg g.sg k.xn hN k.xm hj hM (g.rw j hj) (g.wg j hj) (Or.inr (Or.inl h1))) (by omega) (qIp rfl) (fun J hJ k1 => ⟨_, _, c_mHouseB l g.mg k1.yn hN k1.ym hM (Or.inr (Or.inr (Or.inl ((grd (by omega) h0).mp h1)))), by omega, qIp rfl⟩)
    by_cases h2 : z < nI 1
    · exact sr1 g k hq (-2000000000) (c_houseB l g.xg g.sg k.xn hN k.xm hj hM (g.rw j hj) (g.wg j hj) (Or.inr (Or.inr (Or.inl h2)))) (by omega) (qIp rfl) (fun J hJ k1 => ⟨_, _, c_mHouseB l g.mg k1.yn hN k1.ym hM (Or.inr (Or.inr (Or.inr (Or.inl (Or.inl h2))))), by omega, qIp rfl⟩)
    by_cases h3 : nI n < z
    · exact sr1 g k hq (-2000000000) (c_houseB l g.xg g.sg k.xn hN k.xm hj hM (g.rw j hj) (g.wg j hj) (Or.inr (Or.inr (Or.inr (Or.inl h3))))) (by omega) (qIp rfl) (fun J hJ k1 => ⟨_, _, c_mHouseB l g.mg k1.yn hN k1.ym hM (Or.inr (Or.inr (Or.inr (Or.inl (Or.inr h3))))), by omega, qIp rfl⟩)
    by_cases h4 : w < 0
    · exact sr1 g k hq (-2000000000) (c_houseB l g.xg g.sg k.xn hN k.xm hj hM (g.rw j hj) (g.wg j hj) (Or.inr (Or.inr (Or.inr (Or.inr (Or.inl h4)))))) (by omega) (qIp rfl) (fun J hJ k1 => ⟨_, _, c_mHouseB l g.mg k1.yn hN k1.ym hM (Or.inr (Or.inr (Or.inr (Or.inr (Or.inl h4))))), by omega, qIp rfl⟩)
    by_cases h5 : nI 3 < w
    · exact sr1 g k hq (-2000000000) (c_houseB l g.xg g.sg k.xn hN k.xm hj hM (g.rw j hj) (g.wg j hj) (Or.inr (Or.inr (Or.inr (Or.inr (Or.inr h5)))))) (by omega) (qIp rfl) (fun J hJ k1 => ⟨_, _, c_mHouseB l g.mg k1.yn hN k1.ym hM (Or.inr (Or.inr (Or.inr (Or.inr (Or.inr h5))))), by omega, qIp rfl⟩)
    have hg := fun q => h1 ((grd (m := n) (by omega) h0).mpr q)
    obtain ⟨p, hp, rfl⟩ := nI_of h0
    have hz0 : ¬ z < 0 := fun q => h2 (Int32.lt_trans q (by decide))
    obtain ⟨h, hh, rfl⟩ := nI_of hz0
    obtain ⟨v, hv, rfl⟩ := nI_of h4
    rw [nI_ltI hh (by omega)] at h2
    rw [nI_ltI (by omega) hh] at h3
    rw [nI_ltI (by omega) hv] at h5
    have hg2 : (nI p >>> (nI n &&& 31)) = 0 := Decidable.not_not.mp hg
    have hpn : p < 2 ^ n := by
      rw [shr_n (by omega) hp, nI_z (Nat.lt_of_le_of_lt (Nat.div_le_self _ _) hp), Nat.div_eq_zero_iff] at hg2
      have : 0 < 2 ^ n := Nat.pos_of_ne_zero (by simp)
      omega
    have h13 := pow13 (m := n) (by omega)
    exact sr1 g k hq (hsV n (nI p) (bitsN (rkO (I (12, j)) n) h) h v) (c_houseS l g.xg g.sg k.xn hN k.xm hj hM (g.rw j hj) (g.wg j hj) h0 h1 (by omega) (by omega) (by omega)) (by omega) (qIm rfl (fun t i z => by rcases z with rfl | rfl <;> simp [cSP, cS])) (fun J hJ k1 => ⟨_, _, c_mHouseS l g.mg k1.yn hN k1.ym hM hj (fun o ho => (hJ 50 _ (by omega)).trans (k.ct hj (by omega))) h0 hg2 (by omega) (by omega) (by omega) (kb_all p (by omega)) (popc_le p), by omega, qIp (hs_t hN hpn (by omega) (by omega) (by omega)).symm⟩)

theorem s_trace (l : Launch) {Ls : Nat} {xs : Nat → Int32} {q n m c b : Nat} {S : Shp} {I : MI} {L : ML} {R : MR} (g : KG Ls m c S R) (k : K2 xs q n m c b S R I I L L) (hq : q < 600) (x : Int32) : Sr l wI mX8_trace mX9_trace [.inl x] Ls xs q S I L R := by
  have hN := k.hN
  have hM := k.hM
  have hC := k.hC
  obtain ⟨-, -, -, r, hr9, hxr, hyr, htr⟩ := k.ac
  by_cases hb : x < 0 ∨ ¬ x < nI r ∨ ¬ x < nI 24
  · exact sr1 g k hq (-1) (c_traceM l g.xg g.ag hxr hb) (by omega) (qIp rfl) (fun J hJ k1 => ⟨_, _, c_mTraceM l g.mg ((hJ 40 _ (by omega)).trans hyr) hb, by omega, qIp rfl⟩)
  · have h0 : ¬ x < 0 := fun q => hb (Or.inl q)
    obtain ⟨t, ht, rfl⟩ := nI_of h0
    have h1 : t < r := by
      have : nI t < nI r := Decidable.not_not.mp (fun q => hb (Or.inr (Or.inl q)))
      exact (nI_ltI ht (by omega)).mp this
    have h2 : t < 24 := by
      have : nI t < nI 24 := Decidable.not_not.mp (fun q => hb (Or.inr (Or.inr q)))
      exact (nI_ltI ht (by omega)).mp this
    exact sr1 g k hq (I (25, 0) t) (c_traceS l g.xg g.ag hxr (by omega) h1 h2) (by omega) (qIp rfl) (fun J hJ k1 => ⟨_, _, c_mTraceS l g.mg ((hJ 40 _ (by omega)).trans hyr) (by omega) h1 h2, by omega, qIp ((hJ 87 _ (by omega)).trans (htr t h1 h2).symm)⟩)

theorem s_of (l : Launch) {Ls : Nat} {xs : Nat → Int32} {q n m c b : Nat} {S : Shp} {I : MI} {L : ML} {R : MR} (g : KG Ls m c S R) (k : K2 xs q n m c b S R I I L L) (hq : q < 600) (x y : Int32) : Sr l wI mX8_of mX9_of [.inl x, .inl y] Ls xs q S I L R := by
  have hN := k.hN
  have hM := k.hM
  have hC := k.hC
  cases hx : inb x m with
  | false => exact sr1 g k hq (-1) (c_ofN l g.xg k.xm hx y) (by omega) (qIp rfl) (fun J hJ k1 => ⟨_, _, c_mOfN l g.mg k1.ym hM hx y, by omega, qIp rfl⟩)
  | true =>
    obtain ⟨j, hj, rfl⟩ := inb_of (by omega) hx
    by_cases h0 : y < 0
    · exact sr1 g k hq (-1) (c_ofB l g.xg k.xm hj hM (g.rw j hj) (g.wg j hj) h0) (by omega) (qIp rfl) (fun J hJ k1 => ⟨_, _, c_mOfD l g.mg k1.yn hN k1.ym hM hj h0, by omega, qIp rfl⟩)
    obtain ⟨w, hw, rfl⟩ := nI_of h0
    obtain ⟨ke, hk0, hk9, h8, h74, wa⟩ := k.ke hj
    by_cases h1 : w < 100
    · exact sr1 g k hq (ofV I n j w) (c_ofS l g.xg g.sg k.xn hN k.xm hj hM (g.rw j hj) (g.wg j hj) h1) (by omega) (qIp rfl) (fun J hJ k1 => ⟨_, _, c_mOfS l g.mg k1.yn hN k1.ym hM hj (fun o ho => (hJ 50 _ (by omega)).trans (k.ct hj (by omega))) ((hJ 73 _ (by omega)).trans wa.1.2.2.2.symm) ((hJ 74 _ (by omega)).trans (h74.trans h8.symm)) ((hJ 69 _ (by omega)).trans (k.l2 hj)) ((hJ 70 _ (by omega)).trans wa.1.1.symm) rfl h1, by omega, qIp of_t.symm⟩)
    · by_cases hs : w % 100 < n
      · exact sr1 g k hq (osV I j n (w / 100) (w % 100)) (c_ofL l g.xg g.sg k.xn hN k.xm hj hM (g.rw j hj) (g.wg j hj) (by omega) hw hs) (by omega) (qIm rfl (fun t i z => by rcases z with rfl | rfl <;> simp [cSP, cS])) (fun J hJ k1 => ⟨_, _, c_mOfL l g.mg k1.yn hN k1.ym hM hj (fun o ho => (hJ 50 _ (by omega)).trans (k.ct hj (by omega))) (k.bd hj) (hJ 73 _ (by omega)) ((hJ 74 _ (by omega)).trans (h74.trans h8.symm)) ((hJ 69 _ (by omega)).trans (k.l2 hj)) (hJ 70 _ (by omega)) (hJ 71 _ (by omega)) (by omega) hw hs, by omega, qIp (by unfold mosV osV; rw [wa.ps])⟩)
      · exact sr1 g k hq (-1) (c_ofM l g.xg g.sg k.xn hN k.xm hj hM (g.rw j hj) (g.wg j hj) (by omega) hw hs) (by omega) (qIp rfl) (fun J hJ k1 => ⟨_, _, c_mOfM l g.mg k1.yn hN k1.ym hM hj (by omega) hw hs, by omega, qIp rfl⟩)
