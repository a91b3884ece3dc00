/-! the calls, one by one: asking, 3 -/
theorem WA.J {k n ke : Nat} {X Y J : MI} (h : WA k n ke X Y) (hJ : ∀ a i, 40 ≤ a → J (a, 0) i = Y (a, 0) i) : WA k n ke X J := h.to (fun _ _ _ => rfl) (fun _ => rfl) (fun _ => rfl) (fun t i q => hJ t i (by omega))
theorem ShM.J {d h s z : Nat} {bd : Int32} {Y J : MI} (hm : ShM Y d h s z bd) (hJ : ∀ a i, 40 ≤ a → J (a, 0) i = Y (a, 0) i) : ShM J d h s z bd := by
  unfold ShM at hm ⊢
  rw [hJ 91 _ (by omega), hJ 92 _ (by omega)]
  exact hm
theorem cnM_k {xs : Nat → Int32} {q n m c b : Nat} {S : Shp} {R : MR} {X Y : MI} {LX LY : ML} (h : K2 xs q n m c b S R X Y LX LY) {j : Nat} (hj : j < m) : ∀ o, o < n → cnM Y j o = X (12, j) o := fun o ho => h.ct hj (by have := h.hN; omega)

theorem s_weight (l : Launch) {Ls : Nat} {xs : Nat → Int32} {q n m c b : Nat} {S : Shp} {I : MI} {L : ML} {R : MR} (g : KG Ls m c S R) (k : K2 xs q n m c b S R I I L L) (hq : q < 600) (x y : Int32) : Sr l wI mX8_weight mX9_weight [.inl x, .inl y] Ls xs q S I L R := by
  have hN := k.hN
  have hM := k.hM
  have hC := k.hC
  cases hx : inb x m with
  | false => exact sr1 g k hq (-1) (c_weightN l g.xg k.xm hx y) (by omega) (qIp rfl) (fun J hJ k1 => ⟨_, _, c_mWeightN l g.mg k1.yn hN k1.ym hM (Or.inl hx), by omega, qIp rfl⟩)
  | true =>
    obtain ⟨j, hj, rfl⟩ := inb_of (by omega) hx
    cases hy : inb y n with
    | false => exact sr1 g k hq (-1) (c_weightM l g.xg g.sg k.xn hN k.xm hj hM (g.rw j hj) (g.wg j hj) hy) (by omega) (qIp rfl) (fun J hJ k1 => ⟨_, _, c_mWeightN l g.mg k1.yn hN k1.ym hM (Or.inr hy), by omega, qIp rfl⟩)
    | true =>
      obtain ⟨s, hs, rfl⟩ := inb_of (by omega) hy
      obtain ⟨lj, ke, hlj, hRl, h2, h69, hke, wa, -⟩ := k.wb j hj
      obtain ⟨Bt, len, tl, lg, lv⟩ := k.lw lj hlj
      have hlen := tl.2.1
      have hfl := tl.2.2.2.2.2
      exact sr1 g k hq (wtI (cdT Bt len) (lnT Bt len) I j n s) (c_weightS l g.xg g.sg k.xn hN k.xm hj hM (g.rw j hj) (g.wg j hj) lg hRl lv hs) (by omega) (qIm rfl (fun t i z => by rcases z with rfl | rfl | rfl | rfl | rfl <;> simp [cSP, cS])) (fun J hJ k1 => ⟨_, _, c_mWeightS l g.mg k1.yn hN k1.ym hM hj (tl.to (fun i => hJ 61 i (by omega)) (fun i => hJ 60 i (by omega))) ((hJ 69 _ (by omega)).trans h69) hs, by omega, qIm (wt_t hlen hfl (wa.J hJ) hN hs (((hJ 50 _ (by omega)).trans (k.wo hs)).symm)).symm (fun t i z => by rcases z with ⟨rfl, z⟩ | rfl <;> simp [mSP, mS] <;> omega)⟩)

theorem s_said (l : Launch) {Ls : Nat} {xs : Nat → Int32} {q n m c b : Nat} {S : Shp} {I : MI} {L : ML} {R : MR} (g : KG Ls m c S R) (k : K2 xs q n m c b S R I I L L) (hq : q < 600) (x y : Int32) : Sr l wI mX8_said mX9_said [.inl x, .inl y] Ls xs q S I L R := by
  have hN := k.hN
  have hM := k.hM
  have hC := k.hC
  cases hx : inb x c with
  | false => exact sr1 g k hq (-1) (c_saidN l g.xg k.xc hx k.xm hM g.rw g.wg y) (by omega) (qIp rfl) (fun J hJ k1 => ⟨_, _, c_mSaidN l g.mg k1.yc hC hx y, by omega, qIp rfl⟩)
  | true =>
    obtain ⟨lj, hlj, rfl⟩ := inb_of (by omega) hx
    obtain ⟨Bt, len, tl, lg, lv⟩ := k.lw lj hlj
    have hlen := tl.2.1
    have hfl := tl.2.2.2.2.2
    by_cases h1 : y = -1
    · subst h1
      by_cases h6 : n ≤ 6
      · exact sr1 g k hq (ordN (fun s p => wtSd (cdT Bt len) (lnT Bt len) (I (2, 0) s) n s (nI p)) n n 0 (nI 0) (nI 9999)) (c_saidO l g.xg g.sg k.xn hN k.xc hlj hC (g.rl lj hlj) lg lv k.xm h6) (by omega) (qIm rfl (fun t i z => by rcases z with rfl | rfl | rfl <;> simp [cSP, cS])) (fun J hJ k1 => ⟨_, _, c_mSaidO l g.mg k1.yn hN k1.yc hC (tl.to (fun i => hJ 61 i (by omega)) (fun i => hJ 60 i (by omega))) hlj h6, by omega, qIm (ordN_congr (fun s p hs hp => by rw [sd_t hlen hfl, hJ 50 _ (by omega), k.wo hs]) n 0 _ _ (by omega)) (fun t i z => by rcases z with (⟨rfl, z⟩ | rfl) | rfl <;> simp [mSP, mS] <;> omega)⟩)
      · exact sr1 g k hq (-4) (c_saidG l g.xg g.sg k.xn hN k.xc hlj hC (g.rl lj hlj) lg lv k.xm (by omega)) (by omega) (qIp rfl) (fun J hJ k1 => ⟨_, _, c_mSaidG l g.mg k1.yn hN k1.yc hC hlj (by omega), by omega, qIp rfl⟩)
    · cases hy : inb y m with
      | false => exact sr1 g k hq (-1) (c_saidM l g.xg k.xc hlj hC (g.rl lj hlj) lg lv k.xm hy h1) (by omega) (qIp rfl) (fun J hJ k1 => ⟨_, _, c_mSaidM l g.mg k1.yc hC hlj k1.ym hM hy h1, by omega, qIp rfl⟩)
      | true =>
        obtain ⟨j, hj, rfl⟩ := inb_of (by omega) hy
        exact sr1 g k hq (bI (okN (fun p => wtSd (cdT Bt len) (lnT Bt len) (I (2, 0) (rkO (I (12, j)) n p)) n (rkO (I (12, j)) n p) (nI p)) n)) (c_saidS l g.xg g.sg k.xn hN k.xm hj hM (g.rw j hj) (g.wg j hj) k.xc hlj hC (g.rl lj hlj) lg lv) (by omega) (qIm rfl (fun t i z => by rcases z with rfl | rfl | rfl | rfl <;> simp [cSP, cS])) (fun J hJ k1 => ⟨_, _, c_mSaidS l g.mg k1.yn hN k1.yc hC k1.ym hM hj (tl.to (fun i => hJ 61 i (by omega)) (fun i => hJ 60 i (by omega))) hlj, by omega, qIm (by
          congr 1
          have er : rkO (cnM J j) n = rkO (I (12, j)) n := rkO_congr (fun o ho => (hJ 50 _ (by omega)).trans (k.ct hj (by omega)))
          rw [er]
          refine okN_cg (fun s hs => ?_)
          have := rkO_lt (I (12, j)) n s hs
          rw [sd_t hlen hfl, hJ 50 _ (by omega), k.wo this]) (fun t i z => by rcases z with ⟨rfl, z⟩ | rfl <;> simp [mSP, mS] <;> omega)⟩)

theorem xg_26 {S : Shp} {R : MR} (h : XG S R) {d : Nat} (hd : d < 6) : R (26, 0) d = some (27, d) := by
  obtain ⟨-, -, -, -, -, -, -, -, -, -, -, -, -, -, -, -, -, -, -, -, -, -, h0, h1, h2, h3, h4, h5⟩ := h
  rcases (show d = 0 ∨ d = 1 ∨ d = 2 ∨ d = 3 ∨ d = 4 ∨ d = 5 by omega) with rfl | rfl | rfl | rfl | rfl | rfl
  · exact h0
  · exact h1
  · exact h2
  · exact h3
  · exact h4
  · exact h5
theorem s_taken (l : Launch) {Ls : Nat} {xs : Nat → Int32} {q n m c b : Nat} {S : Shp} {I : MI} {L : ML} {R : MR} (g : KG Ls m c S R) (k : K2 xs q n m c b S R I I L L) (hq : q < 600) (x y : Int32) : Sr l wI mX8_taken mX9_taken [.inl x, .inl y] Ls xs q S I L R := by
  have hN := k.hN
  have hM := k.hM
  have hC := k.hC
  cases hx : inb x 6 with
  | false => exact sr1 g k hq (-1) (c_takenN l g.xg hx y) (by omega) (qIp rfl) (fun J hJ k1 => ⟨_, _, c_mTakenB l g.mg (Or.inl hx), by omega, qIp rfl⟩)
  | true =>
    obtain ⟨d, hd6, rfl⟩ := inb_of (by omega) hx
    obtain ⟨h, s, z, bd, hh3, hs4, hz6, e0, e1, e2, e3, hm, hb1, -, -⟩ := k.sh d hd6
    by_cases h0 : y < 0
    · exact sr1 g k hq (-1) (c_takenB l g.xg hd6 (xg_26 g.xg hd6) (g.dg d hd6) (Or.inl h0)) (by omega) (qIp rfl) (fun J hJ k1 => ⟨_, _, c_mTakenB l g.mg (Or.inr (Or.inl h0)), by omega, qIp rfl⟩)
    by_cases h8 : y < nI 8
    case neg => exact sr1 g k hq (-1) (c_takenB l g.xg hd6 (xg_26 g.xg hd6) (g.dg d hd6) (Or.inr (Int32.not_lt.mp h8))) (by omega) (qIp rfl) (fun J hJ k1 => ⟨_, _, c_mTakenB l g.mg (Or.inr (Or.inr (Int32.lt_of_lt_of_le (by decide) (Int32.not_lt.mp h8)))), by omega, qIp rfl⟩)
    have hB := k.hB
    obtain ⟨a1, a2, a3, -⟩ := k.ac
    have hkd : ∃ kd : Nat → Nat, ∀ j, j < b → I (24, 0) j = nI (kd j) ∧ kd j < 8 ∧ I (86, 0) j = nI (kd j) := by
      refine ⟨fun j => (I (24, 0) j).toInt.toNat, fun j hj => ?_⟩
      obtain ⟨f, hf, f1, f2⟩ := a3 j hj
      have e : (I (24, 0) j).toInt.toNat = f := by rw [f1, toN_nI (by omega)]
      dsimp only
      rw [e]
      exact ⟨f1, hf, f2⟩
    obtain ⟨kd, hkd⟩ := hkd
    obtain ⟨p, hp, rfl⟩ := nI_of h0
    have hp8 : p < 8 := (nI_ltI hp (by omega)).mp h8
    refine sr1 g k hq (tkV h (nI p) bd b kd) (c_takenS l g.xg hd6 (xg_26 g.xg hd6) (g.dg d hd6) e0 hh3 e1 g.ag a1 hB (fun j hj => ⟨(hkd j hj).1, (hkd j hj).2.1⟩) k.at_ h0 h8) (by omega) (qIp rfl) (fun J hJ k1 => ?_)
    have hmJ := hm.J hJ
    unfold ShM at hmJ
    rcases (show h = 0 ∨ h = 1 ∨ h = 2 by omega) with rfl | rfl | rfl
    · exact ⟨_, _, c_mTaken0 l g.mg hd6 (hmJ.2.1 rfl) hp8, by omega, qIp rfl⟩
    · obtain ⟨bb, hbb, rfl, h91⟩ := hmJ.2.2.1 rfl
      have hbi := hb1 rfl
      have hbl : bb < b := by
        rw [inb_nI (by omega) (by omega), decide_eq_true_eq] at hbi
        exact hbi
      refine ⟨_, _, c_mTaken1 l g.mg hd6 hbb h91 (hkd bb hbl).2.1 ((hJ 86 _ (by omega)).trans (hkd bb hbl).2.2) hp8, by omega, qIp ?_⟩
      unfold tkV
      rw [if_neg (show ¬ (1 : Nat) = 0 by omega), toN_nI (by omega)]
      by_cases hu : undF 8 (some (kd bb)) (nI p) = true
      · rw [if_pos hu, if_pos ⟨rfl, hbi, hu⟩]
      · rw [if_neg hu, if_neg (fun q => hu q.2.2)]
    · exact ⟨_, _, c_mTaken2 l g.mg hd6 (c := 50 + s) (by omega) (by omega) (hmJ.2.2.2 rfl).1 hp8, by omega, qIp rfl⟩

theorem s_element (l : Launch) {Ls : Nat} {xs : Nat → Int32} {q n m c b : Nat} {S : Shp} {I : MI} {L : ML} {R : MR} (g : KG Ls m c S R) (k : K2 xs q n m c b S R I I L L) (hq : q < 600) (x y : Int32) : Sr l wJ mX8_element mX9_element [.inl x, .inl y] Ls xs q S I L R := by
  have hN := k.hN
  have hM := k.hM
  have hC := k.hC
  cases hx : inb x 6 with
  | false => exact sr1 g k hq (-9223372036854775808) (c_elementN l g.xg hx y) (by omega) (qJp rfl) (fun J hJ k1 => ⟨_, _, c_mElN l g.mg hx y, by omega, qJp rfl⟩)
  | true =>
    obtain ⟨d, hd6, rfl⟩ := inb_of (by omega) hx
    obtain ⟨h, s, z, bd, hh3, hs4, hz6, e0, e1, e2, e3, hm, hb1, hL, -⟩ := k.sh d hd6
    by_cases hr : rfV h z y = 0
    · have hhz : h = 2 ∧ inb y z = true := by
        unfold rfV at hr
        split at hr
        · exact absurd hr (by decide)
        · split at hr
          · split at hr
            · exact ⟨by assumption, by assumption⟩
            · exact absurd hr (by decide)
          · exact absurd hr (by decide)
      obtain ⟨rfl, hy⟩ := hhz
      obtain ⟨t, ht, rfl⟩ := inb_of (by omega) hy
      exact sr1 g k hq (L (28, d) t) (c_elementS l g.xg hd6 (xg_26 g.xg hd6) (g.dg d hd6) e0 e3 hz6 ht) (by omega) (qJp rfl) (fun J hJ k1 => by
        have hmJ := hm.J hJ
        unfold ShM at hmJ
        exact ⟨_, _, c_mElS l g.mg hd6 (hmJ.2.2.2 rfl).1 (hmJ.2.2.2 rfl).2 hs4 hz6 ht, by omega, qJp (hL t (by omega)).symm⟩)
    · exact sr1 g k hq (-9223372036854775808) (c_elementR l g.xg hd6 (xg_26 g.xg hd6) (g.dg d hd6) e0 hh3 e3 hz6 y hr) (by omega) (qJp rfl) (fun J hJ k1 => ⟨_, _, c_mElR l g.mg hd6 (hm.J hJ) hs4 hz6 hr, by omega, qJp rfl⟩)

theorem s_count (l : Launch) {Ls : Nat} {xs : Nat → Int32} {q n m c b : Nat} {S : Shp} {I : MI} {L : ML} {R : MR} (g : KG Ls m c S R) (k : K2 xs q n m c b S R I I L L) (hq : q < 600) (x : Int32) : Sr l wI mX8_count mX9_count [.inl x] Ls xs q S I L R := by
  have hN := k.hN
  have hM := k.hM
  have hC := k.hC
  by_cases hx : x.toInt < 0 ∨ 6 < x.toInt
  · exact sr1 g k hq (-1) (c_countN l hx) (by omega) (qIp rfl) (fun J hJ k1 => ⟨_, _, c_mCountN l hx, by omega, qIp rfl⟩)
  have h0 : ¬ x < 0 := fun z => hx (Or.inl (by
    have a := Int32.lt_iff_toInt_lt.mp z
    have e0 : (0 : Int32).toInt = 0 := by decide
    omega))
  obtain ⟨w, hw, rfl⟩ := nI_of h0
  rw [nI_toInt hw] at hx
  have hw7 : w < 7 := by omega
  refine sr1 g k hq (cntV I w) (c_countS l g.xg g.sg g.tg g.hg g.ag hw7) (by omega) (qIp rfl) (fun J hJ k1 => ⟨_, _, c_mCountS l g.mg hw7, by omega, qIp ?_⟩)
  obtain ⟨len, Bt, -, -, t1, -, t2, -⟩ := k.tp
  obtain ⟨dd, zz, -, -, c1, -, c2, -, -⟩ := k.ch
  obtain ⟨a1, a2, -, r, -, a3, a4, -⟩ := k.ac
  unfold cntM cntV
  simp only [hJ 40 _ (by omega), k.yn, k.xn, k.yc, k.xc, k.ym, k.xm, t1, t2, c1, c2, a1, a2, a3, a4]

theorem s_against (l : Launch) {Ls : Nat} {xs : Nat → Int32} {q n m c b : Nat} {S : Shp} {I : MI} {L : ML} {R : MR} (g : KG Ls m c S R) (k : K2 xs q n m c b S R I I L L) (hq : q < 600) (x y z : Int32) : Sr l wI mX8_against mX9_against [.inl x, .inl y, .inl z] Ls xs q S I L R := by
  have hN := k.hN
  have hM := k.hM
  have hC := k.hC
  cases h1 : inb (x / nI 10) m with
  | false =>
    cases h2 : inb (x - x / nI 10 * nI 10) m with
    | false => exact sr1 g k hq (-1) (c_againstNN l g.xg k.xm hM g.rw g.wg h1 h2 y z) (by omega) (qIp rfl) (fun J hJ k1 => ⟨_, _, c_mAgainstB l g.mg k1.ym hM (Or.inr (Or.inl h1)) y z, by omega, qIp rfl⟩)
    | true =>
      obtain ⟨j2, hj2, e2⟩ := inb_of (by omega) h2
      exact sr1 g k hq (-1) (c_againstNS l g.xg k.xm hM g.rw g.wg h1 e2 hj2 y z) (by omega) (qIp rfl) (fun J hJ k1 => ⟨_, _, c_mAgainstB l g.mg k1.ym hM (Or.inr (Or.inl h1)) y z, by omega, qIp rfl⟩)
  | true =>
    obtain ⟨j1, hj1, e1⟩ := inb_of (by omega) h1
    cases h2 : inb (x - x / nI 10 * nI 10) m with
    | false => exact sr1 g k hq (-1) (c_againstSN l g.xg k.xm hM g.rw g.wg e1 hj1 h2 y z) (by omega) (qIp rfl) (fun J hJ k1 => ⟨_, _, c_mAgainstB l g.mg k1.ym hM (Or.inr (Or.inr (Or.inl h2))) y z, by omega, qIp rfl⟩)
    | true =>
      obtain ⟨j2, hj2, e2⟩ := inb_of (by omega) h2
      by_cases he : j1 = j2
      · exact sr1 g k hq (-1) (c_againstE l g.xg k.xm hM g.rw g.wg e1 hj1 e2 hj2 he y z) (by omega) (qIp rfl) (fun J hJ k1 => ⟨_, _, c_mAgainstB l g.mg k1.ym hM (Or.inr (Or.inr (Or.inr (e1.trans (by rw [he]; exact e2.symm))))) y z, by omega, qIp rfl⟩)
      · by_cases z1 : z < nI 1
        · exact sr1 g k hq (-1) (c_againstB l g.xg k.xm hM g.rw g.wg e1 hj1 e2 hj2 y (Or.inl z1)) (by omega) (qIp rfl) (fun J hJ k1 => ⟨_, _, c_mAgainstZ l g.mg k1.ym hM e1 hj1 e2 hj2 he y (Or.inl z1), by omega, qIp rfl⟩)
        by_cases z2 : nI 50 < z
        · exact sr1 g k hq (-1) (c_againstB l g.xg k.xm hM g.rw g.wg e1 hj1 e2 hj2 y (Or.inr z2)) (by omega) (qIp rfl) (fun J hJ k1 => ⟨_, _, c_mAgainstZ l g.mg k1.ym hM e1 hj1 e2 hj2 he y (Or.inr z2), by omega, qIp rfl⟩)
        have z0 : ¬ z < 0 := fun q => z1 (Int32.lt_trans q (by decide))
        obtain ⟨a, ha', rfl⟩ := nI_of z0
        have ha : 1 ≤ a ∧ a ≤ 50 := by
          rw [nI_ltI ha' (by omega)] at z1
          rw [nI_ltI (by omega) ha'] at z2
          omega
        have hc := c_againstS l (I := I) (S := S) (L := L) (R := R) g.xg g.sg k.xn hN k.xm hM g.rw g.wg e1 hj1 e2 hj2 he y ha
        have F0 := (fun s => nI (plc (I (12, j2)) n s))
        refine sr1 g k hq (nI (agC drawnI n (fun s => nI (plc (I (12, j1)) n s)) (lnI I n j1 j2) (fun s => nI (plc (I (12, j2)) n s), y) a)) hc (by omega) ?_ (fun J hJ k1 => ⟨_, _, c_mAgainstS l g.mg k1.yn hN k1.ym hM e1 hj1 e2 hj2 he (fun o ho => (hJ 50 _ (by omega)).trans (k.ct hj1 (by omega))) (fun o ho => (hJ 50 _ (by omega)).trans (k.ct hj2 (by omega))) y ha, by omega, ?_⟩)
        · rintro r S' I' L' R' ⟨w, rfl, rfl, rfl, rfl, ⟨F, hF, rfl⟩, hf⟩
          refine ⟨by rw [agC_cg hF]; rfl, rfl, rfl, rfl, hf.le (fun t i z => by rcases z with rfl | rfl | rfl | rfl | rfl <;> simp [cSP, cS])⟩
        · rintro r S' I' L' R' ⟨w, rfl, rfl, rfl, rfl, ⟨F, hF, rfl⟩, hf⟩
          refine ⟨by rw [agC_cg hF]; rfl, rfl, rfl, rfl, hf.le (fun t i z => by subst z; simp [mSP, mS])⟩
