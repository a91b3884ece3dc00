/-! the calls, one by one: odds, strong -/
theorem TG.upRg {S : Shp} {R : MR} {b : Nat} {x : Option Tok} (h : TG S R) : TG S (upM R (11, b) 1 x) := by unfold TG at *; simpa [upM] using h
theorem HG.upRg {S : Shp} {R : MR} {b : Nat} {x : Option Tok} (h : HG S R) : HG S (upM R (11, b) 1 x) := by unfold HG at *; simpa [upM] using h
theorem AG.upRg {S : Shp} {R : MR} {b : Nat} {x : Option Tok} (h : AG S R) : AG S (upM R (11, b) 1 x) := by unfold AG at *; simpa [upM] using h
theorem OG.upRg {S : Shp} {R : MR} {b : Nat} {x : Option Tok} (h : OG S R) : OG S (upM R (11, b) 1 x) := by unfold OG at *; simpa [upM] using h
theorem MG.upRg {S : Shp} {R : MR} {b : Nat} {x : Option Tok} (h : MG S R) : MG S (upM R (11, b) 1 x) := by unfold MG at *; simpa [upM] using h
theorem DG.upRg {S : Shp} {R : MR} {j b : Nat} {x : Option Tok} (h : DG j S R) : DG j S (upM R (11, b) 1 x) := by unfold DG at *; simpa [upM] using h
theorem KG.upRg {Ls m c : Nat} {S : Shp} {R : MR} {b : Nat} {x : Option Tok} (h : KG Ls m c S R) : KG Ls m c S (upM R (11, b) 1 x) := KG.mk (xg := h.xg.upRg) (sg := h.sg.upRg) (tg := h.tg.upRg) (hg := h.hg.upRg) (ag := h.ag.upRg) (og := h.og.upRg) (mg := h.mg.upRg) (w9 := h.w9.upRg) (w10 := h.w10.upRg) (dg := fun d hd => (h.dg d hd).upRg) (wg := fun k hk => (h.wg k hk).upRg) (rw := fun k hk => by rw [upM_n _ (by simp)]; exact h.rw k hk) (rl := fun k hk => by rw [upM_n _ (by simp)]; exact h.rl k hk) (fw := h.fw) (fl := h.fl) (s99 := h.s99)
theorem K2.upRg {xs : Nat → Int32} {q n m c b : Nat} {S : Shp} {R : MR} {X Y : MI} {LX LY : ML} {z : Nat} {x : Option Tok} (hz : 9 ≤ z) (h : K2 xs q n m c b S R X Y LX LY) : K2 xs q n m c b S (upM R (11, z) 1 x) X Y LX LY := by
  have hM := h.hM
  exact K2.mk (hN := h.hN) (hM := h.hM) (hC := h.hC) (hB := h.hB) (hq := h.hq) (xn := h.xn) (xm := h.xm) (xc := h.xc) (yn := h.yn) (ym := h.ym) (yc := h.yc) (st := h.st) (at_ := h.at_) (so := h.so) (tp := h.tp) (ch := h.ch) (ac := h.ac) (sh := h.sh) (lw := fun k hk => (h.lw k hk).to (fun _ w => w.upRg) (fun _ => rfl) (fun _ _ _ => rfl) rfl) (wb := fun k hk => (h.wb k hk).to (Nat.le_refl _) (Nat.le_refl _) (Nat.le_refl _) (by rw [upM_n _ (by simp; omega)]) (fun _ => rfl) (fun _ => rfl) (fun _ => rfl) (fun _ _ _ => rfl)) (fs := h.fs) (sc := h.sc)
theorem eX_of {P : Tok → Nat → Prop} {I J : MI} (hf : Fr P I J) (hP : ∀ t i, P t i → cS t i) : eX I J := fun t i _ h2 => hf t i (fun z => h2 (hP t i z))
theorem eY_of {P : Tok → Nat → Prop} {I J : MI} (hf : Fr P I J) (hP : ∀ t i, P t i → t.1 < 40) : eY I J := fun t i h1 _ => hf t i (fun z => absurd (hP t i z) (by omega))
theorem foP_c {lj : Nat} (t : Tok) (i : Nat) (h : foP lj t i) : cS t i ∧ t.1 < 40 := by
  rcases h with (((⟨rfl, h⟩ | rfl) | (⟨rfl, h⟩ | ⟨rfl, h⟩) | (rfl | rfl | rfl | rfl | rfl)) | ⟨rfl, h⟩) <;> simp [cS]
theorem aiP_c {lj : Nat} (t : Tok) (i : Nat) (h : aiP lj t i) : cS t i ∧ t.1 < 40 := by
  unfold aiP begP mcP wldP scW at h
  rcases h with ((⟨rfl, h⟩ | rfl) | (⟨rfl, h⟩ | rfl) | ((⟨rfl, h⟩ | rfl | rfl) | (rfl | rfl | rfl | rfl | rfl)) | ((⟨rfl, h⟩ | rfl | rfl) | (rfl | rfl | rfl | rfl | rfl))) <;> simp [cS]
theorem fvP_m {b : Nat} (t : Tok) (i : Nat) (h : fvP b t i) : mSP t i := by
  rcases h with ((⟨rfl, h⟩ | rfl) | rfl) | ⟨rfl, h⟩ <;> simp [mSP, mS] <;> omega
theorem auP_m (t : Tok) (i : Nat) (h : auP t i) : mSP t i := by
  unfold auP at h
  rcases h with h | h | h | h | h
  · exact fvP_m (b := 0) t i (Or.inl h)
  · unfold bgP at h
    rcases h with ⟨h, h2⟩ | ⟨rfl, h⟩
    · rcases h with rfl | rfl | rfl | rfl | rfl | rfl <;> simp [mSP, mS] <;> omega
    · simp [mSP, mS]; omega
  · unfold owP mwP at h
    rcases h with (⟨rfl, h⟩ | ⟨rfl, h⟩ | ⟨rfl, h⟩ | ⟨rfl, h⟩) | ⟨rfl, h⟩ <;> simp [mSP, mS] <;> omega
  · unfold bgP at h
    rcases h with ⟨h, h2⟩ | ⟨rfl, h⟩
    · rcases h with rfl | rfl | rfl | rfl | rfl | rfl <;> simp [mSP, mS] <;> omega
    · simp [mSP, mS]; omega
  · unfold owP mwP at h
    rcases h with (⟨rfl, h⟩ | ⟨rfl, h⟩ | ⟨rfl, h⟩ | ⟨rfl, h⟩) | ⟨rfl, h⟩ <;> simp [mSP, mS] <;> omega
theorem K2.u4 {xs : Nat → Int32} {q n m c b : Nat} {S : Shp} {R : MR} {X Y : MI} {LX LY : ML} (h : K2 xs q n m c b S R X Y LX LY) {j : Nat} (hj : j < m) : X (11, j) 4 = Y (71, 0) j := by
  obtain ⟨lj, ke, -, -, -, -, -, -, -, h1⟩ := h.wb j hj
  exact h1
theorem ro_0 {xs : Nat → Int32} {q n m c b : Nat} {S : Shp} {R : MR} {I J : MI} {L : ML} (k : K2 xs q n m c b S R I I L L) {j : Nat} (hj : j < m) (hJ : ∀ a i, 40 ≤ a → J (a, 0) i = I (a, 0) i) : RO6 j n 0 (0, 0, 0, 0) I J := by
  obtain ⟨lj, ke, -, -, -, -, -, wa, -⟩ := k.wb j hj
  have hN := k.hN
  obtain ⟨⟨a3, -, a6, a7⟩, ⟨p, hp, p1, p2⟩, ⟨a8, b8⟩, hc, -⟩ := wa
  refine ⟨a3.trans (hJ 70 _ (by omega)).symm, (k.u4 hj).trans (hJ 71 _ (by omega)).symm, ?_, ?_, ⟨p, hp, p1, (hJ 50 _ (by omega)).trans p2⟩, fun s hs => ?_, fun s hs => ((hJ 50 _ (by omega)).trans (k.wo hs)).symm, k.bd hj⟩
  · rw [hJ 73 _ (by omega), ← a7, add_n0]
  · rw [hJ 74 _ (by omega), b8, a8]
    exact (add_n0 _).symm
  · obtain ⟨w, hw, w1, w2⟩ := hc s (by omega)
    unfold cnM ctT
    have h0 : vG (0, 0, 0, 0) s = 0 := by have := vG_le (v := (0, 0, 0, 0)) s; simp [sm] at this; exact this
    rw [hJ 50 _ (by omega), w2, w1, h0, add_n0, minI_n (by omega), show min w 99999 = w by omega]

theorem s_odds (l : Launch) {Ls : Nat} {xs : Nat → Int32} {q n m c b : Nat} {S : Shp} {I : MI} {L : ML} {R : MR} (g : KG Ls m c S R) (k : K2 xs q n m c b S R I I L L) (hq : q < 600) (x y z w : Int32) : Sr l wI mX8_odds mX9_odds [.inl x, .inl y, .inl z, .inl w] Ls xs q S I L R := by
  have hN := k.hN
  have hM := k.hM
  have hC := k.hC
  cases hx : inb x m with
  | false => exact sr1 g k hq (-1) (c_oddsN l g.xg k.xm hx y z w) (by omega) (qIp rfl) (fun J hJ k1 => ⟨_, _, c_mOddsN l g.mg k1.yn hN k1.ym hM (Or.inl hx), by omega, qIp rfl⟩)
  | true =>
    obtain ⟨j, hj, rfl⟩ := inb_of (by omega) hx
    cases hy : inb y n with
    | false => exact sr1 g k hq (-1) (c_oddsB l g.xg g.sg k.xn hN k.xm hj hM (g.rw j hj) (g.wg j hj) (Or.inl hy)) (by omega) (qIp rfl) (fun J hJ k1 => ⟨_, _, c_mOddsN l g.mg k1.yn hN k1.ym hM (Or.inr (Or.inl hy)), by omega, qIp rfl⟩)
    | true =>
      obtain ⟨s, hs, rfl⟩ := inb_of (by omega) hy
      by_cases h0 : z < 0
      · exact sr1 g k hq (-1) (c_oddsB l g.xg g.sg k.xn hN k.xm hj hM (g.rw j hj) (g.wg j hj) (Or.inr (Or.inl h0))) (by omega) (qIp rfl) (fun J hJ k1 => ⟨_, _, c_mOddsN l g.mg k1.yn hN k1.ym hM (Or.inr (Or.inr (Or.inl h0))), by omega, qIp rfl⟩)
      by_cases h1 : nI 6 < z
      · exact sr1 g k hq (-1) (c_oddsB l g.xg g.sg k.xn hN k.xm hj hM (g.rw j hj) (g.wg j hj) (Or.inr (Or.inr (Or.inl h1)))) (by omega) (qIp rfl) (fun J hJ k1 => ⟨_, _, c_mOddsN l g.mg k1.yn hN k1.ym hM (Or.inr (Or.inr (Or.inr (Or.inl h1)))), by omega, qIp rfl⟩)
      by_cases h2 : w < 0
      · exact sr1 g k hq (-1) (c_oddsB l g.xg g.sg k.xn hN k.xm hj hM (g.rw j hj) (g.wg j hj) (Or.inr (Or.inr (Or.inr (Or.inl h2))))) (by omega) (qIp rfl) (fun J hJ k1 => ⟨_, _, c_mOddsN l g.mg k1.yn hN k1.ym hM (Or.inr (Or.inr (Or.inr (Or.inr (Or.inl h2))))), by omega, qIp rfl⟩)
      by_cases h3 : nI 1 < w
      · exact sr1 g k hq (-1) (c_oddsB l g.xg g.sg k.xn hN k.xm hj hM (g.rw j hj) (g.wg j hj) (Or.inr (Or.inr (Or.inr (Or.inr (h3)))))) (by omega) (qIp rfl) (fun J hJ k1 => ⟨_, _, c_mOddsN l g.mg k1.yn hN k1.ym hM (Or.inr (Or.inr (Or.inr (Or.inr (Or.inr (h3)))))), by omega, qIp rfl⟩)
      obtain ⟨p, hp', rfl⟩ := nI_of h0
      obtain ⟨v, hv', rfl⟩ := nI_of h2
      have hp : p ≤ 6 := by
        rw [nI_ltI (by omega) hp'] at h1
        omega
      have hv : v ≤ 1 := by
        rw [nI_ltI (by omega) hv'] at h3
        omega
      by_cases h4 : n ≤ 4
      case neg => exact sr1 g k hq (-4) (c_oddsG l g.xg g.sg k.xn hN k.xm hj hM (g.rw j hj) (g.wg j hj) hs hp hv (by omega)) (by omega) (qIp rfl) (fun J hJ k1 => ⟨_, _, c_mOddsG l g.mg k1.yn hN k1.ym hM hj hs hp hv (by omega), by omega, qIp rfl⟩)
      obtain ⟨lj, ke, hlj, hRl, e2, h69, hke, wa, -⟩ := k.wb j hj
      obtain ⟨Bt, len, tl, lg, lv⟩ := k.lw lj hlj
      have hlen := tl.2.1
      have hfl := tl.2.2.2.2.2
      obtain ⟨no, hno, n1, n2⟩ := wa.2.1
      refine ⟨7, 0, 0, _, c_oddsS l g.xg g.sg k.xn hN k.xm hj hM (g.rw j hj) (g.wg j hj) g.og g.w9 k.st lg hRl lv hs hp hv h4, by omega, by omega, by omega, ?_⟩
      rintro r S1 I1 L1 R1 ⟨w1, rfl, rfl, rfl, rfl, hf, hL⟩
      have hJ : ∀ a i, 40 ≤ a → I1 (a, 0) i = I (a, 0) i := fun a i ha => hf _ _ (fun q => absurd (foP_c _ _ q).2 (by show ¬ a < 40; omega))
      have k1 : K2 xs q n m c b S1 (upM R (11, 9) 1 (some (7, lj))) I1 I1 L1 L1 := (k.upRg (z := 9) (x := some (7, lj)) (by omega)).to (eX_of hf (fun t i q => (foP_c t i q).1)) (eY_of hf (fun t i q => (foP_c t i q).2)) (fun d i => by rw [hL _ (by simp)]) (fun i => by rw [hL _ (by simp)])
      refine ⟨_, 57, _, rfl, by omega, c_mOddsS l g.mg.upRg k1.yn hN k1.ym hM hj hs hp hv h4 (tl.to (fun i => hJ 61 i (by omega)) (fun i => hJ 60 i (by omega))) ((hJ 69 _ (by omega)).trans h69) ((hJ 50 _ (by omega)).trans n2) hno ((wa.J hJ).bd hN), ?_⟩
      rintro r2 S2 I2 L2 R2 ⟨w2, rfl, rfl, rfl, rfl, rfl, hf2⟩
      refine ⟨?_, n, m, c, b, g.upRg, (k1.frM (hf2.le fvP_m)).q1 hq⟩
      have := od_t (B := Bt) (len := len) (wh := nI v) (j := s) hlen hfl h4 (show j < 9 by omega) hp hs (t := p) (m := p) (v := (0, 0, 0, 0)) (Nat.le_refl _) (by simp [sm]) (by rw [Nat.sub_self]; exact ro_0 k hj hJ)
      rw [this]
      unfold wI
      exact Eq.refl _

theorem x_of {x : Int32} {j1 j2 : Nat} (e1 : x / nI 10 = nI j1) (e2 : x - x / nI 10 * nI 10 = nI j2) : x = nI (10 * j1 + j2) := by
  rw [e1, pk_mul] at e2
  have := congrArg (fun z => z + nI (j1 * 10)) e2
  simp only [Int32.sub_add_cancel, nI_add] at this
  rw [this]
  congr 1
  omega
theorem s_strong (l : Launch) {Ls : Nat} {xs : Nat → Int32} {q n m c b : Nat} {S : Shp} {I : MI} {L : ML} {R : MR} (g : KG Ls m c S R) (k : K2 xs q n m c b S R I I L L) (hq : q < 600) (x y z : Int32) : Sr l wI mX8_strong mX9_strong [.inl x, .inl y, .inl z] Ls xs q S I L R := by
  have hN := k.hN
  have hM := k.hM
  have hC := k.hC
  cases h1 : inb (x / nI 10) c with
  | false =>
    cases h2 : inb (x - x / nI 10 * nI 10) c with
    | false => exact sr1 g k hq (-2000000000) (c_strongNN l g.xg k.xc hC g.rl h1 h2 y z) (by omega) (qIp rfl) (fun J hJ k1 => ⟨_, _, c_mStrongN l g.mg k1.yc hC (Or.inr (Or.inl h1)) z, by omega, qIp rfl⟩)
    | true =>
      obtain ⟨j2, hj2, e2⟩ := inb_of (by omega) h2
      exact sr1 g k hq (-2000000000) (c_strongNS l g.xg k.xc hC g.rl h1 e2 hj2 y z) (by omega) (qIp rfl) (fun J hJ k1 => ⟨_, _, c_mStrongN l g.mg k1.yc hC (Or.inr (Or.inl h1)) z, by omega, qIp rfl⟩)
  | true =>
    obtain ⟨j1, hj1, e1⟩ := inb_of (by omega) h1
    cases h2 : inb (x - x / nI 10 * nI 10) c with
    | false => exact sr1 g k hq (-2000000000) (c_strongSN l g.xg k.xc hC g.rl e1 hj1 h2 y z) (by omega) (qIp rfl) (fun J hJ k1 => ⟨_, _, c_mStrongN l g.mg k1.yc hC (Or.inr (Or.inr (Or.inl h2))) z, by omega, qIp rfl⟩)
    | true =>
      obtain ⟨j2, hj2, e2⟩ := inb_of (by omega) h2
      obtain ⟨B1, len1, tl1, lg1, lv1⟩ := k.lw j1 hj1
      obtain ⟨B2, len2, tl2, lg2, lv2⟩ := k.lw j2 hj2
      by_cases he : j1 = j2
      · exact sr1 g k hq (-2000000000) (c_strongE l g.xg k.xc hC g.rl e1 hj1 e2 hj2 lg1 lg2 he y z) (by omega) (qIp rfl) (fun J hJ k1 => ⟨_, _, c_mStrongN l g.mg k1.yc hC (Or.inr (Or.inr (Or.inr (Or.inl (e1.trans (by rw [he]; exact e2.symm)))))) z, by omega, qIp rfl⟩)
      by_cases y1 : y < nI 1
      · exact sr1 g k hq (-2000000000) (c_strongB l g.xg k.xc hC g.rl e1 hj1 e2 hj2 lg1 lg2 (Or.inl y1) z) (by omega) (qIp rfl) (fun J hJ k1 => ⟨_, _, c_mStrongN l g.mg k1.yc hC (Or.inr (Or.inr (Or.inr (Or.inr (Or.inl y1))))) z, by omega, qIp rfl⟩)
      by_cases y2 : nI 400 < y
      · exact sr1 g k hq (-2000000000) (c_strongB l g.xg k.xc hC g.rl e1 hj1 e2 hj2 lg1 lg2 (Or.inr y2) z) (by omega) (qIp rfl) (fun J hJ k1 => ⟨_, _, c_mStrongN l g.mg k1.yc hC (Or.inr (Or.inr (Or.inr (Or.inr (Or.inr y2))))) z, by omega, qIp rfl⟩)
      have y0 : ¬ y < 0 := fun q => y1 (Int32.lt_trans q (by decide))
      obtain ⟨a, ha', rfl⟩ := nI_of y0
      have ha : 1 ≤ a ∧ a ≤ 400 := by
        rw [nI_ltI ha' (by omega)] at y1
        rw [nI_ltI (by omega) ha'] at y2
        omega
      have hx := x_of e1 e2
      refine ⟨8, 0, 0, _, c_strongS l g.xg g.sg k.xn hN g.w9 g.w10 k.xc hC g.rl e1 hj1 e2 hj2 lg1 lg2 lv1 lv2 he ha.1 ha.2 z, by omega, by omega, by omega, ?_⟩
      rintro r S1 I1 L1 R1 ⟨w, rfl, rfl, rfl, rfl, v1, v2, J1, a1, a2, rfl⟩
      have f1 := a1.fr
      have f2 := a2.fr
      have hJ1 : ∀ t i, ¬ (cS t i ∧ t.1 < 40) → J1 t i = I t i := fun t i q => f1 t i (fun z => q (aiP_c t i z))
      have hJ : ∀ t i, ¬ (cS t i ∧ t.1 < 40) → I1 t i = I t i := fun t i q => (f2 t i (fun z => q (aiP_c t i z))).trans (hJ1 t i q)
      have hJa : ∀ a i, 40 ≤ a → I1 (a, 0) i = I (a, 0) i := fun a i ha => hJ _ _ (fun q => absurd q.2 (by show ¬ a < 40; omega))
      have k1 : K2 xs q n m c b S1 (R2 (R2 R j1) j2) I1 I1 L1 L1 := by
        have k0 : K2 xs q n m c b S1 (R2 (R2 R j1) j2) I I L1 L1 := (((k.upRg (z := 9) (x := some (7, j1)) (by omega)).upRg (z := 10) (x := some (7, j1)) (by omega)).upRg (z := 9) (x := some (7, j2)) (by omega)).upRg (z := 10) (x := some (7, j2)) (by omega)
        exact k0.to (fun t i _ h2 => hJ t i (fun q => h2 q.1)) (fun t i h1 _ => hJ t i (fun q => absurd q.2 (by omega))) (fun _ _ => rfl) (fun _ => rfl)
      have g1 : KG Ls m c S1 (R2 (R2 R j1) j2) := g.upRg.upRg.upRg.upRg
      have hd1 : (10 * j1 + j2) / 10 = j1 := by omega
      have hd2 : (10 * j1 + j2) % 10 = j2 := by omega
      have tl1J : TL B1 len1 j1 I1 := tl1.to (fun i => hJa 61 i (by omega)) (fun i => hJa 60 i (by omega))
      have tl2J : TL B2 len2 j2 I1 := tl2.to (fun i => hJa 61 i (by omega)) (fun i => hJa 60 i (by omega))
      have cm := c_mStrongS l (L := L1) g1.mg k1.yn hN k1.yc hC (x := 10 * j1 + j2) (by omega) (B1 := B1) (B2 := B2) (len1 := len1) (len2 := len2) (by rw [hd1]; exact tl1J) (by rw [hd2]; exact tl2J) (by omega) (by omega) (by omega) ha z
      rw [hd1, hd2] at cm
      rw [hx]
      refine ⟨v1 - v2, 53, _, rfl, by omega, cm, ?_⟩
      rintro r2 S2 I2 L2 R2' ⟨w2, rfl, rfl, rfl, rfl, u1, u2, M1, b1, b2, rfl⟩
      have g1f := aiM_fr hN b1
      have g2f := aiM_fr hN b2
      have hw1 : ∀ s, s < n → I (2, 0) s = I1 (50, 0) s := fun s hs => ((hJa 50 _ (by omega)).trans (k.wo hs)).symm
      have q1 := ai_t tl1.2.1 tl1.2.2.2.2.2 hN hw1 a1 b1
      have hw2 : ∀ s, s < n → J1 (2, 0) s = M1 (50, 0) s := fun s hs => by
        rw [hJ1 _ _ (by simp [cS]), g1f _ _ (fun q => by have := auP_m _ _ q; simp [mSP, mS] at this; omega)]
        exact hw1 s hs
      have q2 := ai_t tl2.2.1 tl2.2.2.2.2.2 hN hw2 a2 b2
      refine ⟨by rw [q1, q2]; unfold wI; exact Eq.refl _, n, m, c, b, g1, ((k1.frM (g1f.le auP_m)).frM (g2f.le auP_m)).q1 hq⟩
