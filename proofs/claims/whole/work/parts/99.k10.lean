/-! the calls that write: come -/
def cmX (j : Nat) (t : Tok) : Prop := t = (11, j) ∨ t = (12, j) ∨ t = (16, j) ∨ t.1 = 13 ∨ t.1 = 14 ∨ t.1 = 15 ∨ t.1 = 17 ∨ t.1 = 9
def cmY (j : Nat) (t : Tok) (i : Nat) : Prop := (t = (72, 0) ∧ i = j) ∨ (t = (73, 0) ∧ i = j) ∨ (t = (74, 0) ∧ i = j) ∨ (t = (75, 0) ∧ 200 * j ≤ i ∧ i < 200 * j + 200) ∨ (t = (50, 0) ∧ 23 + 12 * j ≤ i ∧ i < 23 + 12 * j + 12) ∨ (t = (40, 0) ∧ 12 ≤ i ∧ i ≤ 16) ∨ t = (67, 0) ∨ t = (76, 0)
theorem cmY_o {j : Nat} (t : Tok) (i : Nat) (h : owP j t i) : cmY j t i := by
  unfold owP mwP at h
  rcases h with (⟨rfl, h⟩ | ⟨rfl, h⟩ | ⟨rfl, h⟩ | ⟨rfl, h⟩) | ⟨rfl, h⟩ <;> simp [cmY] <;> omega
theorem cmY_f {j : Nat} (t : Tok) (i : Nat) (h : fwP t i) : cmY j t i := by
  unfold fwP wgP woP at h
  rcases h with (⟨rfl, h⟩ | rfl) | rfl <;> simp [cmY] <;> omega
theorem cmY_m {j : Nat} (t : Tok) (i : Nat) (h : cmY j t i) : 40 ≤ t.1 := by
  unfold cmY at h
  rcases h with ⟨rfl, h⟩ | ⟨rfl, h⟩ | ⟨rfl, h⟩ | ⟨rfl, h⟩ | ⟨rfl, h⟩ | ⟨rfl, h⟩ | rfl | rfl <;> simp
theorem cmX_c {j lj : Nat} (t : Tok) (i : Nat) (h : wldP j t i ∨ scW j lj t i) : cmX j t ∧ t.1 < 40 := by
  unfold wldP scW at h
  rcases h with (⟨rfl, h⟩ | rfl | rfl) | (rfl | rfl | rfl | rfl | rfl) <;> simp [cmX]

theorem s_come (l : Launch) {Ls : Nat} {xs : Nat → Int32} {q n m c b : Nat} {S : Shp} {I : MI} {L : ML} {R : MR} (g : KG Ls m c S R) (k : K2 xs q n m c b S R I I L L) (hq : q < 600) (x y : Int32) : Sr l wI mX8_come mX9_come [.inl x, .inl y] Ls xs q S I L R := by
  have hN := k.hN
  have hM := k.hM
  have hC := k.hC
  cases hx : inb x m with
  | false => exact sr1 g k hq (-1) (c_comeN l g.xg k.xm hx y) (by omega) (qIp rfl) (fun J hJ k1 => ⟨_, _, c_mComeN l g.mg k1.ym hM (Or.inl hx), by omega, qIp rfl⟩)
  | true =>
    obtain ⟨j, hj, rfl⟩ := inb_of (by omega) hx
    by_cases h1 : y < nI 1
    · exact sr1 g k hq (-1) (c_comeB l g.xg g.sg k.xn hN k.xm hj hM (g.rw j hj) (g.wg j hj) (Or.inl h1)) (by omega) (qIp rfl) (fun J hJ k1 => ⟨_, _, c_mComeN l g.mg k1.ym hM (Or.inr (Or.inl h1)), by omega, qIp rfl⟩)
    by_cases h9 : nI 200 < y
    · exact sr1 g k hq (-1) (c_comeB l g.xg g.sg k.xn hN k.xm hj hM (g.rw j hj) (g.wg j hj) (Or.inr h9)) (by omega) (qIp rfl) (fun J hJ k1 => ⟨_, _, c_mComeN l g.mg k1.ym hM (Or.inr (Or.inr h9)), by omega, qIp rfl⟩)
    have h0 : ¬ y < 0 := fun q => h1 (Int32.lt_trans q (by decide))
    obtain ⟨a, ha', rfl⟩ := nI_of h0
    have ha : 1 ≤ a ∧ a ≤ 200 := by
      rw [nI_ltI ha' (by omega)] at h1
      rw [nI_ltI (by omega) ha'] at h9
      omega
    obtain ⟨lj, ke, hlj, hRl, w3, w4, w5, wa, w6, w7⟩ := k.wb j hj
    obtain ⟨Bt, len, tl, lg, lv⟩ := k.lw lj hlj
    have hlen := tl.2.1
    have hfl := tl.2.2.2.2.2
    obtain ⟨no, hno, n1, n2⟩ := wa.2.1
    have hw : ∀ s, s < n → I (2, 0) s = I (50, 0) s := fun s hs => (k.wo hs).symm
    have hwf := manyI_w (cd := cdT Bt len) (len := lnT Bt len) (k := j) (n := n) (I := I) (ke := ke) a
    refine sr2 (nI ((manyI (cdT Bt len) (lnT Bt len) j n a I ke).2 - ke)) (fun J L' => Fr (scW j lj) (manyI (cdT Bt len) (lnT Bt len) j n a I ke).1 J ∧ L' = L) (c_comeS l g.xg g.sg k.xn hN k.xm hj hM (g.rw j hj) (g.wg j hj) lg hRl lv ha wa.2.2.1.1 (by omega)) (by omega) (by rintro r S' I' L' R' ⟨v, rfl, rfl, rfl, rfl, rfl, hf⟩; exact ⟨rfl, rfl, rfl, hf, rfl⟩) ?_
    rintro J L' ⟨hf, rfl⟩
    have hIJ : ∀ t i, ¬ (cmX j t ∧ t.1 < 40) → J t i = I t i := fun t i q => (hf t i (fun z => q (cmX_c t i (Or.inr z)))).trans (hwf t i (fun z => q (cmX_c (lj := lj) t i (Or.inl z))))
    have hJ : ∀ a i, 40 ≤ a → J (a, 0) i = I (a, 0) i := fun a i ha => hIJ _ _ (fun z => absurd z.2 (by show ¬ a < 40; omega))
    have waJ := wa.J hJ
    obtain ⟨e2, wm⟩ := WA.many hlen hfl hN (fun s hs => (hw s hs).trans (hJ 50 _ (by omega)).symm) waJ a
    have mw := manyMi_w (B := Bt) (len := len) hN waJ.2.2.1.2 (waJ.bd hN) a
    refine ⟨52, _, c_mComeS l g.mg ((hJ 40 _ (by omega)).trans k.yn) hN ((hJ 40 _ (by omega)).trans k.ym) hM hj (tl.to (fun i => hJ 61 i (by omega)) (fun i => hJ 60 i (by omega))) ((hJ 69 _ (by omega)).trans w4) ((hJ 50 _ (by omega)).trans n2) hno waJ.2.2.1.2 (by omega) (waJ.bd hN) ha, by omega, ?_⟩
    rintro r S' F L2 R' ⟨v, rfl, rfl, rfl, rfl, rfl, hf2⟩
    refine ⟨by rw [← e2]; rfl, rfl, rfl, n, m, c, b, g, ?_⟩
    have hJF : ∀ t i, ¬ cmY j t i → F t i = J t i := fun t i q => (hf2 t i (fun z => q (cmY_f t i z))).trans (mw.1 t i (fun z => q (cmY_o t i z)))
    have hX : ∀ t i, t.1 < 40 → ¬ cmX j t → F t i = I t i := fun t i ht q => (hJF t i (fun z => absurd (cmY_m t i z) (by omega))).trans (hIJ t i (fun z => q z.1))
    have hY : ∀ t i, 40 ≤ t.1 → ¬ cmY j t i → F t i = I t i := fun t i ht q => (hJF t i q).trans (hIJ t i (fun z => absurd z.2 (by omega)))
    have hFJ : ∀ t i, t.1 < 40 → F t i = J t i := fun t i ht => hJF t i (fun z => absurd (cmY_m t i z) (by omega))
    have w11 : ∀ i, ¬ (i = 6 ∨ i = 7 ∨ i = 8) → F (11, j) i = I (11, j) i := fun i hi => ((hFJ _ _ (by simp)).trans (hf _ _ (by simp [scW]))).trans (hwf _ _ (by simp [wldP]; omega))
    have hwj : WB j (q + 1) n c R' F F := by
      refine ⟨lj, _, hlj, hRl, ?_, ?_, ?_, ((wm.frX hf).frY hf2).to (fun i _ _ => hFJ _ _ (by simp)) (fun i => hFJ _ _ (by simp)) (fun i => hFJ _ _ (by simp)) (fun _ _ _ => rfl), ?_, ?_⟩
      · rw [w11 _ (by omega)]; exact w3
      · rw [hY _ _ (by simp) (by simp [cmY])]; exact w4
      · rw [e2]; have := mw.2.2.2.2; omega
      · rw [w11 _ (by omega), hY _ _ (by simp) (by simp [cmY])]; exact w6
      · rw [w11 _ (by omega), hY _ _ (by simp) (by simp [cmY])]; exact w7
    exact K2.mk (hN := k.hN) (hM := k.hM) (hC := k.hC) (hB := k.hB) (hq := (by omega)) (xn := ((hX _ _ (by first | (simp [cmX, cmY]; done) | (simp [cmX, cmY]; omega)) (by first | (simp [cmX, cmY]; done) | (simp [cmX, cmY]; omega))).trans k.xn)) (xm := ((hX _ _ (by first | (simp [cmX, cmY]; done) | (simp [cmX, cmY]; omega)) (by first | (simp [cmX, cmY]; done) | (simp [cmX, cmY]; omega))).trans k.xm)) (xc := ((hX _ _ (by first | (simp [cmX, cmY]; done) | (simp [cmX, cmY]; omega)) (by first | (simp [cmX, cmY]; done) | (simp [cmX, cmY]; omega))).trans k.xc)) (yn := ((hY _ _ (by first | (simp [cmX, cmY]; done) | (simp [cmX, cmY]; omega)) (by first | (simp [cmX, cmY]; done) | (simp [cmX, cmY]; omega))).trans k.yn)) (ym := ((hY _ _ (by first | (simp [cmX, cmY]; done) | (simp [cmX, cmY]; omega)) (by first | (simp [cmX, cmY]; done) | (simp [cmX, cmY]; omega))).trans k.ym)) (yc := ((hY _ _ (by first | (simp [cmX, cmY]; done) | (simp [cmX, cmY]; omega)) (by first | (simp [cmX, cmY]; done) | (simp [cmX, cmY]; omega))).trans k.yc)) (st := (st_to k.st (fun i => (hX _ _ (by first | (simp [cmX, cmY]; done) | (simp [cmX, cmY]; omega)) (by first | (simp [cmX, cmY]; done) | (simp [cmX, cmY]; omega)))))) (at_ := (at_to k.at_ (fun i => (hX _ _ (by first | (simp [cmX, cmY]; done) | (simp [cmX, cmY]; omega)) (by first | (simp [cmX, cmY]; done) | (simp [cmX, cmY]; omega)))) (fun i => (hX _ _ (by first | (simp [cmX, cmY]; done) | (simp [cmX, cmY]; omega)) (by first | (simp [cmX, cmY]; done) | (simp [cmX, cmY]; omega)))))) (so := (k.so.to k.hN (fun i hi => (hX _ _ (by first | (simp [cmX, cmY]; done) | (simp [cmX, cmY]; omega)) (by first | (simp [cmX, cmY]; done) | (simp [cmX, cmY]; omega)))) (fun i hi => (hY _ _ (by first | (simp [cmX, cmY]; done) | (simp [cmX, cmY]; omega)) (by first | (simp [cmX, cmY]; done) | (simp [cmX, cmY]; omega)))))) (tp := (k.tp.to (hX _ _ (by first | (simp [cmX, cmY]; done) | (simp [cmX, cmY]; omega)) (by first | (simp [cmX, cmY]; done) | (simp [cmX, cmY]; omega))) (fun i => (hX _ _ (by first | (simp [cmX, cmY]; done) | (simp [cmX, cmY]; omega)) (by first | (simp [cmX, cmY]; done) | (simp [cmX, cmY]; omega)))) (hY _ _ (by first | (simp [cmX, cmY]; done) | (simp [cmX, cmY]; omega)) (by first | (simp [cmX, cmY]; done) | (simp [cmX, cmY]; omega))) (fun i => (hY _ _ (by first | (simp [cmX, cmY]; done) | (simp [cmX, cmY]; omega)) (by first | (simp [cmX, cmY]; done) | (simp [cmX, cmY]; omega)))))) (ch := ((k.ch.to (fun t i h1 h2 => (hX _ _ (by first | (simp [cmX, cmY]; done) | (simp [cmX, cmY]; omega)) (by first | (simp [cmX, cmY]; done) | (simp [cmX, cmY]; omega)))) (hY _ _ (by first | (simp [cmX, cmY]; done) | (simp [cmX, cmY]; omega)) (by first | (simp [cmX, cmY]; done) | (simp [cmX, cmY]; omega))) (hY _ _ (by first | (simp [cmX, cmY]; done) | (simp [cmX, cmY]; omega)) (by first | (simp [cmX, cmY]; done) | (simp [cmX, cmY]; omega))) (fun t i h1 h2 => (hY _ _ (by first | (simp [cmX, cmY]; done) | (simp [cmX, cmY]; omega)) (by first | (simp [cmX, cmY]; done) | (simp [cmX, cmY]; omega))))).mono (Nat.le_refl _) (Nat.le_refl _))) (ac := (k.ac.to (hX _ _ (by first | (simp [cmX, cmY]; done) | (simp [cmX, cmY]; omega)) (by first | (simp [cmX, cmY]; done) | (simp [cmX, cmY]; omega))) (hX _ _ (by first | (simp [cmX, cmY]; done) | (simp [cmX, cmY]; omega)) (by first | (simp [cmX, cmY]; done) | (simp [cmX, cmY]; omega))) (fun i => (hX _ _ (by first | (simp [cmX, cmY]; done) | (simp [cmX, cmY]; omega)) (by first | (simp [cmX, cmY]; done) | (simp [cmX, cmY]; omega)))) (fun i => (hX _ _ (by first | (simp [cmX, cmY]; done) | (simp [cmX, cmY]; omega)) (by first | (simp [cmX, cmY]; done) | (simp [cmX, cmY]; omega)))) (hY _ _ (by first | (simp [cmX, cmY]; done) | (simp [cmX, cmY]; omega)) (by first | (simp [cmX, cmY]; done) | (simp [cmX, cmY]; omega))) (hY _ _ (by first | (simp [cmX, cmY]; done) | (simp [cmX, cmY]; omega)) (by first | (simp [cmX, cmY]; done) | (simp [cmX, cmY]; omega))) (fun i => (hY _ _ (by first | (simp [cmX, cmY]; done) | (simp [cmX, cmY]; omega)) (by first | (simp [cmX, cmY]; done) | (simp [cmX, cmY]; omega)))) (fun i => (hY _ _ (by first | (simp [cmX, cmY]; done) | (simp [cmX, cmY]; omega)) (by first | (simp [cmX, cmY]; done) | (simp [cmX, cmY]; omega)))))) (sh := (fun d hd => (k.sh d hd).to (Nat.le_refl _) k.hB (fun i => (hX _ _ (by first | (simp [cmX, cmY]; done) | (simp [cmX, cmY]; omega)) (by first | (simp [cmX, cmY]; done) | (simp [cmX, cmY]; omega)))) (hY _ _ (by first | (simp [cmX, cmY]; done) | (simp [cmX, cmY]; omega)) (by first | (simp [cmX, cmY]; done) | (simp [cmX, cmY]; omega))) (hY _ _ (by first | (simp [cmX, cmY]; done) | (simp [cmX, cmY]; omega)) (by first | (simp [cmX, cmY]; done) | (simp [cmX, cmY]; omega))) (fun i => rfl) (fun i _ => rfl))) (lw := (fun j hj => (k.lw j hj).to (fun _ z => z) (fun i => (hX _ _ (by first | (simp [cmX, cmY]; done) | (simp [cmX, cmY]; omega)) (by first | (simp [cmX, cmY]; done) | (simp [cmX, cmY]; omega)))) (fun i _ _ => (hY _ _ (by first | (simp [cmX, cmY]; done) | (simp [cmX, cmY]; omega)) (by first | (simp [cmX, cmY]; done) | (simp [cmX, cmY]; omega)))) (hY _ _ (by first | (simp [cmX, cmY]; done) | (simp [cmX, cmY]; omega)) (by first | (simp [cmX, cmY]; done) | (simp [cmX, cmY]; omega))))) (wb := (fun k2 hk2 => by
      by_cases e : k2 = j
      · subst e
        exact hwj
      · exact (k.wb k2 hk2).to (by omega) (Nat.le_refl _) (Nat.le_refl _) rfl (fun i => hX _ _ (by simp) (by simp [cmX, e])) (fun i => hX _ _ (by simp) (by simp [cmX, e])) (fun i => hX _ _ (by simp) (by simp [cmX, e])) (fun t i z => hY _ _ (by show 40 ≤ t; omega) (by simp [cmY]; omega)))) (fs := (fun j h1 h2 => (hY _ _ (by first | (simp [cmX, cmY]; done) | (simp [cmX, cmY]; omega)) (by first | (simp [cmX, cmY]; done) | (simp [cmX, cmY]; omega))).trans (k.fs j h1 h2))) (sc := (fun i => (hY _ _ (by first | (simp [cmX, cmY]; done) | (simp [cmX, cmY]; omega)) (by first | (simp [cmX, cmY]; done) | (simp [cmX, cmY]; omega))).trans (k.sc i)))
