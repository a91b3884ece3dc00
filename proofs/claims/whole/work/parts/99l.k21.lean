/-! world on both sides -/
def wlX (m : Nat) (t : Tok) (i : Nat) : Prop := (11 ≤ t.1 ∧ t.1 ≤ 17 ∧ t.2 = m) ∨ (t = (0, 0) ∧ i = 5)
def wlY (m : Nat) (t : Tok) (i : Nat) : Prop := bgP m t i ∨ (t = (40, 0) ∧ i = 18)
theorem wlX_x {m : Nat} {t : Tok} {i : Nat} (h : wlX m t i) : t.1 < 40 := by
  unfold wlX at h
  rcases h with h | ⟨rfl, -⟩
  · omega
  · simp
theorem wlY_y {m : Nat} {t : Tok} {i : Nat} (h : wlY m t i) : 40 ≤ t.1 := by
  unfold wlY bgP at h
  rcases h with (⟨rfl | rfl | rfl | rfl | rfl | rfl, -⟩ | ⟨rfl, -⟩) | ⟨rfl, -⟩ <;> simp
theorem wrlI_w {I : MI} {m a u : Nat} {z : Int32} : Fr (wlX m) I (wrlI I m a u z) := fun t i q => by
  unfold wlX at q
  have h11 : t ≠ (11, m) := fun e => q (Or.inl (by rw [e]; simp))
  have h12 : t ≠ (12, m) := fun e => q (Or.inl (by rw [e]; simp))
  unfold wrlI begI
  rw [show upM _ (0, 0) 5 _ t i = _ from if_neg (fun z => q (Or.inr z)), upM_n _ h11, upM_n _ h11, upM_n _ h11, upM_n _ h11, upT_n _ h12, upM_n _ h11, upM_n _ h11, upM_n _ h11, upM_n _ h11, upM_n _ h11]
  exact IWn_fr t i (fun z => q (Or.inl z))
theorem wrlI_v {I : MI} {m a u : Nat} {z : Int32} : wrlI I m a u z (11, m) 2 = nI (a / 10) ∧ wrlI I m a u z (11, m) 3 = nI (a % 10) ∧ wrlI I m a u z (11, m) 4 = nI (u / 10000) ∧ wrlI I m a u z (11, m) 5 = nI (u % 10000) ∧ wrlI I m a u z (11, m) 6 = z ∧ wrlI I m a u z (11, m) 7 = nI 0 ∧ wrlI I m a u z (11, m) 8 = nI 0 ∧ wrlI I m a u z (11, m) 9 = 0 ∧ (∀ s, s < 12 → wrlI I m a u z (12, m) s = nI 0) ∧ wrlI I m a u z (0, 0) 5 = nI (m + 1) := by
  obtain ⟨b3, b5, b6, b7, b8, b12⟩ := begI_v (X := IWn I m) (k := m) (z := z)
  have b9 : begI (IWn I m) m z (11, m) 9 = 0 := by
    unfold begI IWn
    rw [upT_n _ (by simp)]
    simp [upM, upT]
  unfold wrlI
  refine ⟨?_, ?_, ?_, ?_, ?_, ?_, ?_, ?_, fun s hs => ?_, ?_⟩
  · rw [upM_n _ (by simp), upM_k _ _ (by omega), upM_k _ _ (by omega), upM_k _ _ (by omega), upM_s]
  · rw [upM_n _ (by simp), upM_k _ _ (by omega), upM_k _ _ (by omega), upM_s]
  · rw [upM_n _ (by simp), upM_k _ _ (by omega), upM_s]
  · rw [upM_n _ (by simp), upM_s]
  · rw [upM_n _ (by simp), upM_k _ _ (by omega), upM_k _ _ (by omega), upM_k _ _ (by omega), upM_k _ _ (by omega)]; exact b6
  · rw [upM_n _ (by simp), upM_k _ _ (by omega), upM_k _ _ (by omega), upM_k _ _ (by omega), upM_k _ _ (by omega)]; exact b7
  · rw [upM_n _ (by simp), upM_k _ _ (by omega), upM_k _ _ (by omega), upM_k _ _ (by omega), upM_k _ _ (by omega)]; exact b8
  · rw [upM_n _ (by simp), upM_k _ _ (by omega), upM_k _ _ (by omega), upM_k _ _ (by omega), upM_k _ _ (by omega)]; exact b9
  · rw [upM_n _ (by simp), upM_n _ (by simp), upM_n _ (by simp), upM_n _ (by simp), upM_n _ (by simp)]; exact b12 s hs
  · rw [upM_s]

theorem s_world (l : Launch) {Ls : Nat} {xs : Nat → Int32} {q n m c b : Nat} {S : Shp} {I : MI} {L : ML} {R : MR} (g : KG Ls m c S R) (k : K2 xs q n m c b S R I I L L) (hq : q < 600) (x y z : Int32) : Sr l wI mX8_world mX9_world [.inl x, .inl y, .inl z] Ls xs q S I L R := by
  have hN := k.hN
  have hM := k.hM
  have hC := k.hC
  by_cases hx0 : x < 0
  · exact sr1 g k hq (-1) (c_worldL l (Or.inl hx0) z) (by omega) (qIp rfl) (fun J hJ k1 => ⟨_, _, c_mWorldB l g.mg k1.yc hC (Or.inl hx0) z, by omega, qIp rfl⟩)
  by_cases hy0 : y < 0
  · exact sr1 g k hq (-1) (c_worldL l (Or.inr hy0) z) (by omega) (qIp rfl) (fun J hJ k1 => ⟨_, _, c_mWorldB l g.mg k1.yc hC (Or.inr (Or.inr (Or.inr (Or.inl hy0)))) z, by omega, qIp rfl⟩)
  obtain ⟨a, ha, rfl⟩ := nI_of hx0
  obtain ⟨u, hu, rfl⟩ := nI_of hy0
  have ed : nI a / nI 10 = nI (a / 10) := pk_div ha (by omega) (by omega)
  have er : nI a - nI a / nI 10 * nI 10 = nI (a % 10) := pk_rem ha (by omega) (by omega)
  by_cases hl : c ≤ a / 10
  · exact sr1 g k hq (-1) (c_worldN l g.xg k.xc hC ha hu hl z) (by omega) (qIp rfl) (fun J hJ k1 => ⟨_, _, c_mWorldB l g.mg k1.yc hC (Or.inr (Or.inl (by rw [ed, inb_nI (by omega) (by omega), decide_eq_false_iff_not]; omega))) z, by omega, qIp rfl⟩)
  have hl : a / 10 < c := by omega
  by_cases h2 : 2 < a % 10
  · exact sr1 g k hq (-1) (c_worldB l g.xg k.xc hC ha hu hl (g.rl _ hl) (Or.inl h2) z) (by omega) (qIp rfl) (fun J hJ k1 => ⟨_, _, c_mWorldB l g.mg k1.yc hC (Or.inr (Or.inr (Or.inl (by rw [er, nI_ltI (by omega) (by omega)]; exact h2)))) z, by omega, qIp rfl⟩)
  by_cases h9 : 999 < u / 10000
  · exact sr1 g k hq (-1) (c_worldB l g.xg k.xc hC ha hu hl (g.rl _ hl) (Or.inr h9) z) (by omega) (qIp rfl) (fun J hJ k1 => ⟨_, _, c_mWorldB l g.mg k1.yc hC (Or.inr (Or.inr (Or.inr (Or.inr (by rw [nI_ltI (by omega) hu]; omega))))) z, by omega, qIp rfl⟩)
  have h2' : a % 10 ≤ 2 := by omega
  have h9' : u / 10000 ≤ 999 := by omega
  by_cases hm9 : m = 9
  · exact sr1 g k hq (-3) (c_worldF l g.xg k.xc hC ha hu hl (g.rl _ hl) h2' h9' k.xm hm9 z) (by omega) (qIp rfl) (fun J hJ k1 => ⟨_, _, c_mWorldF l g.mg k1.yc hC ha (by omega) hl h2' (by rw [k1.ym, hm9]) z, by omega, qIp rfl⟩)
  have hm : m < 9 := by omega
  have hF : ∀ j, 11 ≤ j → j ≤ 17 → (S (j, m)).1 = 0 := fun j h1 h2 => g.fw m (Nat.le_refl _) hm j h1 h2
  refine ⟨3, 7, 271, _, c_worldS l g.xg k.xc hC ha hu hl (g.rl _ hl) h2' h9' k.xm hm hF z, by omega, by omega, by omega, ?_⟩
  rintro r S1 I1 L1 R1 ⟨v, rfl, eS, eI, eL, eR, rfl⟩
  have xk : SK S S1 := by rw [eS]; exact SWn_k hF
  have rk : RK S R R1 := by rw [eR]; exact ((RWn_k hF).law).a10
  have hwg : WG m S1 R1 := by
    obtain ⟨a1, a2, a3, a4, a5, a6, a7, a8, a9, a10, a11, a12, a13, a14⟩ := wg_new S R m
    unfold wrlR at eR
    exact ⟨by rw [eS]; exact a1, by rw [eS]; exact a2, by rw [eS]; exact a3, by rw [eS]; exact a4, by rw [eS]; exact a5, by rw [eS]; exact a6, by rw [eS]; exact a7, by rw [eR, upM_n _ (by simp), upM_k _ _ (by omega)]; exact a8, by rw [eR, upM_n _ (by simp), upM_k _ _ (by omega)]; exact a9, by rw [eR, upM_n _ (by simp), upM_k _ _ (by omega)]; exact a10, by rw [eR, upM_n _ (by simp), upM_k _ _ (by omega)]; exact a11, by rw [eR, upM_n _ (by simp), upM_k _ _ (by omega)]; exact a12, by rw [eR, upM_n _ (by simp), upM_k _ _ (by omega)]; exact a13, by rw [eR, upM_n _ (by simp), upM_k _ _ (by omega)]; exact a14⟩
  have sO : ∀ a i, ¬ (i = m ∧ 11 ≤ a ∧ a ≤ 17) → S1 (a, i) = S (a, i) := fun a i q => by
    rw [eS]
    unfold SWn
    rw [upT_n _ (fun z => by injection z with z1 z2; omega), upT_n _ (fun z => by injection z with z1 z2; omega), upT_n _ (fun z => by injection z with z1 z2; omega), upT_n _ (fun z => by injection z with z1 z2; omega), upT_n _ (fun z => by injection z with z1 z2; omega), upT_n _ (fun z => by injection z with z1 z2; omega), upT_n _ (fun z => by injection z with z1 z2; omega)]
  have rO : ∀ a i x, ¬ (a = 10) → ¬ (i = m ∧ 11 ≤ a ∧ a ≤ 17) → R1 (a, i) x = R (a, i) x := fun a i x q1 q2 => by
    rw [eR]
    unfold wrlR RWn
    rw [upM_n _ (fun z => by injection z with z1 z2; omega), upM_n _ (fun z => by injection z with z1 z2; omega), upM_n _ (fun z => by injection z with z1 z2; omega), upM_n _ (fun z => by injection z with z1 z2; omega), upT_n _ (fun z => by injection z with z1 z2; omega), upM_n _ (fun z => by injection z with z1 z2; omega), upT_n _ (fun z => by injection z with z1 z2; omega), upM_n _ (fun z => by injection z with z1 z2; omega), upT_n _ (fun z => by injection z with z1 z2; omega), upM_n _ (fun z => by injection z with z1 z2; omega), upT_n _ (fun z => by injection z with z1 z2; omega), upM_n _ (fun z => by injection z with z1 z2; omega), upT_n _ (fun z => by injection z with z1 z2; omega), upM_n _ (fun z => by injection z with z1 z2; omega), upT_n _ (fun z => by injection z with z1 z2; omega), upT_n _ (fun z => by injection z with z1 z2; omega)]
  have r10 : ∀ x, R1 (10, 0) x = if x = m then some (11, m) else R (10, 0) x := fun x => by
    rw [eR]
    unfold wrlR
    by_cases e : x = m
    · rw [if_pos e, e, upM_s]
    · rw [if_neg e, upM_k _ _ e]
      unfold RWn
      rw [upM_n _ (by simp), upM_n _ (by simp), upM_n _ (by simp), upT_n _ (by simp), upM_n _ (by simp), upT_n _ (by simp), upM_n _ (by simp), upT_n _ (by simp), upM_n _ (by simp), upT_n _ (by simp), upM_n _ (by simp), upT_n _ (by simp), upM_n _ (by simp), upT_n _ (by simp), upT_n _ (by simp)]
  have r11 : R1 (11, m) 1 = some (7, a / 10) := by
    rw [eR]
    unfold wrlR
    rw [upM_n _ (by simp), upM_s]
  have hI1 : ∀ t i, ¬ wlX m t i → I1 t i = I t i := fun t i q => by rw [eI]; exact wrlI_w t i q
  have hJ : ∀ a i, 40 ≤ a → I1 (a, 0) i = I (a, 0) i := fun a i ha => hI1 _ _ (fun z => by have := wlX_x z; simp only at this; omega)
  refine ⟨nI m, 3, _, rfl, by omega, c_mWorldS l (g.mg.ext xk rk) ((hJ 40 _ (by omega)).trans k.yc) hC ha (by omega) hl h2' ((hJ 40 _ (by omega)).trans k.ym) hm z, ?_⟩
  rintro r2 S2 F L2 R2 ⟨v, rfl, rfl, rfl, rfl, rfl, hF2⟩
  have hf2 : Fr (wlY m) I1 F := by
    rw [hF2]
    exact Fr.up (bgnI_w.le (fun t i z => Or.inl z)) (Or.inr ⟨rfl, rfl⟩)
  have hX : ∀ t i, t.1 < 40 → ¬ wlX m t i → F t i = I t i := fun t i ht q => (hf2 t i (fun z => by have := wlY_y z; omega)).trans (hI1 t i q)
  have hY : ∀ t i, 40 ≤ t.1 → ¬ wlY m t i → F t i = I t i := fun t i ht q => (hf2 t i q).trans (hI1 t i (fun z => by have := wlX_x z; omega))
  have hF1 : ∀ t i, t.1 < 40 → F t i = I1 t i := fun t i ht => hf2 t i (fun z => by have := wlY_y z; omega)
  obtain ⟨x2, x3, x4, x5, x6, x7, x8, x9, x12, x05⟩ := wrlI_v (I := I) (m := m) (a := a) (u := u) (z := z)
  rw [← eI] at x2 x3 x4 x5 x6 x7 x8 x9 x12 x05
  have hY18 : F (40, 0) 18 = nI (m + 1) := by rw [hF2, upM_s]
  have hwa : WA m n 0 F F := by
    refine ⟨⟨?_, Or.inr ?_, ?_, ?_⟩, ⟨u % 10000, by omega, ?_, ?_⟩, ⟨?_, ?_⟩, fun s hs => ⟨0, by omega, ?_, ?_⟩, fun t ht => absurd ht (by omega)⟩
    · rw [hF1 _ _ (by simp), x3, hF2, upM_n _ (by simp), bgnI_70]
    · rw [hF1 _ _ (by simp), x4, hF2, upM_n _ (by simp), bgnI_71]
    · rw [hF1 _ _ (by simp), x6, hF2, upM_n _ (by simp), bgnI_72]
    · rw [hF1 _ _ (by simp), x7, hF2, upM_n _ (by simp), bgnI_73]
    · rw [hF1 _ _ (by simp), x5]
    · rw [hF2, upM_n _ (by simp), bgnI_no]
    · rw [hF1 _ _ (by simp), x8]
    · rw [hF2, upM_n _ (by simp), bgnI_74]
    · rw [hF1 _ _ (by simp), x12 s hs]
    · rw [hF2, upM_n _ (by simp), bgnI_ct hs]
  have hwj : WB m (q + 1) n c R2 F F := by
    refine ⟨a / 10, 0, hl, r11, ?_, ?_, by omega, hwa, ?_, ?_⟩
    · rw [hF1 _ _ (by simp), x2]
    · rw [hF2, upM_n _ (by simp), bgnI_69]
    · rw [hF1 _ _ (by simp), x9, hY _ _ (by simp) (by simp [wlY, bgP]), k.fs m (Nat.le_refl _) hm]
    · rw [hF1 _ _ (by simp), x4, hF2, upM_n _ (by simp), bgnI_71]
  have hLL : L2 = L := eL
  refine ⟨rfl, n, m + 1, c, b, ?_, ?_⟩
  · exact KG.mk (xg := g.xg.ext xk rk) (sg := g.sg.ext xk rk) (tg := g.tg.ext xk rk) (hg := g.hg.ext xk rk) (ag := g.ag.ext xk rk) (og := g.og.ext xk rk) (mg := g.mg.ext xk rk) (w9 := g.w9.ext xk rk) (w10 := g.w10.ext xk rk) (dg := fun d hd => (g.dg d hd).ext xk rk)
      (wg := fun j hj => by
        by_cases e : j = m
        · rw [e]; exact hwg
        · exact (g.wg j (by omega)).ext xk rk)
      (rw := fun j hj => by
        rw [r10]
        by_cases e : j = m
        · rw [if_pos e, e]
        · rw [if_neg e]; exact g.rw j (by omega))
      (rl := fun j hj => (rO 6 0 j (by omega) (by omega)).trans (g.rl j hj))
      (fw := fun j h1 h2 i h3 h4 => by rw [sO _ _ (by omega)]; exact g.fw j (by omega) h2 i h3 h4)
      (fl := fun j h1 h2 => by rw [sO _ _ (by omega), sO _ _ (by omega), sO _ _ (by omega)]; exact g.fl j h1 h2)
      (s99 := by rw [sO _ _ (by omega)]; exact g.s99)
  · rw [hLL]
    exact K2.mk (hN := k.hN) (hM := (by omega)) (hC := k.hC) (hB := k.hB) (hq := (by omega)) (xn := ((hX _ _ (by first | (simp [wlX, wlY, bgP]; done) | (simp [wlX, wlY, bgP]; omega)) (by first | (simp [wlX, wlY, bgP]; done) | (simp [wlX, wlY, bgP]; omega))).trans k.xn)) (xm := ((hF1 _ _ (by simp)).trans x05)) (xc := ((hX _ _ (by first | (simp [wlX, wlY, bgP]; done) | (simp [wlX, wlY, bgP]; omega)) (by first | (simp [wlX, wlY, bgP]; done) | (simp [wlX, wlY, bgP]; omega))).trans k.xc)) (yn := ((hY _ _ (by first | (simp [wlX, wlY, bgP]; done) | (simp [wlX, wlY, bgP]; omega)) (by first | (simp [wlX, wlY, bgP]; done) | (simp [wlX, wlY, bgP]; omega))).trans k.yn)) (ym := hY18) (yc := ((hY _ _ (by first | (simp [wlX, wlY, bgP]; done) | (simp [wlX, wlY, bgP]; omega)) (by first | (simp [wlX, wlY, bgP]; done) | (simp [wlX, wlY, bgP]; omega))).trans k.yc)) (st := (st_to k.st (fun i => (hX _ _ (by first | (simp [wlX, wlY, bgP]; done) | (simp [wlX, wlY, bgP]; omega)) (by first | (simp [wlX, wlY, bgP]; done) | (simp [wlX, wlY, bgP]; omega)))))) (at_ := (at_to k.at_ (fun i => (hX _ _ (by first | (simp [wlX, wlY, bgP]; done) | (simp [wlX, wlY, bgP]; omega)) (by first | (simp [wlX, wlY, bgP]; done) | (simp [wlX, wlY, bgP]; omega)))) (fun i => (hX _ _ (by first | (simp [wlX, wlY, bgP]; done) | (simp [wlX, wlY, bgP]; omega)) (by first | (simp [wlX, wlY, bgP]; done) | (simp [wlX, wlY, bgP]; omega)))))) (so := (k.so.to k.hN (fun i hi => (hX _ _ (by first | (simp [wlX, wlY, bgP]; done) | (simp [wlX, wlY, bgP]; omega)) (by first | (simp [wlX, wlY, bgP]; done) | (simp [wlX, wlY, bgP]; omega)))) (fun i hi => (hY _ _ (by first | (simp [wlX, wlY, bgP]; done) | (simp [wlX, wlY, bgP]; omega)) (by first | (simp [wlX, wlY, bgP]; done) | (simp [wlX, wlY, bgP]; omega)))))) (tp := (k.tp.to (hX _ _ (by first | (simp [wlX, wlY, bgP]; done) | (simp [wlX, wlY, bgP]; omega)) (by first | (simp [wlX, wlY, bgP]; done) | (simp [wlX, wlY, bgP]; omega))) (fun i => (hX _ _ (by first | (simp [wlX, wlY, bgP]; done) | (simp [wlX, wlY, bgP]; omega)) (by first | (simp [wlX, wlY, bgP]; done) | (simp [wlX, wlY, bgP]; omega)))) (hY _ _ (by first | (simp [wlX, wlY, bgP]; done) | (simp [wlX, wlY, bgP]; omega)) (by first | (simp [wlX, wlY, bgP]; done) | (simp [wlX, wlY, bgP]; omega))) (fun i => (hY _ _ (by first | (simp [wlX, wlY, bgP]; done) | (simp [wlX, wlY, bgP]; omega)) (by first | (simp [wlX, wlY, bgP]; done) | (simp [wlX, wlY, bgP]; omega)))))) (ch := ((k.ch.to (fun t i h1 h2 => (hX _ _ (by first | (simp [wlX, wlY, bgP]; done) | (simp [wlX, wlY, bgP]; omega)) (by first | (simp [wlX, wlY, bgP]; done) | (simp [wlX, wlY, bgP]; omega)))) (hY _ _ (by first | (simp [wlX, wlY, bgP]; done) | (simp [wlX, wlY, bgP]; omega)) (by first | (simp [wlX, wlY, bgP]; done) | (simp [wlX, wlY, bgP]; omega))) (hY _ _ (by first | (simp [wlX, wlY, bgP]; done) | (simp [wlX, wlY, bgP]; omega)) (by first | (simp [wlX, wlY, bgP]; done) | (simp [wlX, wlY, bgP]; omega))) (fun t i h1 h2 => (hY _ _ (by first | (simp [wlX, wlY, bgP]; done) | (simp [wlX, wlY, bgP]; omega)) (by first | (simp [wlX, wlY, bgP]; done) | (simp [wlX, wlY, bgP]; omega))))).mono (Nat.le_refl _) (Nat.le_succ m))) (ac := (k.ac.to (hX _ _ (by first | (simp [wlX, wlY, bgP]; done) | (simp [wlX, wlY, bgP]; omega)) (by first | (simp [wlX, wlY, bgP]; done) | (simp [wlX, wlY, bgP]; omega))) (hX _ _ (by first | (simp [wlX, wlY, bgP]; done) | (simp [wlX, wlY, bgP]; omega)) (by first | (simp [wlX, wlY, bgP]; done) | (simp [wlX, wlY, bgP]; omega))) (fun i => (hX _ _ (by first | (simp [wlX, wlY, bgP]; done) | (simp [wlX, wlY, bgP]; omega)) (by first | (simp [wlX, wlY, bgP]; done) | (simp [wlX, wlY, bgP]; omega)))) (fun i => (hX _ _ (by first | (simp [wlX, wlY, bgP]; done) | (simp [wlX, wlY, bgP]; omega)) (by first | (simp [wlX, wlY, bgP]; done) | (simp [wlX, wlY, bgP]; omega)))) (hY _ _ (by first | (simp [wlX, wlY, bgP]; done) | (simp [wlX, wlY, bgP]; omega)) (by first | (simp [wlX, wlY, bgP]; done) | (simp [wlX, wlY, bgP]; omega))) (hY _ _ (by first | (simp [wlX, wlY, bgP]; done) | (simp [wlX, wlY, bgP]; omega)) (by first | (simp [wlX, wlY, bgP]; done) | (simp [wlX, wlY, bgP]; omega))) (fun i => (hY _ _ (by first | (simp [wlX, wlY, bgP]; done) | (simp [wlX, wlY, bgP]; omega)) (by first | (simp [wlX, wlY, bgP]; done) | (simp [wlX, wlY, bgP]; omega)))) (fun i => (hY _ _ (by first | (simp [wlX, wlY, bgP]; done) | (simp [wlX, wlY, bgP]; omega)) (by first | (simp [wlX, wlY, bgP]; done) | (simp [wlX, wlY, bgP]; omega)))))) (sh := (fun d hd => (k.sh d hd).to (Nat.le_refl _) k.hB (fun i => (hX _ _ (by first | (simp [wlX, wlY, bgP]; done) | (simp [wlX, wlY, bgP]; omega)) (by first | (simp [wlX, wlY, bgP]; done) | (simp [wlX, wlY, bgP]; omega)))) (hY _ _ (by first | (simp [wlX, wlY, bgP]; done) | (simp [wlX, wlY, bgP]; omega)) (by first | (simp [wlX, wlY, bgP]; done) | (simp [wlX, wlY, bgP]; omega))) (hY _ _ (by first | (simp [wlX, wlY, bgP]; done) | (simp [wlX, wlY, bgP]; omega)) (by first | (simp [wlX, wlY, bgP]; done) | (simp [wlX, wlY, bgP]; omega))) (fun i => rfl) (fun i _ => rfl))) (lw := (fun j hj => (k.lw j hj).to (fun n z => z.ext xk rk) (fun i => hX _ _ (by simp) (by simp [wlX])) (fun i h1 h2 => hY _ _ (by simp) (by simp [wlY, bgP])) (hY _ _ (by simp) (by simp [wlY, bgP])))) (wb := (fun j hj => by
        by_cases e : j = m
        · rw [e]; exact hwj
        · exact (k.wb j (by omega)).to (by omega) (Nat.le_refl _) (Nat.le_refl _) (rO 11 j 1 (by omega) (by omega)) (fun i => (hX _ _ (by simp) (by simp [wlX, e]))) (fun i => (hX _ _ (by simp) (by simp [wlX, e]))) (fun i => (hX _ _ (by simp) (by simp [wlX, e]))) (fun t i z => hY _ _ (by show 40 ≤ t; omega) (by simp [wlY, bgP]; omega)))) (fs := (fun j h1 h2 => (hY _ _ (by simp) (by simp [wlY, bgP])).trans (k.fs j (by omega) h2))) (sc := (fun i => (hY _ _ (by first | (simp [wlX, wlY, bgP]; done) | (simp [wlX, wlY, bgP]; omega)) (by first | (simp [wlX, wlY, bgP]; done) | (simp [wlX, wlY, bgP]; omega))).trans (k.sc i)))
