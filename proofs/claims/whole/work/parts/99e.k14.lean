/-! the calls that write: shift -/
theorem runB_ex {x y : Int32} {n : Nat} (hn : n < 2 ^ 30) (h : runB x y n = true) : ∃ a q, x = nI a ∧ y = nI q ∧ a + q ≤ n := by
  unfold runB at h
  rw [Bool.and_eq_true, Bool.and_eq_true, Bool.and_eq_true, decide_eq_true_eq, decide_eq_true_eq, decide_eq_true_eq, decide_eq_true_eq] at h
  obtain ⟨⟨⟨h1, h2⟩, h3⟩, h4⟩ := h
  obtain ⟨a, ha, rfl⟩ := nI_of h1
  obtain ⟨q, hq, rfl⟩ := nI_of h2
  rw [nI_ltI (by omega) ha] at h3
  rw [pk_sub (by omega), nI_ltI (by omega) hq] at h4
  exact ⟨a, q, rfl, rfl, by omega⟩
theorem shM_91 {Y : MI} {d h s z : Nat} {bd : Int32} (hm : ShM Y d h s z bd) (h0 : ¬ h = 0) (hs : s ≤ 4) : ∃ c, c < 60 ∧ Y (91, 0) d = nI c ∧ (h = 2 → c = 50 + s) ∧ (h = 1 → c < 50) := by
  obtain ⟨a, -, b, c⟩ := hm
  have hh : h = 1 ∨ h = 2 := by
    clear b c
    omega
  rcases hh with rfl | rfl
  · obtain ⟨k, k1, -, k3⟩ := b rfl
    exact ⟨k, by omega, k3, fun q => absurd q (by omega), fun _ => k1⟩
  · exact ⟨50 + s, by omega, (c rfl).1, fun _ => rfl, fun q => absurd q (by omega)⟩

theorem s_shift (l : Launch) {Ls : Nat} {xs : Nat → Int32} {q n m c b : Nat} {S : Shp} {I : MI} {L : ML} {R : MR} (g : KG Ls m c S R) (k : K2 xs q n m c b S R I I L L) (hq : q < 600) (x y w u v : Int32) : Sr l wI mX8_shift mX9_shift [.inl x, .inl y, .inl w, .inl u, .inl v] Ls xs q S I L R := by
  have hN := k.hN
  have hM := k.hM
  have hC := k.hC
  cases hx : inb x 6 with
  | false =>
    cases hw : inb w 6 with
    | false => exact sr1 g k hq (-1) (c_shiftNN l g.xg hx hw y u v) (by omega) (qIp rfl) (fun J hJ k1 => ⟨_, _, c_mShiftN l g.mg (Or.inl hx) y u v, by omega, qIp rfl⟩)
    | true =>
      obtain ⟨e, he6, rfl⟩ := inb_of (by omega) hw
      exact sr1 g k hq (-1) (c_shiftNS l g.xg hx he6 (xg_26 g.xg he6) (g.dg e he6) y u v) (by omega) (qIp rfl) (fun J hJ k1 => ⟨_, _, c_mShiftN l g.mg (Or.inl hx) y u v, by omega, qIp rfl⟩)
  | true =>
    obtain ⟨d, hd6, rfl⟩ := inb_of (by omega) hx
    cases hw : inb w 6 with
    | false => exact sr1 g k hq (-1) (c_shiftSN l g.xg hd6 (xg_26 g.xg hd6) (g.dg d hd6) hw y u v) (by omega) (qIp rfl) (fun J hJ k1 => ⟨_, _, c_mShiftN l g.mg (Or.inr hw) y u v, by omega, qIp rfl⟩)
    | true =>
    obtain ⟨e, he6, rfl⟩ := inb_of (by omega) hw
    obtain ⟨h1, s1, z1, bd1, hh1, hs1, hz1, a0, a1, a2, a3, hm1, hb1, hL1, hn1⟩ := k.sh d hd6
    obtain ⟨h2, s2, z2, bd2, hh2, hs2, hz2, b0, b1, b2, b3, hm2, hb2, hL2, hn2⟩ := k.sh e he6
    by_cases hr : shV h1 h2 s1 s2 (runB y v z1) (runB u v z2) = 0
    case neg =>
      refine sr1 g k hq (shV h1 h2 s1 s2 (runB y v z1) (runB u v z2)) (c_shiftR l g.xg hd6 (xg_26 g.xg hd6) (g.dg d hd6) he6 (xg_26 g.xg he6) (g.dg e he6) a0 b0 hh1 hh2 a2 b2 hs1 hs2 a3 b3 y u v hr) (by omega) (qIp rfl) (fun J hJ k1 => ?_)
      have m1 := hm1.J hJ
      have m2 := hm2.J hJ
      by_cases c1 : h1 = 0
      · exact ⟨_, _, c_mShiftA l g.mg hd6 he6 (m1.2.1 c1) y u v, by omega, qIp (by unfold shV; rw [if_pos (Or.inl c1)])⟩
      obtain ⟨c, hc, e91, hc2, hc1⟩ := shM_91 m1 c1 hs1
      by_cases c2 : h2 = 0
      · exact ⟨_, _, c_mShiftC l g.mg hd6 he6 hc e91 (m2.2.1 c2) y u v, by omega, qIp (by unfold shV; rw [if_pos (Or.inr c2)])⟩
      obtain ⟨f, hf, f91, hf2, hf1⟩ := shM_91 m2 c2 hs2
      by_cases c3 : ¬ h1 = 2 ∨ ¬ h2 = 2 ∨ ¬ s1 = s2
      · exact ⟨_, _, c_mShiftD l g.mg hd6 he6 hc hf (by omega) e91 f91 y u v, by omega, qIp (by unfold shV; rw [if_neg (show ¬ (h1 = 0 ∨ h2 = 0) by omega), if_pos c3])⟩
      have d1 : h1 = 2 := by omega
      have d2 : h2 = 2 := by omega
      have d3 : s1 = s2 := by omega
      subst d1 d2 d3
      have hno : runB y v z1 = false ∨ runB u v z2 = false := by
        cases r1 : runB y v z1 with
        | false => exact Or.inl rfl
        | true =>
          cases r2 : runB u v z2 with
          | false => exact Or.inr rfl
          | true =>
            rw [r1, r2] at hr
            exact absurd (by unfold shV; rw [if_neg (by decide), if_neg (show ¬ (¬ (2 : Nat) = 2 ∨ ¬ (2 : Nat) = 2 ∨ ¬ s1 = s1) by omega), if_neg (by decide)]) hr
      exact ⟨_, _, c_mShiftE l g.mg hd6 he6 (c := 50 + s1) (by omega) (by omega) (m1.2.2.2 rfl).1 (m2.2.2.2 rfl).1 (m1.2.2.2 rfl).2 (m2.2.2.2 rfl).2 hz1 hz2 hno, by omega, qIp (by unfold shV; rw [if_neg (show ¬ ((2 : Nat) = 0 ∨ (2 : Nat) = 0) by omega), if_neg (show ¬ (¬ (2 : Nat) = 2 ∨ ¬ (2 : Nat) = 2 ∨ ¬ s1 = s1) by omega), if_pos hno])⟩
    have hall : h1 = 2 ∧ h2 = 2 ∧ s1 = s2 ∧ runB y v z1 = true ∧ runB u v z2 = true := by
      unfold shV at hr
      split at hr
      · exact absurd hr (by decide)
      · split at hr
        · exact absurd hr (by decide)
        · split at hr
          · exact absurd hr (by decide)
          · rename_i q1 q2 q3
            refine ⟨by omega, by omega, by omega, ?_, ?_⟩
            · cases r : runB y v z1 with
              | true => rfl
              | false => exact absurd (Or.inl r) q3
            · cases r : runB u v z2 with
              | true => rfl
              | false => exact absurd (Or.inr r) q3
    obtain ⟨rfl, rfl, rfl, r1, r2⟩ := hall
    obtain ⟨a, p, rfl, rfl, hap⟩ := runB_ex (by omega) r1
    obtain ⟨f, p', rfl, ep, hfp⟩ := runB_ex (by omega) r2
    have hpp : p = p' := by
      have := runB_ex (by omega) r2
      exact (nI_eq (by omega) (by omega)).mp ep
    subst hpp
    have m1 := hm1.2.2.2 rfl
    have m2 := hm2.2.2.2 rfl
    refine sr2 (nI p) (fun J L' => J = I ∧ L' = upT L (28, e) (va_cpy (L (28, d)) (L (28, e)) a f p)) (c_shiftS l g.xg hd6 (xg_26 g.xg hd6) (g.dg d hd6) he6 (xg_26 g.xg he6) (g.dg e he6) a0 b0 a2 b2 hs1 a3 b3 hz1 hz2 hap hfp) (by omega) (by rintro r S' I' L' R' ⟨u, rfl, rfl, rfl, rfl, rfl, rfl⟩; exact ⟨rfl, rfl, rfl, rfl, rfl⟩) ?_
    rintro J L' ⟨rfl, hL'⟩
    refine ⟨3, _, c_mShiftS l g.mg hd6 he6 (c := 50 + s1) (by omega) (by omega) m1.1 m2.1 m1.2 m2.2 hz1 hz2 hap hfp, by omega, ?_⟩
    rintro r S' F L2 R' ⟨u, rfl, rfl, rfl, rfl, rfl, rfl⟩
    refine ⟨rfl, rfl, rfl, n, m, c, b, g, ?_⟩
    have hX : ∀ t i, t.1 < 40 → ¬ False → F t i = F t i := fun _ _ _ _ => rfl
    have hY : ∀ t i, 40 ≤ t.1 → ¬ False → F t i = F t i := fun _ _ _ _ => rfl
    have hM93 : ∀ i, cr2 L' d a e f p p (93, 0) i = if 60 * e + f ≤ i ∧ i < 60 * e + f + p then L (93, 0) (60 * d + a + (i - (60 * e + f))) else L (93, 0) i := fun i => by
      unfold cr2
      rw [upT_s, hL', upT_n _ (by simp)]
    have hM28 : ∀ d2 i, cr2 L' d a e f p p (28, d2) i = if d2 = e ∧ f ≤ i ∧ i < f + p then L (28, d) (a + (i - f)) else L (28, d2) i := fun d2 i => by
      unfold cr2 cr1
      rw [upT_n _ (by simp), upT_n _ (by simp), hL']
      by_cases e0 : d2 = e
      · subst e0
        rw [upT_s]
        unfold va_cpy
        simp only [true_and]
      · rw [upT_n _ (by simp [e0]), if_neg (fun z => e0 z.1)]
    have hLX : ∀ d2, ¬ d2 = e → ∀ i, cr2 L' d a e f p p (28, d2) i = L (28, d2) i := fun d2 e0 i => by
      rw [hM28, if_neg (fun z => e0 z.1)]
    have hLM : ∀ d2, ¬ d2 = e → d2 < 6 → ∀ i, i < 60 → cr2 L' d a e f p p (93, 0) (60 * d2 + i) = L (93, 0) (60 * d2 + i) := fun d2 e0 _ i hi => by
      rw [hM93, if_neg (by omega)]
    generalize cr2 L' d a e f p p = L3 at *
    have hsd : SH e b F F L3 L3 := ⟨2, s1, z2, bd2, by omega, hs1, hz2, b0, b1, b2, b3, hm2, hb2, fun i hi => by
        rw [hM28, hM93]
        by_cases hin : f ≤ i ∧ i < f + p
        · rw [if_pos ⟨rfl, hin⟩, if_pos (by omega), hL1 _ (by omega)]
          congr 1
          omega
        · rw [if_neg (fun z => hin z.2), if_neg (by omega)]
          exact hL2 i hi, fun q1 q2 i hi => by
        rw [hM28]
        split
        · exact hn1 rfl q2 _ (by omega)
        · exact hn2 rfl q2 i hi⟩
    exact K2.mk (hN := k.hN) (hM := k.hM) (hC := k.hC) (hB := k.hB) (hq := (by omega)) (xn := ((hX _ _ (by first | (simp; done) | (simp; omega)) (by first | (simp; done) | (simp; omega))).trans k.xn)) (xm := ((hX _ _ (by first | (simp; done) | (simp; omega)) (by first | (simp; done) | (simp; omega))).trans k.xm)) (xc := ((hX _ _ (by first | (simp; done) | (simp; omega)) (by first | (simp; done) | (simp; omega))).trans k.xc)) (yn := ((hY _ _ (by first | (simp; done) | (simp; omega)) (by first | (simp; done) | (simp; omega))).trans k.yn)) (ym := ((hY _ _ (by first | (simp; done) | (simp; omega)) (by first | (simp; done) | (simp; omega))).trans k.ym)) (yc := ((hY _ _ (by first | (simp; done) | (simp; omega)) (by first | (simp; done) | (simp; omega))).trans k.yc)) (st := (st_to k.st (fun i => (hX _ _ (by first | (simp; done) | (simp; omega)) (by first | (simp; done) | (simp; omega)))))) (at_ := (at_to k.at_ (fun i => (hX _ _ (by first | (simp; done) | (simp; omega)) (by first | (simp; done) | (simp; omega)))) (fun i => (hX _ _ (by first | (simp; done) | (simp; omega)) (by first | (simp; done) | (simp; omega)))))) (so := (k.so.to k.hN (fun i hi => (hX _ _ (by first | (simp; done) | (simp; omega)) (by first | (simp; done) | (simp; omega)))) (fun i hi => (hY _ _ (by first | (simp; done) | (simp; omega)) (by first | (simp; done) | (simp; omega)))))) (tp := (k.tp.to (hX _ _ (by first | (simp; done) | (simp; omega)) (by first | (simp; done) | (simp; omega))) (fun i => (hX _ _ (by first | (simp; done) | (simp; omega)) (by first | (simp; done) | (simp; omega)))) (hY _ _ (by first | (simp; done) | (simp; omega)) (by first | (simp; done) | (simp; omega))) (fun i => (hY _ _ (by first | (simp; done) | (simp; omega)) (by first | (simp; done) | (simp; omega)))))) (ch := ((k.ch.to (fun t i h1 h2 => (hX _ _ (by first | (simp; done) | (simp; omega)) (by first | (simp; done) | (simp; omega)))) (hY _ _ (by first | (simp; done) | (simp; omega)) (by first | (simp; done) | (simp; omega))) (hY _ _ (by first | (simp; done) | (simp; omega)) (by first | (simp; done) | (simp; omega))) (fun t i h1 h2 => (hY _ _ (by first | (simp; done) | (simp; omega)) (by first | (simp; done) | (simp; omega))))).mono (Nat.le_refl _) (Nat.le_refl _))) (ac := (k.ac.to (hX _ _ (by first | (simp; done) | (simp; omega)) (by first | (simp; done) | (simp; omega))) (hX _ _ (by first | (simp; done) | (simp; omega)) (by first | (simp; done) | (simp; omega))) (fun i => (hX _ _ (by first | (simp; done) | (simp; omega)) (by first | (simp; done) | (simp; omega)))) (fun i => (hX _ _ (by first | (simp; done) | (simp; omega)) (by first | (simp; done) | (simp; omega)))) (hY _ _ (by first | (simp; done) | (simp; omega)) (by first | (simp; done) | (simp; omega))) (hY _ _ (by first | (simp; done) | (simp; omega)) (by first | (simp; done) | (simp; omega))) (fun i => (hY _ _ (by first | (simp; done) | (simp; omega)) (by first | (simp; done) | (simp; omega)))) (fun i => (hY _ _ (by first | (simp; done) | (simp; omega)) (by first | (simp; done) | (simp; omega)))))) (sh := (fun d2 hd2 => by
      by_cases e0 : d2 = e
      · subst e0
        exact hsd
      · exact (k.sh d2 hd2).to (Nat.le_refl _) k.hB (fun i => hX _ _ (by simp) (by simp)) (hY _ _ (by simp) (by simp)) (hY _ _ (by simp) (by simp)) (hLX d2 e0) (hLM d2 e0 hd2))) (lw := (fun j hj => (k.lw j hj).to (fun _ z => z) (fun i => (hX _ _ (by first | (simp; done) | (simp; omega)) (by first | (simp; done) | (simp; omega)))) (fun i _ _ => (hY _ _ (by first | (simp; done) | (simp; omega)) (by first | (simp; done) | (simp; omega)))) (hY _ _ (by first | (simp; done) | (simp; omega)) (by first | (simp; done) | (simp; omega))))) (wb := (fun j hj => (k.wb j hj).to (by omega) (Nat.le_refl _) (Nat.le_refl _) rfl (fun i => (hX _ _ (by first | (simp; done) | (simp; omega)) (by first | (simp; done) | (simp; omega)))) (fun i => (hX _ _ (by first | (simp; done) | (simp; omega)) (by first | (simp; done) | (simp; omega)))) (fun i => (hX _ _ (by first | (simp; done) | (simp; omega)) (by first | (simp; done) | (simp; omega)))) (fun t i z => (hY _ _ (by first | (simp; done) | (simp; omega)) (by first | (simp; done) | (simp; omega)))))) (fs := (fun j h1 h2 => (hY _ _ (by first | (simp; done) | (simp; omega)) (by first | (simp; done) | (simp; omega))).trans (k.fs j h1 h2))) (sc := (fun i => (hY _ _ (by first | (simp; done) | (simp; omega)) (by first | (simp; done) | (simp; omega))).trans (k.sc i)))
