/-! undo and redo: a CHANGE put back -/
theorem inb_m1 {n : Nat} : inb (-1) n = false := by
  unfold inb
  rw [show decide ((0 : Int32) ≤ -1) = false from by decide]
  rfl
theorem inb_y {j n : Nat} (h : j < n) (hn : n < 2 ^ 31) : inb (nI j) n = true := by
  rw [inb_nI (by omega) hn]
  simp [h]

theorem K2.app {xs : Nat → Int32} {q n m c b : Nat} {S : Shp} {R : MR} {I F : MI} {L : ML} {w s : Int32} {idx lim a : Nat} (k : K2 xs q n m c b S R I I L L) (hq : q < 600) (hcx : CX n m w s idx lim) (ha : a ≤ lim) (hXF : ∀ t i, t.1 < 40 → ¬ (t = (18, 0) ∧ i = 4) → F t i = appI I n m w s (nI a) t i) (hYF : ∀ t i, 40 ≤ t.1 → ¬ (t = (40, 0) ∧ i = 5) → F t i = upM I (50, 0) idx (nI a) t i) (hch : CH n m F F) : K2 xs (q + 1) n m c b S R F F L L := by
  have hN := k.hN
  have hM := k.hM
  have hy0 : F (50, 0) idx = nI a := (hYF _ _ (by simp) (by simp)).trans (upM_s _ _ _ _)
  have hY : ∀ t i, 40 ≤ t.1 → ¬ ((t = (40, 0) ∧ i = 5) ∨ (t = (50, 0) ∧ i = idx)) → F t i = I t i := fun t i ht hw => (hYF t i ht (fun z => hw (Or.inl z))).trans (if_neg (fun z => hw (Or.inr z)))
  rcases hcx with ⟨rfl, rfl, h3, rfl⟩ | ⟨j, hj, rfl, rfl, rfl, rfl⟩ | ⟨j, s, hj, hs, rfl, rfl, rfl, rfl⟩
  · have e : appI I n m (-1) (nI idx) (nI a) = upM I (2, 0) idx (nI a) := by
      unfold appI
      rw [if_neg (by rw [inb_m1]; simp), if_pos (inb_y h3 (by omega)), toN_nI (by omega)]
    rw [e] at hXF
    have hx0 : F (2, 0) idx = nI a := (hXF _ _ (by simp) (by simp)).trans (upM_s _ _ _ _)
    have hX : ∀ t i, t.1 < 40 → ¬ ((t = (18, 0) ∧ i = 4) ∨ (t = (2, 0) ∧ i = idx)) → F t i = I t i := fun t i ht hw => (hXF t i ht (fun z => hw (Or.inl z))).trans (if_neg (fun z => hw (Or.inr z)))
    have hso : SO n F F := fun s' hs' => by
      by_cases e : s' = idx
      · subst e
        exact ⟨a, by omega, hx0, hy0⟩
      · rw [hX _ _ (by simp) (by simp [e]), hY _ _ (by simp) (by simp [e])]
        exact k.so s' hs'
    exact K2.mk (hN := k.hN) (hM := k.hM) (hC := k.hC) (hB := k.hB) (hq := (by omega)) (xn := ((hX _ _ (by first | (simp; done) | (simp; omega)) (by first | (simp; done) | (simp; omega))).trans k.xn)) (xm := ((hX _ _ (by first | (simp; done) | (simp; omega)) (by first | (simp; done) | (simp; omega))).trans k.xm)) (xc := ((hX _ _ (by first | (simp; done) | (simp; omega)) (by first | (simp; done) | (simp; omega))).trans k.xc)) (yn := ((hY _ _ (by first | (simp; done) | (simp; omega)) (by first | (simp; done) | (simp; omega))).trans k.yn)) (ym := ((hY _ _ (by first | (simp; done) | (simp; omega)) (by first | (simp; done) | (simp; omega))).trans k.ym)) (yc := ((hY _ _ (by first | (simp; done) | (simp; omega)) (by first | (simp; done) | (simp; omega))).trans k.yc)) (st := (st_to k.st (fun i => (hX _ _ (by first | (simp; done) | (simp; omega)) (by first | (simp; done) | (simp; omega)))))) (at_ := (at_to k.at_ (fun i => (hX _ _ (by first | (simp; done) | (simp; omega)) (by first | (simp; done) | (simp; omega)))) (fun i => (hX _ _ (by first | (simp; done) | (simp; omega)) (by first | (simp; done) | (simp; omega)))))) (so := hso) (tp := (k.tp.to (hX _ _ (by first | (simp; done) | (simp; omega)) (by first | (simp; done) | (simp; omega))) (fun i => (hX _ _ (by first | (simp; done) | (simp; omega)) (by first | (simp; done) | (simp; omega)))) (hY _ _ (by first | (simp; done) | (simp; omega)) (by first | (simp; done) | (simp; omega))) (fun i => (hY _ _ (by first | (simp; done) | (simp; omega)) (by first | (simp; done) | (simp; omega)))))) (ch := hch) (ac := (k.ac.to (hX _ _ (by first | (simp; done) | (simp; omega)) (by first | (simp; done) | (simp; omega))) (hX _ _ (by first | (simp; done) | (simp; omega)) (by first | (simp; done) | (simp; omega))) (fun i => (hX _ _ (by first | (simp; done) | (simp; omega)) (by first | (simp; done) | (simp; omega)))) (fun i => (hX _ _ (by first | (simp; done) | (simp; omega)) (by first | (simp; done) | (simp; omega)))) (hY _ _ (by first | (simp; done) | (simp; omega)) (by first | (simp; done) | (simp; omega))) (hY _ _ (by first | (simp; done) | (simp; omega)) (by first | (simp; done) | (simp; omega))) (fun i => (hY _ _ (by first | (simp; done) | (simp; omega)) (by first | (simp; done) | (simp; omega)))) (fun i => (hY _ _ (by first | (simp; done) | (simp; omega)) (by first | (simp; done) | (simp; omega)))))) (sh := (fun d hd => (k.sh d hd).to (Nat.le_refl _) k.hB (fun i => (hX _ _ (by first | (simp; done) | (simp; omega)) (by first | (simp; done) | (simp; omega)))) (hY _ _ (by first | (simp; done) | (simp; omega)) (by first | (simp; done) | (simp; omega))) (hY _ _ (by first | (simp; done) | (simp; omega)) (by first | (simp; done) | (simp; omega))) (fun i => rfl) (fun i _ => rfl))) (lw := (fun j hj => (k.lw j hj).to (fun _ z => z) (fun i => (hX _ _ (by first | (simp; done) | (simp; omega)) (by first | (simp; done) | (simp; omega)))) (fun i _ _ => (hY _ _ (by first | (simp; done) | (simp; omega)) (by first | (simp; done) | (simp; omega)))) (hY _ _ (by first | (simp; done) | (simp; omega)) (by first | (simp; done) | (simp; omega))))) (wb := (fun j hj => (k.wb j hj).to (by omega) (Nat.le_refl _) (Nat.le_refl _) rfl (fun i => (hX _ _ (by first | (simp; done) | (simp; omega)) (by first | (simp; done) | (simp; omega)))) (fun i => (hX _ _ (by first | (simp; done) | (simp; omega)) (by first | (simp; done) | (simp; omega)))) (fun i => (hX _ _ (by first | (simp; done) | (simp; omega)) (by first | (simp; done) | (simp; omega)))) (fun t i z => (hY _ _ (by first | (simp; done) | (simp; omega)) (by first | (simp; done) | (simp; omega)))))) (fs := (fun j h1 h2 => (hY _ _ (by first | (simp; done) | (simp; omega)) (by first | (simp; done) | (simp; omega))).trans (k.fs j h1 h2))) (sc := (fun i => (hY _ _ (by first | (simp; done) | (simp; omega)) (by first | (simp; done) | (simp; omega))).trans (k.sc i)))
  · have e : appI I n m (nI j) (-1) (nI a) = upM I (11, j) 5 (nI a) := by
      unfold appI
      rw [if_pos (inb_y hj (by omega)), if_neg (by rw [inb_m1]; simp), toN_nI (by omega)]
    rw [e] at hXF
    have hx0 : F (11, j) 5 = nI a := (hXF _ _ (by simp) (by simp)).trans (upM_s _ _ _ _)
    have hX : ∀ t i, t.1 < 40 → ¬ ((t = (18, 0) ∧ i = 4) ∨ (t = (11, j) ∧ i = 5)) → F t i = I t i := fun t i ht hw => (hXF t i ht (fun z => hw (Or.inl z))).trans (if_neg (fun z => hw (Or.inr z)))
    obtain ⟨lj, ke, w1, w2, w3, w4, w5, wa, w6, w7⟩ := k.wb j hj
    have hwj : WB j (q + 1) n c R F F := by
      obtain ⟨⟨a3, a4, a6, a7⟩, -, ⟨a8, b8⟩, hcc, hl⟩ := wa
      refine ⟨lj, ke, w1, w2, ?_, ?_, by omega, ⟨⟨?_, ?_, ?_, ?_⟩, ⟨a, ha, hx0, hy0⟩, ⟨?_, ?_⟩, fun s' hs' => ?_, fun t ht => ?_⟩, ?_, ?_⟩
      · rw [hX _ _ (by simp) (by simp)]; exact w3
      · rw [hY _ _ (by simp) (by simp)]; exact w4
      · rw [hX _ _ (by simp) (by simp), hY _ _ (by simp) (by simp)]; exact a3
      · rw [hX _ _ (by simp) (by simp), hX _ _ (by simp) (by simp), hY _ _ (by simp) (by simp)]; exact a4
      · rw [hX _ _ (by simp) (by simp), hY _ _ (by simp) (by simp)]; exact a6
      · rw [hX _ _ (by simp) (by simp), hY _ _ (by simp) (by simp)]; exact a7
      · rw [hX _ _ (by simp) (by simp)]; exact a8
      · rw [hY _ _ (by simp) (by simp)]; exact b8
      · rw [hX _ _ (by simp) (by simp), hY _ _ (by simp) (by simp; omega)]; exact hcc s' hs'
      · rw [hX _ _ (by simp) (by simp), hY _ _ (by simp) (by simp)]; exact hl t ht
      · rw [hX _ _ (by simp) (by simp), hY _ _ (by simp) (by simp)]; exact w6
      · rw [hX _ _ (by simp) (by simp), hY _ _ (by simp) (by simp)]; exact w7
    exact K2.mk (hN := k.hN) (hM := k.hM) (hC := k.hC) (hB := k.hB) (hq := (by omega)) (xn := ((hX _ _ (by first | (simp; done) | (simp; omega)) (by first | (simp; done) | (simp; omega))).trans k.xn)) (xm := ((hX _ _ (by first | (simp; done) | (simp; omega)) (by first | (simp; done) | (simp; omega))).trans k.xm)) (xc := ((hX _ _ (by first | (simp; done) | (simp; omega)) (by first | (simp; done) | (simp; omega))).trans k.xc)) (yn := ((hY _ _ (by first | (simp; done) | (simp; omega)) (by first | (simp; done) | (simp; omega))).trans k.yn)) (ym := ((hY _ _ (by first | (simp; done) | (simp; omega)) (by first | (simp; done) | (simp; omega))).trans k.ym)) (yc := ((hY _ _ (by first | (simp; done) | (simp; omega)) (by first | (simp; done) | (simp; omega))).trans k.yc)) (st := (st_to k.st (fun i => (hX _ _ (by first | (simp; done) | (simp; omega)) (by first | (simp; done) | (simp; omega)))))) (at_ := (at_to k.at_ (fun i => (hX _ _ (by first | (simp; done) | (simp; omega)) (by first | (simp; done) | (simp; omega)))) (fun i => (hX _ _ (by first | (simp; done) | (simp; omega)) (by first | (simp; done) | (simp; omega)))))) (so := (k.so.to k.hN (fun i hi => (hX _ _ (by first | (simp; done) | (simp; omega)) (by first | (simp; done) | (simp; omega)))) (fun i hi => (hY _ _ (by first | (simp; done) | (simp; omega)) (by first | (simp; done) | (simp; omega)))))) (tp := (k.tp.to (hX _ _ (by first | (simp; done) | (simp; omega)) (by first | (simp; done) | (simp; omega))) (fun i => (hX _ _ (by first | (simp; done) | (simp; omega)) (by first | (simp; done) | (simp; omega)))) (hY _ _ (by first | (simp; done) | (simp; omega)) (by first | (simp; done) | (simp; omega))) (fun i => (hY _ _ (by first | (simp; done) | (simp; omega)) (by first | (simp; done) | (simp; omega)))))) (ch := hch) (ac := (k.ac.to (hX _ _ (by first | (simp; done) | (simp; omega)) (by first | (simp; done) | (simp; omega))) (hX _ _ (by first | (simp; done) | (simp; omega)) (by first | (simp; done) | (simp; omega))) (fun i => (hX _ _ (by first | (simp; done) | (simp; omega)) (by first | (simp; done) | (simp; omega)))) (fun i => (hX _ _ (by first | (simp; done) | (simp; omega)) (by first | (simp; done) | (simp; omega)))) (hY _ _ (by first | (simp; done) | (simp; omega)) (by first | (simp; done) | (simp; omega))) (hY _ _ (by first | (simp; done) | (simp; omega)) (by first | (simp; done) | (simp; omega))) (fun i => (hY _ _ (by first | (simp; done) | (simp; omega)) (by first | (simp; done) | (simp; omega)))) (fun i => (hY _ _ (by first | (simp; done) | (simp; omega)) (by first | (simp; done) | (simp; omega)))))) (sh := (fun d hd => (k.sh d hd).to (Nat.le_refl _) k.hB (fun i => (hX _ _ (by first | (simp; done) | (simp; omega)) (by first | (simp; done) | (simp; omega)))) (hY _ _ (by first | (simp; done) | (simp; omega)) (by first | (simp; done) | (simp; omega))) (hY _ _ (by first | (simp; done) | (simp; omega)) (by first | (simp; done) | (simp; omega))) (fun i => rfl) (fun i _ => rfl))) (lw := (fun j hj => (k.lw j hj).to (fun _ z => z) (fun i => (hX _ _ (by first | (simp; done) | (simp; omega)) (by first | (simp; done) | (simp; omega)))) (fun i _ _ => (hY _ _ (by first | (simp; done) | (simp; omega)) (by first | (simp; done) | (simp; omega)))) (hY _ _ (by first | (simp; done) | (simp; omega)) (by first | (simp; done) | (simp; omega))))) (wb := (fun k2 hk2 => by
      by_cases e : k2 = j
      · subst e
        exact hwj
      · exact (k.wb k2 hk2).to (by omega) (Nat.le_refl _) (Nat.le_refl _) rfl (fun i => hX _ _ (by simp) (by simp [e])) (fun i => hX _ _ (by simp) (by simp [e])) (fun i => hX _ _ (by simp) (by simp [e])) (fun t i z => hY _ _ (by show 40 ≤ t; omega) (by simp; omega)))) (fs := (fun j h1 h2 => (hY _ _ (by first | (simp; done) | (simp; omega)) (by first | (simp; done) | (simp; omega))).trans (k.fs j h1 h2))) (sc := (fun i => (hY _ _ (by first | (simp; done) | (simp; omega)) (by first | (simp; done) | (simp; omega))).trans (k.sc i)))
  · have e : appI I n m (nI j) (nI s) (nI a) = upM I (12, j) s (nI a) := by
      unfold appI
      rw [if_pos (inb_y hj (by omega)), if_pos (inb_y hs (by omega)), toN_nI (by omega), toN_nI (by omega)]
    rw [e] at hXF
    have hx0 : F (12, j) s = nI a := (hXF _ _ (by simp) (by simp)).trans (upM_s _ _ _ _)
    have hX : ∀ t i, t.1 < 40 → ¬ ((t = (18, 0) ∧ i = 4) ∨ (t = (12, j) ∧ i = s)) → F t i = I t i := fun t i ht hw => (hXF t i ht (fun z => hw (Or.inl z))).trans (if_neg (fun z => hw (Or.inr z)))
    obtain ⟨lj, ke, w1, w2, w3, w4, w5, wa, w6, w7⟩ := k.wb j hj
    have hwj : WB j (q + 1) n c R F F := by
      obtain ⟨⟨a3, a4, a6, a7⟩, a5, ⟨a8, b8⟩, hcc, hl⟩ := wa
      refine ⟨lj, ke, w1, w2, ?_, ?_, by omega, ⟨⟨?_, ?_, ?_, ?_⟩, ?_, ⟨?_, ?_⟩, fun s' hs' => ?_, fun t ht => ?_⟩, ?_, ?_⟩
      · rw [hX _ _ (by simp) (by simp)]; exact w3
      · rw [hY _ _ (by simp) (by simp)]; exact w4
      · rw [hX _ _ (by simp) (by simp), hY _ _ (by simp) (by simp)]; exact a3
      · rw [hX _ _ (by simp) (by simp), hX _ _ (by simp) (by simp), hY _ _ (by simp) (by simp)]; exact a4
      · rw [hX _ _ (by simp) (by simp), hY _ _ (by simp) (by simp)]; exact a6
      · rw [hX _ _ (by simp) (by simp), hY _ _ (by simp) (by simp)]; exact a7
      · rw [hX _ _ (by simp) (by simp), hY _ _ (by simp) (by simp; omega)]; exact a5
      · rw [hX _ _ (by simp) (by simp)]; exact a8
      · rw [hY _ _ (by simp) (by simp)]; exact b8
      · by_cases e : s' = s
        · subst e
          exact ⟨a, ha, hx0, hy0⟩
        · rw [hX _ _ (by simp) (by simp [e]), hY _ _ (by simp) (by simp; omega)]; exact hcc s' hs'
      · rw [hX _ _ (by simp) (by simp), hY _ _ (by simp) (by simp)]; exact hl t ht
      · rw [hX _ _ (by simp) (by simp), hY _ _ (by simp) (by simp)]; exact w6
      · rw [hX _ _ (by simp) (by simp), hY _ _ (by simp) (by simp)]; exact w7
    exact K2.mk (hN := k.hN) (hM := k.hM) (hC := k.hC) (hB := k.hB) (hq := (by omega)) (xn := ((hX _ _ (by first | (simp; done) | (simp; omega)) (by first | (simp; done) | (simp; omega))).trans k.xn)) (xm := ((hX _ _ (by first | (simp; done) | (simp; omega)) (by first | (simp; done) | (simp; omega))).trans k.xm)) (xc := ((hX _ _ (by first | (simp; done) | (simp; omega)) (by first | (simp; done) | (simp; omega))).trans k.xc)) (yn := ((hY _ _ (by first | (simp; done) | (simp; omega)) (by first | (simp; done) | (simp; omega))).trans k.yn)) (ym := ((hY _ _ (by first | (simp; done) | (simp; omega)) (by first | (simp; done) | (simp; omega))).trans k.ym)) (yc := ((hY _ _ (by first | (simp; done) | (simp; omega)) (by first | (simp; done) | (simp; omega))).trans k.yc)) (st := (st_to k.st (fun i => (hX _ _ (by first | (simp; done) | (simp; omega)) (by first | (simp; done) | (simp; omega)))))) (at_ := (at_to k.at_ (fun i => (hX _ _ (by first | (simp; done) | (simp; omega)) (by first | (simp; done) | (simp; omega)))) (fun i => (hX _ _ (by first | (simp; done) | (simp; omega)) (by first | (simp; done) | (simp; omega)))))) (so := (k.so.to k.hN (fun i hi => (hX _ _ (by first | (simp; done) | (simp; omega)) (by first | (simp; done) | (simp; omega)))) (fun i hi => (hY _ _ (by first | (simp; done) | (simp; omega)) (by first | (simp; done) | (simp; omega)))))) (tp := (k.tp.to (hX _ _ (by first | (simp; done) | (simp; omega)) (by first | (simp; done) | (simp; omega))) (fun i => (hX _ _ (by first | (simp; done) | (simp; omega)) (by first | (simp; done) | (simp; omega)))) (hY _ _ (by first | (simp; done) | (simp; omega)) (by first | (simp; done) | (simp; omega))) (fun i => (hY _ _ (by first | (simp; done) | (simp; omega)) (by first | (simp; done) | (simp; omega)))))) (ch := hch) (ac := (k.ac.to (hX _ _ (by first | (simp; done) | (simp; omega)) (by first | (simp; done) | (simp; omega))) (hX _ _ (by first | (simp; done) | (simp; omega)) (by first | (simp; done) | (simp; omega))) (fun i => (hX _ _ (by first | (simp; done) | (simp; omega)) (by first | (simp; done) | (simp; omega)))) (fun i => (hX _ _ (by first | (simp; done) | (simp; omega)) (by first | (simp; done) | (simp; omega)))) (hY _ _ (by first | (simp; done) | (simp; omega)) (by first | (simp; done) | (simp; omega))) (hY _ _ (by first | (simp; done) | (simp; omega)) (by first | (simp; done) | (simp; omega))) (fun i => (hY _ _ (by first | (simp; done) | (simp; omega)) (by first | (simp; done) | (simp; omega)))) (fun i => (hY _ _ (by first | (simp; done) | (simp; omega)) (by first | (simp; done) | (simp; omega)))))) (sh := (fun d hd => (k.sh d hd).to (Nat.le_refl _) k.hB (fun i => (hX _ _ (by first | (simp; done) | (simp; omega)) (by first | (simp; done) | (simp; omega)))) (hY _ _ (by first | (simp; done) | (simp; omega)) (by first | (simp; done) | (simp; omega))) (hY _ _ (by first | (simp; done) | (simp; omega)) (by first | (simp; done) | (simp; omega))) (fun i => rfl) (fun i _ => rfl))) (lw := (fun j hj => (k.lw j hj).to (fun _ z => z) (fun i => (hX _ _ (by first | (simp; done) | (simp; omega)) (by first | (simp; done) | (simp; omega)))) (fun i _ _ => (hY _ _ (by first | (simp; done) | (simp; omega)) (by first | (simp; done) | (simp; omega)))) (hY _ _ (by first | (simp; done) | (simp; omega)) (by first | (simp; done) | (simp; omega))))) (wb := (fun k2 hk2 => by
      by_cases e : k2 = j
      · subst e
        exact hwj
      · exact (k.wb k2 hk2).to (by omega) (Nat.le_refl _) (Nat.le_refl _) rfl (fun i => hX _ _ (by simp) (by simp [e])) (fun i => hX _ _ (by simp) (by simp [e])) (fun i => hX _ _ (by simp) (by simp [e])) (fun t i z => hY _ _ (by show 40 ≤ t; omega) (by simp; omega)))) (fs := (fun j h1 h2 => (hY _ _ (by first | (simp; done) | (simp; omega)) (by first | (simp; done) | (simp; omega))).trans (k.fs j h1 h2))) (sc := (fun i => (hY _ _ (by first | (simp; done) | (simp; omega)) (by first | (simp; done) | (simp; omega))).trans (k.sc i)))
