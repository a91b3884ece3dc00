/-! ties: coming and keeping in two memories -/
theorem WA.N {k n ke : Nat} {X Y : MI} (h : WA k n ke X Y) : WA k n ke (rcvN X k) (rvN Y k) := by
  obtain ⟨⟨a3, a4, a6, a7⟩, h5, h8, hc, hl⟩ := h
  have hX : ∀ t i, ¬ (t = (11, k) ∧ i = 7) → rcvN X k t i = X t i := fun t i q => by unfold rcvN; exact if_neg q
  have hY : ∀ t i, ¬ (t = (73, 0) ∧ i = k) → rvN Y k t i = Y t i := fun t i q => by unfold rvN; exact if_neg q
  refine ⟨⟨?_, ?_, ?_, ?_⟩, ?_, ?_, ?_, ?_⟩
  · rw [hX _ _ (by simp), hY _ _ (by simp)]; exact a3
  · rw [hX _ _ (by simp), hX _ _ (by simp), hY _ _ (by simp)]; exact a4
  · rw [hX _ _ (by simp), hY _ _ (by simp)]; exact a6
  · unfold rcvN rvN
    rw [upM_s, upM_s, a7]
  · rw [hX _ _ (by simp), hY _ _ (by simp)]; exact h5
  · rw [hX _ _ (by simp), hY _ _ (by simp)]; exact h8
  · intro s hs
    rw [hX _ _ (by simp), hY _ _ (by simp)]; exact hc s hs
  · intro t ht
    rw [hX _ _ (by simp), hY _ _ (by simp)]; exact hl t ht
theorem WA.D {k n ke : Nat} {X Y : MI} (z : Int32) (h : WA k n ke X Y) : WA k n ke (upM X (11, k) 6 z) (upM Y (72, 0) k z) := by
  obtain ⟨⟨a3, a4, a6, a7⟩, h5, h8, hc, hl⟩ := h
  have hX : ∀ t i, ¬ (t = (11, k) ∧ i = 6) → upM X (11, k) 6 z t i = X t i := fun t i q => if_neg q
  have hY : ∀ t i, ¬ (t = (72, 0) ∧ i = k) → upM Y (72, 0) k z t i = Y t i := fun t i q => if_neg q
  refine ⟨⟨?_, ?_, ?_, ?_⟩, ?_, ?_, ?_, ?_⟩
  · rw [hX _ _ (by simp), hY _ _ (by simp)]; exact a3
  · rw [hX _ _ (by simp), hX _ _ (by simp), hY _ _ (by simp)]; exact a4
  · rw [upM_s, upM_s]
  · rw [hX _ _ (by simp), hY _ _ (by simp)]; exact a7
  · rw [hX _ _ (by simp), hY _ _ (by simp)]; exact h5
  · rw [hX _ _ (by simp), hY _ _ (by simp)]; exact h8
  · intro s hs
    rw [hX _ _ (by simp), hY _ _ (by simp)]; exact hc s hs
  · intro t ht
    rw [hX _ _ (by simp), hY _ _ (by simp)]; exact hl t ht
def kpX (X : MI) (k ke j : Nat) : MI := upM (upM (if ke < 200 then upM X (16, k) ke (nI j) else X) (11, k) 8 (nI (ke + 1))) (12, k) j (minI (X (12, k) j + nI 1) 99999)
theorem rcvS_k {X : MI} {k ke j : Nat} : rcvS X k ke j = kpX (rcvN X k) k ke j := by
  unfold rcvS kpX
  rw [show rcvN X k (12, k) j = X (12, k) j from by unfold rcvN; rw [upM_n _ (by simp)]]
theorem WA.K {k n ke g : Nat} {X Y : MI} (hN : n ≤ 12) (hg : g < n) (h : WA k n ke X Y) : WA k n (ke + 1) (kpX X k ke g) (kpM Y k ke g (Y (50, 0) (23 + 12 * k + g))) := by
  obtain ⟨⟨a3, a4, a6, a7⟩, h5, h8, hc, hl⟩ := h
  have hX : ∀ t i, ¬ (t = (16, k) ∧ i = ke) → ¬ (t = (11, k) ∧ i = 8) → ¬ (t = (12, k) ∧ i = g) → kpX X k ke g t i = X t i := fun t i q1 q2 q3 => by
    unfold kpX
    rw [show upM _ (12, k) g _ t i = _ from if_neg q3, show upM _ (11, k) 8 _ t i = _ from if_neg q2]
    split
    · exact if_neg q1
    · rfl
  have hY : ∀ t i, ¬ (t = (75, 0) ∧ i = 200 * k + ke ∧ ke < 200) → ¬ (t = (74, 0) ∧ i = k) → ¬ (t = (50, 0) ∧ i = 23 + 12 * k + g) → kpM Y k ke g (Y (50, 0) (23 + 12 * k + g)) t i = Y t i := fun t i q1 q2 q3 => by
    unfold kpM
    rw [show upM _ (50, 0) _ _ t i = _ from if_neg q3, show upM _ (74, 0) k _ t i = _ from if_neg q2]
    split
    · rename_i hlt
      exact if_neg (fun z => q1 ⟨z.1, z.2, hlt⟩)
    · rfl
  refine ⟨⟨?_, ?_, ?_, ?_⟩, ?_, ⟨?_, ?_⟩, ?_, ?_⟩
  · rw [hX _ _ (by simp) (by simp) (by simp), hY _ _ (by simp) (by simp) (by simp)]; exact a3
  · rw [hX _ _ (by simp) (by simp) (by simp), hX _ _ (by simp) (by simp) (by simp), hY _ _ (by simp) (by simp) (by simp)]; exact a4
  · rw [hX _ _ (by simp) (by simp) (by simp), hY _ _ (by simp) (by simp) (by simp)]; exact a6
  · rw [hX _ _ (by simp) (by simp) (by simp), hY _ _ (by simp) (by simp) (by simp)]; exact a7
  · rw [hX _ _ (by simp) (by simp) (by simp), hY _ _ (by simp) (by simp) (by simp; omega)]; exact h5
  · unfold kpX
    rw [upM_n _ (by simp), upM_s]
  · exact kpM_74
  · intro s hs
    by_cases e : s = g
    · subst e
      obtain ⟨c, h1, h2, h3⟩ := hc s hs
      obtain ⟨r, hr, hm⟩ := minI_bd (x := X (12, k) s) h1 h2
      refine ⟨r, hr, ?_, ?_⟩
      · unfold kpX
        rw [upM_s]; exact hm
      · unfold kpM
        rw [upM_s, h3, ← h2]; exact hm
    · rw [hX _ _ (by simp) (by simp) (by simp [e]), hY _ _ (by simp) (by simp) (by simp; omega)]; exact hc s hs
  · intro t ht
    by_cases e : t = ke
    · subst e
      refine ⟨g, hg, ?_, ?_⟩
      · unfold kpX
        rw [upM_n _ (by simp), upM_n _ (by simp), if_pos (by omega), upM_s]
      · unfold kpM
        rw [upM_n _ (by simp), upM_n _ (by simp), if_pos (by omega), upM_s]
    · rw [hX _ _ (by simp [e]) (by simp) (by simp), hY _ _ (by simp; omega) (by simp) (by simp)]; exact hl t (by omega)
theorem WA.S {k n ke g : Nat} {X Y : MI} (hN : n ≤ 12) (hg : g < n) (h : WA k n ke X Y) : WA k n (ke + 1) (rcvS X k ke g) (rvS Y k ke g) := by
  rw [rcvS_k]
  have := h.N.K hN hg
  unfold rvS
  rw [show rvN Y k (50, 0) (23 + 12 * k + g) = Y (50, 0) (23 + 12 * k + g) from by unfold rvN; rw [upM_n _ (by simp)]] at this
  exact this
theorem WA.one {B : Nat → Nat} {len k n ke : Nat} {X Y : MI} (hlen : len ≤ 120) (hf : (cText B len).2.1 = none) (hN : n ≤ 12) (hw : ∀ s, s < n → X (2, 0) s = Y (50, 0) s) (h : WA k n ke X Y) : WA k n (ke + if (oneK (cdT B len) (lnT B len) X k n).isSome then 1 else 0) (oneI (cdT B len) (lnT B len) X k n ke) (oneMi B len Y k n ke) := by
  have e := oneK_t hlen hf h hN hw
  have hz := h.1.2.2.1
  unfold oneMi
  rw [← e, ← hz]
  cases hk : oneK (cdT B len) (lnT B len) X k n with
  | none =>
    rw [oneI_none hk]
    exact (h.D _).N
  | some g =>
    rw [oneI_some hk]
    exact (h.D _).S hN (oKi_lt (e.symm.trans hk))
theorem WA.many {B : Nat → Nat} {len k n ke : Nat} {X Y : MI} (hlen : len ≤ 120) (hf : (cText B len).2.1 = none) (hN : n ≤ 12) (hw : ∀ s, s < n → X (2, 0) s = Y (50, 0) s) (h : WA k n ke X Y) : ∀ m, (manyI (cdT B len) (lnT B len) k n m X ke).2 = (manyMi B len k n m Y ke).2 ∧ WA k n (manyI (cdT B len) (lnT B len) k n m X ke).2 (manyI (cdT B len) (lnT B len) k n m X ke).1 (manyMi B len k n m Y ke).1
  | 0 => ⟨rfl, h⟩
  | m + 1 => by
    obtain ⟨e, h2⟩ := WA.many hlen hf hN hw h m
    have f1 := manyI_w (cd := cdT B len) (len := lnT B len) (k := k) (n := n) (I := X) (ke := ke) m
    have f2 := manyMi_w (B := B) (len := len) hN h.2.2.1.2 (h.bd hN) m
    have hw2 : ∀ s, s < n → (manyI (cdT B len) (lnT B len) k n m X ke).1 (2, 0) s = (manyMi B len k n m Y ke).1 (50, 0) s := fun s hs => by
      rw [f1 _ _ (by simp [wldP]), f2.1 _ _ (by simp [owP, mwP]; omega)]
      exact hw s hs
    refine ⟨?_, ?_⟩
    · show _ + _ = _ + _
      rw [e, oneK_t hlen hf (e ▸ h2) hN hw2]
    · have h3 := h2.one hlen hf hN hw2
      show WA k n _ (oneI _ _ _ k n _) (oneMi B len _ k n _)
      rw [← e]
      exact h3
theorem WA.kps {c : Nat → Int64} {k n ke i0 : Nat} {X Y : MI} (hN : n ≤ 12) (h : WA k n ke X Y) : ∀ t, (kSt c k n i0 X ke t).2 = (mkSt c k n i0 Y ke t).2 ∧ WA k n (kSt c k n i0 X ke t).2 (kSt c k n i0 X ke t).1 (mkSt c k n i0 Y ke t).1
  | 0 => ⟨rfl, h⟩
  | t + 1 => by
    obtain ⟨e, h2⟩ := WA.kps (c := c) (i0 := i0) hN h t
    cases hi : inb (c (i0 + t)).toInt32 n with
    | true =>
      obtain ⟨g, hg, hx⟩ := inb_of (by omega) hi
      rw [mkSt_S hx hg hN, show kSt c k n i0 X ke (t + 1) = (rcvS (kSt c k n i0 X ke t).1 k (kSt c k n i0 X ke t).2 g, (kSt c k n i0 X ke t).2 + 1) from by
        show (if inb (c (i0 + t)).toInt32 n = true then _ else _) = _
        rw [if_pos hi, hx, toN_nI (by omega)]]
      refine ⟨by rw [e], ?_⟩
      have := h2.S hN hg
      rw [e] at this ⊢
      exact this
    | false =>
      rw [mkSt_N hi, show kSt c k n i0 X ke (t + 1) = (rcvN (kSt c k n i0 X ke t).1 k, (kSt c k n i0 X ke t).2) from if_neg (by rw [hi]; simp)]
      exact ⟨e, h2.N⟩
