/-! ties: a WORLD begins; strong -/
theorem WA.mono {k n n' ke : Nat} {X Y : MI} (h : WA k n ke X Y) (hn : n ≤ n') : WA k n' ke X Y := by
  obtain ⟨a, h5, h8, hc, hl⟩ := h
  refine ⟨a, h5, h8, hc, fun t ht => ?_⟩
  obtain ⟨g, h1, h2⟩ := hl t ht
  exact ⟨g, by omega, h2⟩
theorem begI_v {X : MI} {k : Nat} {z : Int32} : begI X k z (11, k) 3 = nI 1 ∧ begI X k z (11, k) 5 = nI 0 ∧ begI X k z (11, k) 6 = z ∧ begI X k z (11, k) 7 = nI 0 ∧ begI X k z (11, k) 8 = nI 0 ∧ ∀ s, s < 12 → begI X k z (12, k) s = nI 0 := by
  unfold begI
  refine ⟨?_, ?_, ?_, ?_, ?_, fun s hs => ?_⟩
  · rw [upT_n _ (by simp)]; simp [upM]
  · rw [upT_n _ (by simp)]; simp [upM]
  · rw [upT_n _ (by simp)]; simp [upM]
  · rw [upT_n _ (by simp)]; simp [upM]
  · rw [upT_n _ (by simp)]; simp [upM]
  · rw [upT_s]; exact if_pos hs
theorem begI_o {X : MI} {k k' : Nat} {z : Int32} (h : ¬ k' = k) : (∀ i, begI X k z (11, k') i = X (11, k') i) ∧ (∀ i, begI X k z (12, k') i = X (12, k') i) ∧ ∀ i, begI X k z (16, k') i = X (16, k') i := by
  unfold begI
  refine ⟨fun i => ?_, fun i => ?_, fun i => ?_⟩
  · rw [upT_n _ (by simp)]; simp [upM, h]
  · rw [upT_n _ (by simp [h])]; simp [upM]
  · rw [upT_n _ (by simp)]; simp [upM]
theorem begI_2 {X : MI} {k : Nat} {z : Int32} : ∀ i, begI X k z (2, 0) i = X (2, 0) i := fun i => by
  unfold begI
  rw [upT_n _ (by simp)]; simp [upM]
theorem WA.beg {k n : Nat} {X Y : MI} {z a : Int32} : WA k n 0 (begI X k z) (bgnI Y k a (nI 1) (nI 0) (nI 0) z) := by
  obtain ⟨v3, v5, v6, v7, v8, v12⟩ := begI_v (X := X) (k := k) (z := z)
  refine ⟨⟨?_, Or.inl v3, ?_, ?_⟩, ⟨0, by omega, v5, bgnI_no⟩, ⟨v8, bgnI_74⟩, fun s hs => ⟨0, by omega, v12 s hs, bgnI_ct hs⟩, fun t ht => absurd ht (by omega)⟩
  · rw [v3, bgnI_70]
  · rw [v6, bgnI_72]
  · rw [v7, bgnI_73]
theorem WA.frX {k k' lj n ke : Nat} {X Y X' : MI} (h : WA k n ke X Y) (hf : Fr (scW k' lj) X X') : WA k n ke X' Y := h.to (fun i _ _ => hf _ _ (by simp [scW])) (fun i => hf _ _ (by simp [scW])) (fun i => hf _ _ (by simp [scW])) (fun _ _ _ => rfl)
theorem WA.frY {k n ke : Nat} {X Y Y' : MI} (h : WA k n ke X Y) (hf : Fr fwP Y Y') : WA k n ke X Y' := h.to (fun _ _ _ => rfl) (fun _ => rfl) (fun _ => rfl) (fun t i q => hf _ _ (by simp [fwP, wgP, woP]; omega))
theorem shareI_cg {f g : Nat → Int32} {n s : Nat} (h : ∀ q, q < n → f q = g q) (hs : s < n) : shareI f n s = shareI g n s := by
  unfold shareI
  rw [sumN_congr h, h s hs]
theorem ap_t {j k n ke ke' : Nat} {X Y : MI} (hN : n ≤ 12) (h : WA j n ke X Y) (h2 : WA k n ke' X Y) : apI X n j k = apM Y n j k := by
  unfold apI apM
  congr 1
  refine sumN_congr (fun s hs => ?_)
  rw [shareI_cg (g := cnM Y j) (fun q hq => (h.ct (by omega)).symm) hs, shareI_cg (f := X (12, k)) (g := cnM Y k) (fun q hq => (h2.ct (by omega)).symm) hs]
theorem ai_t {B : Nat → Nat} {len n a lj : Nat} {z v1 v2 : Int32} {X Y X' Y' : MI} (hlen : len ≤ 120) (hf : (cText B len).2.1 = none) (hN : n ≤ 12) (hw : ∀ s, s < n → X (2, 0) s = Y (50, 0) s) (h1 : aiT X (cdT B len) (lnT B len) n a lj z v1 X') (h2 : aiM Y B len n a lj z v2 Y') : v1 = v2 := by
  obtain ⟨J3, a1, a2, rfl⟩ := h1
  obtain ⟨J2, b1, b2, rfl⟩ := h2
  have w9 : WA 9 n 0 (begI (begI X 9 z) 10 (z + nI 1)) (bgnI Y 9 (nI lj) (nI 1) (nI 0) (nI 0) z) := by
    obtain ⟨o1, o2, o3⟩ := begI_o (X := begI X 9 z) (k := 10) (k' := 9) (z := z + nI 1) (by omega)
    exact WA.beg.to (fun i _ _ => o1 i) o2 o3 (fun _ _ _ => rfl)
  have hw1 : ∀ s, s < n → begI (begI X 9 z) 10 (z + nI 1) (2, 0) s = bgnI Y 9 (nI lj) (nI 1) (nI 0) (nI 0) z (50, 0) s := fun s hs => by
    rw [begI_2, begI_2, bgnI_w _ _ (by simp [bgP]; omega)]
    exact hw s hs
  obtain ⟨e9, m9⟩ := WA.many hlen hf hN hw1 w9 a
  have c9 : WA 9 n _ J3 J2 := (m9.frX a1).frY b1
  have f9 := manyI_w (cd := cdT B len) (len := lnT B len) (k := 9) (n := n) (I := begI (begI X 9 z) 10 (z + nI 1)) (ke := 0) a
  have g9 := manyMi_w (B := B) (len := len) hN w9.2.2.1.2 (w9.bd hN) a
  have w10 : WA 10 n 0 J3 (bgnI J2 10 (nI lj) (nI 1) (nI 0) (nI 0) (z + nI 1)) := by
    refine (WA.beg (X := begI X 9 z) (Y := J2) (k := 10) (n := n) (z := z + nI 1) (a := nI lj)).to (fun i _ _ => ?_) (fun i => ?_) (fun i => ?_) (fun _ _ _ => rfl)
    · rw [a1 _ _ (by simp [scW]), f9 _ _ (by simp [wldP])]
    · rw [a1 _ _ (by simp [scW]), f9 _ _ (by simp [wldP])]
    · rw [a1 _ _ (by simp [scW]), f9 _ _ (by simp [wldP])]
  have hw2 : ∀ s, s < n → J3 (2, 0) s = bgnI J2 10 (nI lj) (nI 1) (nI 0) (nI 0) (z + nI 1) (50, 0) s := fun s hs => by
    rw [a1 _ _ (by simp [scW]), f9 _ _ (by simp [wldP]), bgnI_w _ _ (by simp [bgP]; omega), b1 _ _ (by simp [fwP, wgP, woP]), g9.1 _ _ (by simp [owP, mwP]; omega)]
    exact hw1 s hs
  obtain ⟨e10, m10⟩ := WA.many hlen hf hN hw2 w10 a
  have c10 : WA 10 n _ X' Y' := (m10.frX a2).frY b2
  have f10 := manyI_w (cd := cdT B len) (len := lnT B len) (k := 10) (n := n) (I := J3) (ke := 0) a
  have g10 := manyMi_w (B := B) (len := len) hN w10.2.2.1.2 (w10.bd hN) a
  have d9 := c9.to (X' := X') (Y' := Y') (fun i _ _ => by rw [a2 _ _ (by simp [scW]), f10 _ _ (by simp [wldP])]) (fun i => by rw [a2 _ _ (by simp [scW]), f10 _ _ (by simp [wldP])]) (fun i => by rw [a2 _ _ (by simp [scW]), f10 _ _ (by simp [wldP])]) (fun t i q => by rw [b2 _ _ (by simp [fwP, wgP, woP]; omega), g10.1 _ _ (by simp [owP, mwP]; omega), bgnI_w _ _ (by simp [bgP]; omega)])
  exact ap_t hN d9 c10
