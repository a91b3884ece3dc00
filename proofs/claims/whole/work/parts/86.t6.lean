/-! ties: a WORLD in two memories -/
/-- the WORLD k of the component (in X) and of the model (in Y), all but its log -/
def WA (k n ke : Nat) (X Y : MI) : Prop :=
  (X (11, k) 3 = Y (70, 0) k ∧ (X (11, k) 3 = nI 1 ∨ X (11, k) 4 = Y (71, 0) k) ∧ X (11, k) 6 = Y (72, 0) k ∧ X (11, k) 7 = Y (73, 0) k) ∧
  (∃ q, q ≤ 9999 ∧ X (11, k) 5 = nI q ∧ Y (50, 0) (12 + k) = nI q) ∧ (X (11, k) 8 = nI ke ∧ Y (74, 0) k = nI ke) ∧
  (∀ s, s < 12 → ∃ c, c ≤ 99999 ∧ X (12, k) s = nI c ∧ Y (50, 0) (23 + 12 * k + s) = nI c) ∧
  ∀ t, t < min ke 200 → ∃ g, g < n ∧ X (16, k) t = nI g ∧ Y (75, 0) (200 * k + t) = nI g
theorem WA.to {k n ke : Nat} {X Y X' Y' : MI} (h : WA k n ke X Y) (h11 : ∀ i, 3 ≤ i → i ≤ 8 → X' (11, k) i = X (11, k) i) (h12 : ∀ i, X' (12, k) i = X (12, k) i) (h16 : ∀ i, X' (16, k) i = X (16, k) i) (hY : ∀ t i, (70 ≤ t ∧ t ≤ 74 ∧ i = k) ∨ (t = 50 ∧ (i = 12 + k ∨ 23 + 12 * k ≤ i ∧ i < 23 + 12 * k + 12)) ∨ (t = 75 ∧ 200 * k ≤ i ∧ i < 200 * k + 200) → Y' (t, 0) i = Y (t, 0) i) : WA k n ke X' Y' := by
  obtain ⟨⟨a3, a4, a6, a7⟩, ⟨q, hq, a5, b5⟩, ⟨a8, b8⟩, hc, hl⟩ := h
  refine ⟨⟨?_, ?_, ?_, ?_⟩, ⟨q, hq, ?_, ?_⟩, ⟨?_, ?_⟩, fun s hs => ?_, fun t ht => ?_⟩
  · rw [h11 3 (by omega) (by omega), hY 70 k (by omega)]; exact a3
  · rw [h11 3 (by omega) (by omega), h11 4 (by omega) (by omega), hY 71 k (by omega)]; exact a4
  · rw [h11 6 (by omega) (by omega), hY 72 k (by omega)]; exact a6
  · rw [h11 7 (by omega) (by omega), hY 73 k (by omega)]; exact a7
  · rw [h11 5 (by omega) (by omega)]; exact a5
  · rw [hY 50 _ (by omega)]; exact b5
  · rw [h11 8 (by omega) (by omega)]; exact a8
  · rw [hY 74 k (by omega)]; exact b8
  · obtain ⟨c, h1, h2, h3⟩ := hc s hs
    exact ⟨c, h1, by rw [h12]; exact h2, by rw [hY 50 _ (by omega)]; exact h3⟩
  · obtain ⟨g, h1, h2, h3⟩ := hl t ht
    exact ⟨g, h1, by rw [h16]; exact h2, by rw [hY 75 _ (by omega)]; exact h3⟩
theorem WA.ct {k n ke s : Nat} {X Y : MI} (h : WA k n ke X Y) (hs : s < 12) : cnM Y k s = X (12, k) s := by
  obtain ⟨c, -, h2, h3⟩ := h.2.2.2.1 s hs
  exact h3.trans h2.symm
theorem WA.bd {k n ke n' : Nat} {X Y : MI} (h : WA k n ke X Y) (hN : n' ≤ 12) : bdW Y k n' := fun o ho => by
  obtain ⟨c, h1, h2, h3⟩ := h.2.2.2.1 o (by omega)
  exact ⟨c, h1, h3⟩
theorem WA.ps {k n ke n' : Nat} {X Y : MI} (h : WA k n ke X Y) (p : Int32) : psI (X (11, k) 3) (X (11, k) 7) (X (11, k) 4) n' p = psI (Y (70, 0) k) (Y (73, 0) k) (Y (71, 0) k) n' p := by
  obtain ⟨⟨a3, a4, a6, a7⟩, -⟩ := h
  rw [← a3, ← a7]
  rcases a4 with q | q
  · unfold psI
    rw [q, if_neg (show ¬ nI 1 = 0 by decide), if_neg (show ¬ nI 1 = 0 by decide), if_neg (fun z => absurd z.1 (by decide)), if_neg (fun z => absurd z.1 (by decide))]
  · rw [q]
/-- a weight on both sides -/
theorem wt_t {B : Nat → Nat} {len k n ke s : Nat} {X Y : MI} (hlen : len ≤ 120) (hf : (cText B len).2.1 = none) (h : WA k n ke X Y) (hN : n ≤ 12) (hs : s < n) (hw : X (2, 0) s = Y (50, 0) s) : wtI (cdT B len) (lnT B len) X k n s = wtMi B len Y k n s := by
  unfold wtI weightI wtMi
  rw [evalT hlen hf, hw, h.ps, h.1.1, h.1.2.2.2, h.2.2.1.1, h.2.2.1.2, h.ct (by omega), plc_congr (f := cnM Y k) (g := X (12, k)) (fun q hq => h.ct (by omega)) hs]
theorem pk_cg {f g : Nat → Int32} : ∀ {m s : Nat} {x : Int32}, (∀ q, s ≤ q → q < s + m → f q = g q) → pk f m s x = pk g m s x
  | 0, _, _, _ => rfl
  | m + 1, s, x, h => by
    unfold pk
    rw [h s (by omega) (by omega), pk_cg (fun q h1 h2 => h q (by omega) (by omega))]
theorem oneK_t {B : Nat → Nat} {len k n ke : Nat} {X Y : MI} (hlen : len ≤ 120) (hf : (cText B len).2.1 = none) (h : WA k n ke X Y) (hN : n ≤ 12) (hw : ∀ s, s < n → X (2, 0) s = Y (50, 0) s) : oneK (cdT B len) (lnT B len) X k n = oKi B len Y k n := by
  have e : ∀ q, q < n → wtI (cdT B len) (lnT B len) X k n q = wtMi B len Y k n q := fun q hq => wt_t hlen hf h hN hq (hw q hq)
  obtain ⟨qo, -, a5, b5⟩ := h.2.1
  unfold oneK oKi
  simp only
  rw [h.1.2.2.1, a5, b5, sumF_congr e]
  exact pk_cg (fun q _ h2 => e q (by omega))
