/-! ties: the laws, the firsts, the pairs -/
def cdT (B : Nat → Nat) (len : Nat) (i : Nat) : Nat × Nat := (cText B len).2.2.getD i (0, 0)
def lnT (B : Nat → Nat) (len : Nat) : Nat := (cText B len).2.2.length
theorem evalT {B : Nat → Nat} {len : Nat} (hlen : len ≤ 120) (hf : (cText B len).2.1 = none) (seen : Nat → Int32) : evalL (cdT B len) (lnT B len) seen = wtX B len seen := by
  unfold evalL
  rw [show wR seen (cdT B len) (lnT B len) (lnT B len + 1) 0 [] = _ from (text_ok hlen hf).2.2 seen]
  rfl
theorem LVt {B : Nat → Nat} {len j : Nat} {I : MI} (hlen : len ≤ 120) (hf : (cText B len).2.1 = none) (h : ∀ i, i < lnT B len → I (8, j) i = nI ((cdT B len i).1 + 256 * (cdT B len i).2)) : LV I j (lnT B len) (cdT B len) := by
  obtain ⟨h1, h2, h3⟩ := text_ok hlen hf
  refine ⟨h1, fun i hi => ?_, h, fun seen => ⟨_, h3 seen⟩⟩
  have hm : cdT B len i ∈ (cText B len).2.2 := by
    unfold cdT
    rw [List.getD_eq_getElem?_getD, List.getElem?_eq_getElem hi]
    exact List.getElem_mem hi
  have := h2 _ hm
  unfold wfO at this
  exact this
theorem insP_z {f : Nat → Int32} {o : Nat → Nat} {s : Nat} : ∀ {a : Nat}, insP f o s a = 0 ↔ ∀ p, p < a → f (o p) < f s
  | 0 => ⟨fun _ p hp => absurd hp (by omega), fun _ => rfl⟩
  | a + 1 => by
    unfold insP
    by_cases h : f (o a) < f s
    · rw [if_pos h, insP_z (a := a)]
      constructor
      · intro q p hp
        by_cases e : p = a
        · rw [e]; exact h
        · exact q p (by omega)
      · exact fun q p hp => q p (by omega)
    · rw [if_neg h]
      exact ⟨fun q => absurd q (by omega), fun q => absurd (q a (by omega)) h⟩
theorem rk0 {f : Nat → Int32} : ∀ {n : Nat}, rkO f n 0 = grN f n
  | 0 => rfl
  | s + 1 => by
    unfold rkO grN
    have ih := rk0 (f := f) (n := s)
    have hz : insP f (rkO f s) s s = 0 ↔ (s = 0 ∨ f (rkO f s 0) < f s) := by
      rw [insP_z]
      constructor
      · intro q
        by_cases e : s = 0
        · exact Or.inl e
        · exact Or.inr (q 0 (by omega))
      · rintro (q | q) p hp
        · omega
        · by_cases e : p = 0
          · rw [e]; exact q
          · have hs := (rkO_ok f s).1 0 p (by omega) hp
            exact Int32.lt_of_le_of_lt hs q
    by_cases h0 : s = 0
    · subst h0
      rw [if_pos rfl]
      rfl
    · rw [if_neg h0]
      by_cases h : f (grN f s) < f s
      · rw [if_pos h, if_pos (hz.mpr (Or.inr (by rw [ih]; exact h))).symm]
      · rw [if_neg h, if_neg (fun e => ?_), if_neg (by omega), ih]
        rcases hz.mp e.symm with q | q
        · exact h0 q
        · rw [ih] at q; exact h q
theorem sN_add {f g : Nat → Nat} : ∀ n, sN (fun a => f a + g a) n = sN f n + sN g n
  | 0 => rfl
  | n + 1 => by
    rw [sN_s, sN_s, sN_s, sN_add n]
    omega
theorem sN_cg {f g : Nat → Nat} : ∀ {n : Nat}, (∀ q, q < n → f q = g q) → sN f n = sN g n
  | 0, _ => rfl
  | n + 1, h => by rw [sN_s, sN_s, sN_cg (n := n) (fun q hq => h q (by omega)), h n (by omega)]
theorem sumN_add {f g : Nat → Int32} : ∀ n, sumN (fun a => f a + g a) n = sumN f n + sumN g n
  | 0 => by show nI 0 = nI 0 + nI 0; decide
  | n + 1 => by
    rw [sumN_s, sumN_s, sumN_s, sumN_add n]
    rw [Int32.add_assoc, Int32.add_assoc]
    congr 1
    rw [← Int32.add_assoc, ← Int32.add_assoc, Int32.add_comm (sumN g n)]
theorem prN_tri {g : Nat → Nat → Nat} : ∀ n, prN g n n = triN (fun a b => g b a) n
  | 0 => rfl
  | n + 1 => by
    have ih := prN_tri (g := g) n
    unfold prN triN at ih ⊢
    rw [sN_s, sN_s, ← ih, ← sN_add]
    rw [show n + 1 - n - 1 = 0 by omega]
    show _ + 0 = _
    rw [Nat.add_zero]
    refine sN_cg (fun a ha => ?_)
    rw [show n + 1 - a - 1 = (n - a - 1) + 1 by omega, sN_s, show a + 1 + (n - a - 1) = n by omega]
theorem prI_tri {g : Nat → Nat → Int32} : ∀ n, prI g n n = triI (fun a b => g b a) n
  | 0 => rfl
  | n + 1 => by
    have ih := prI_tri (g := g) n
    unfold prI triI at ih ⊢
    rw [sumN_s, sumN_s, ← ih, ← sumN_add]
    rw [show n + 1 - n - 1 = 0 by omega]
    show _ + nI 0 = _
    rw [add_n0]
    refine sumN_congr (fun a ha => ?_)
    rw [show n + 1 - a - 1 = (n - a - 1) + 1 by omega, sumN_s, show a + 1 + (n - a - 1) = n by omega]
theorem toInt_ng {x : Int32} (hm : ¬ x = Int32.minValue) : (-x).toInt = -x.toInt := by
  rw [Int32.toInt_neg]
  have h1 := Int32.le_toInt x
  have h2 := Int32.toInt_lt x
  have h3 : ¬ x.toInt = -2147483648 := fun e => hm (Int32.toInt_inj.mp (e.trans (by decide)))
  unfold Int.bmod
  simp only
  split <;> omega
theorem absI_n (x : Int32) : absI (-x) = absI x := by
  unfold absI
  by_cases h : x = 0
  · subst h; decide
  by_cases hm : x = Int32.minValue
  · subst hm; decide
  by_cases h0 : 0 ≤ x
  · rw [if_pos h0, if_neg (fun q => ?_), Int32.neg_neg]
    have e := toInt_ng hm
    have h1 := Int32.le_iff_toInt_le.mp h0
    have h2 := Int32.le_iff_toInt_le.mp q
    rw [e] at h2
    have : (0 : Int32).toInt = 0 := by decide
    exact h (Int32.toInt_inj.mp (by omega))
  · rw [if_neg h0, if_pos ?_]
    have e := toInt_ng hm
    have h1 := Int32.lt_iff_toInt_lt.mp (Int32.not_le.mp h0)
    rw [Int32.le_iff_toInt_le, e]
    have : (0 : Int32).toInt = 0 := by decide
    omega
theorem absI_c (x y : Int32) : absI (x - y) = absI (y - x) := by
  rw [← absI_n (y - x), Int32.neg_sub]
