/-! ties: unequal, luck, right, guess, after -/
theorem triI_cg {g h : Nat → Nat → Int32} {n : Nat} (e : ∀ a b, b < a → a < n → g a b = h a b) : triI g n = triI h n := sumN_congr (fun a ha => sumN_congr (fun b hb => e a b hb ha))
theorem triN_cg {g h : Nat → Nat → Nat} {n : Nat} (e : ∀ a b, b < a → a < n → g a b = h a b) : triN g n = triN h n := sN_cg (fun a ha => sN_cg (fun b hb => e a b hb ha))
theorem ue_t {I : MI} {n j : Nat} : ueI I n j = triI (fun a b => absI (shareI (I (12, j)) n a - shareI (I (12, j)) n b)) n := by
  unfold ueI
  rw [prI_tri]
  exact triI_cg (fun a b _ _ => absI_c _ _)
theorem lkV_t {I : MI} {x : Int32} {n m s : Nat} : lkV I x n m s = lkVm (fun k => I (11, k) 2) (fun k => I (12, k)) x n m s := by
  unfold lkV lkVm
  have e1 : prN (lkP I x) m m = triN (lkPm (fun k => I (11, k) 2) x) m := by
    rw [prN_tri]
    refine triN_cg (fun a b _ _ => ?_)
    unfold lkP lkPm
    simp only [And.comm]
  have e2 : prI (lkG I x n s) m m = triI (lkGm (fun k => I (11, k) 2) (fun k => I (12, k)) x n s) m := by
    rw [prI_tri]
    refine triI_cg (fun a b _ _ => ?_)
    unfold lkG lkGm
    rw [absI_c]
    simp only [And.comm]
  rw [e1, e2]
theorem lkA_t {I : MI} {x : Int32} {n m : Nat} (hn : 0 < n) : lkAll I x n m = lkAm (fun k => I (11, k) 2) (fun k => I (12, k)) x n m := by
  unfold lkAll lkAm
  rw [if_neg (by omega), show lkV I x n m = lkVm (fun k => I (11, k) 2) (fun k => I (12, k)) x n m from funext fun s => lkV_t]
  rfl
theorem cmpI_v (a b : Int32) : cmpI a b = -1 ∨ cmpI a b = 0 ∨ cmpI a b = 1 := by
  unfold cmpI
  split
  · split
    · exact Or.inr (Or.inl rfl)
    · exact Or.inr (Or.inr rfl)
  · exact Or.inl rfl
theorem cmpI_f (a b : Int32) : cmpI b a = -cmpI a b := by
  unfold cmpI
  by_cases h1 : b ≤ a
  · rw [if_pos h1]
    by_cases e : a = b
    · subst e
      rw [if_pos h1, if_pos rfl]; decide
    · rw [if_neg (fun q => e (Int32.le_antisymm q h1)), if_neg e]; decide
  · rw [if_neg h1, if_pos (Int32.le_of_lt (Int32.not_le.mp h1)), if_neg (fun e => h1 (by rw [e]; exact Int32.le_refl _))]; decide
theorem wy_f (a b c d : Int32) : cmpI b a * cmpI d c = cmpI a b * cmpI c d := by
  rw [cmpI_f a b, cmpI_f c d]
  rcases cmpI_v a b with h | h | h <;> rcases cmpI_v c d with h2 | h2 | h2 <;> rw [h, h2] <;> decide
theorem wy_v (a b c d : Int32) : cmpI a b * cmpI c d = -1 ∨ cmpI a b * cmpI c d = 0 ∨ cmpI a b * cmpI c d = 1 := by
  rcases cmpI_v a b with h | h | h <;> rcases cmpI_v c d with h2 | h2 | h2 <;> rw [h, h2] <;> decide
theorem wyF_t {I : MI} {x y : Int32} {a b i : Nat} : wyF I x y b a i = wyM (I (2, 0)) (fun k => I (12, k)) x y a b i := by
  unfold wyF wyM wayI
  rw [wy_f]
theorem sN_one {f : Nat → Nat} {j : Nat} : ∀ {m : Nat}, j < m → (∀ i, i < m → i ≠ j → f i = 0) → sN f m = f j
  | 0, h, _ => absurd h (by omega)
  | m + 1, h, hz => by
    rw [sN_s]
    by_cases e : m = j
    · subst e
      rw [sN_cg (g := fun _ => 0) (fun q hq => hz q (by omega) (by omega)), sN_0 (fun _ => rfl), Nat.zero_add]
    · rw [sN_one (m := m) (by omega) (fun i hi => hz i (by omega)), hz m (by omega) e, Nat.add_zero]
theorem bit_one : ∀ j, j < 9 → ∀ i, i < 9 → (((nI 1 <<< (nI j &&& 31)) >>> (nI i &&& 31)) &&& nI 1 = nI 1 ↔ i = j) := by decide +kernel
theorem gsm_one {wo : Nat → Int32} {F : Nat → Nat → Int32} {y : Int32} {m j a b : Nat} (hj : j < m) (hM : m ≤ 9) : gsm wo F (nI 1 <<< (nI j &&& 31)) y m a b = if cmpI (wo a) (wo b) * cmpI (F j a) (F j b) = y then 1 else 0 := by
  unfold gsm
  rw [sN_one hj (fun i hi hne => ?_)]
  · unfold wyM
    simp only [(bit_one j (by omega) j (by omega)).mpr rfl, true_and]
  · unfold wyM
    rw [if_neg (fun q => hne ((bit_one j (by omega) i (by omega)).mp q.1))]
theorem rt_t {I : MI} {n j m : Nat} (hj : j < m) (hM : m ≤ 9) : rtV I n j = rtVm (I (2, 0)) (fun k => I (12, k)) n m (nI 1 <<< (nI j &&& 31)) := by
  unfold rtV rtVm
  have e1 : prN (rtP I j) n n = triN (gpm (I (2, 0)) (fun k => I (12, k)) (nI 1 <<< (nI j &&& 31)) m) n := by
    rw [prN_tri]
    refine triN_cg (fun a b _ _ => ?_)
    unfold rtP gpm wayI
    rw [gsm_one hj hM, gsm_one hj hM, wy_f]
    rcases wy_v (I (2, 0) a) (I (2, 0) b) (I (12, j) a) (I (12, j) b) with h | h | h <;> rw [h] <;> decide
  have e2 : prN (rtS I j) n n = triN (gsm (I (2, 0)) (fun k => I (12, k)) (nI 1 <<< (nI j &&& 31)) (nI 1) m) n := by
    rw [prN_tri]
    refine triN_cg (fun a b _ _ => ?_)
    unfold rtS wayI
    rw [gsm_one hj hM, wy_f]
    rcases wy_v (I (2, 0) a) (I (2, 0) b) (I (12, j) a) (I (12, j) b) with h | h | h <;> rw [h] <;> decide
  rw [e1, e2, Nat.mul_comm]
theorem sinc_t {g : Nat → Nat} : ∀ m, sinceN g (g m) m = frN g m
  | 0 => rfl
  | m + 1 => by
    unfold sinceN frN
    by_cases e : g m = g (m + 1)
    · rw [if_pos e, if_pos e.symm, ← e, sinc_t m]
    · rw [if_neg e, if_neg (fun q => e q.symm)]
