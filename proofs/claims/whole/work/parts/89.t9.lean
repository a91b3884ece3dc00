/-! ties: odds -/
/-- the model's memory after v has come to the WORLD k, g in all -/
def RO6 (k n g : Nat) (v : V4) (X Y : MI) : Prop :=
  X (11, k) 3 = Y (70, 0) k ∧ X (11, k) 4 = Y (71, 0) k ∧ Y (73, 0) k = X (11, k) 7 + nI g ∧ Y (74, 0) k = X (11, k) 8 + nI (sm v) ∧
  (∃ q, q ≤ 9999 ∧ X (11, k) 5 = nI q ∧ Y (50, 0) (12 + k) = nI q) ∧ (∀ s, s < n → cnM Y k s = ctT (X (12, k)) v s) ∧
  (∀ s, s < n → X (2, 0) s = Y (50, 0) s) ∧ ∀ s, s < n → ∃ c, c ≤ 99999 ∧ X (12, k) s = nI c
theorem wT_t {B : Nat → Nat} {len k n g s : Nat} {v : V4} {X Y : MI} (hk9 : ¬ k = 9) (hlen : len ≤ 120) (hf : (cText B len).2.1 = none) (h : RO6 k n g v X Y) (hs : s < n) : wT (cdT B len) (lnT B len) n (folI X 9 k) k g v s = wtMi B len Y k n s := by
  obtain ⟨h3, h4, h7, h8, -, hc, hw, -⟩ := h
  have o2 : ∀ i, folI X 9 k (2, 0) i = X (2, 0) i := fun i => by simp [folI, upM]
  have o12 : folI X 9 k (12, k) = X (12, k) := funext fun i => by simp [folI, upM]
  have o7 : folI X 9 k (11, k) 7 = X (11, k) 7 := by simp [folI, upM]
  have o8 : folI X 9 k (11, k) 8 = X (11, k) 8 := by simp [folI, upM]
  have q3 : folI X 9 k (11, 9) 3 = X (11, k) 3 := by simp [folI, upM]
  have q4 : folI X 9 k (11, 9) 4 = X (11, k) 4 := by simp [folI, upM]
  unfold wT wtV wtMi
  rw [evalT hlen hf, o2, o12, o7, o8, q3, q4, h3, h4, ← h7, ← h8, hw s hs, ← hc s hs, plc_congr (f := ctT (X (12, k)) v) (g := cnM Y k) (fun q hq => (hc q hq).symm) hs]
theorem vG_le {v : V4} : ∀ s, vG v s ≤ sm v := fun s => by
  unfold vG sm
  split <;> omega
theorem vG_inc {v : V4} {s s' : Nat} (hs : s < 4) (hs' : s' < 4) : vG (incV v s) s' = vG v s' + (if s' = s then 1 else 0) := by
  rcases (show s = 0 ∨ s = 1 ∨ s = 2 ∨ s = 3 by omega) with rfl | rfl | rfl | rfl <;> rcases (show s' = 0 ∨ s' = 1 ∨ s' = 2 ∨ s' = 3 by omega) with rfl | rfl | rfl | rfl <;> simp [vG, incV]
theorem sm_inc {v : V4} {s : Nat} (hs : s < 4) : sm (incV v s) = sm v + 1 := by
  rcases (show s = 0 ∨ s = 1 ∨ s = 2 ∨ s = 3 by omega) with rfl | rfl | rfl | rfl <;> simp [sm, incV] <;> omega
theorem minI_n {a : Nat} (ha : a < 2 ^ 30) : minI (nI a) 99999 = nI (min a 99999) := by
  unfold minI
  rw [show (99999 : Int32) = nI 99999 from rfl]
  by_cases h : a < 99999
  · rw [if_neg (by rw [nI_ltI (by omega) (by omega)]; omega), show min a 99999 = a by omega]
  · by_cases e : a = 99999
    · subst e
      rw [show min 99999 99999 = 99999 by omega]
      split <;> rfl
    · rw [if_pos (by rw [nI_ltI (by omega) (by omega)]; omega), show min a 99999 = 99999 by omega]
theorem RO6.cam {k n g : Nat} {v : V4} {X Y : MI} (h : RO6 k n g v X Y) : RO6 k n (g + 1) v X (camI Y k) := by
  obtain ⟨h3, h4, h7, h8, h5, hc, hw, hb⟩ := h
  have hY : ∀ t i, ¬ (t = (73, 0) ∧ i = k) → camI Y k t i = Y t i := fun t i q => by unfold camI; exact if_neg q
  refine ⟨?_, ?_, ?_, ?_, ?_, fun s hs => ?_, fun s hs => ?_, hb⟩
  · rw [hY _ _ (by simp)]; exact h3
  · rw [hY _ _ (by simp)]; exact h4
  · unfold camI
    rw [upM_s, h7, Int32.add_assoc, nI_add]
  · rw [hY _ _ (by simp)]; exact h8
  · rw [hY _ _ (by simp)]; exact h5
  · unfold cnM
    rw [hY _ _ (by simp)]; exact hc s hs
  · rw [hY _ _ (by simp)]; exact hw s hs
theorem RO6.kid {k n g s : Nat} {v : V4} {X Y : MI} (hn4 : n ≤ 4) (hk : k < 9) (hs : s < n) (hv : sm v ≤ 6) (h : RO6 k n g v X Y) : RO6 k n g (incV v s) X (kidI Y k s) := by
  obtain ⟨h3, h4, h7, h8, h5, hc, hw, hb⟩ := h
  have hY : ∀ t i, ¬ (t = (74, 0) ∧ i = k) → ¬ (t = (50, 0) ∧ i = 23 + 12 * k + s) → kidI Y k s t i = Y t i := fun t i q1 q2 => by
    unfold kidI
    rw [show upM _ (74, 0) k _ t i = _ from if_neg q1]
    exact if_neg q2
  refine ⟨?_, ?_, ?_, ?_, ?_, fun s' hs' => ?_, fun s' hs' => ?_, hb⟩
  · rw [hY _ _ (by simp) (by simp)]; exact h3
  · rw [hY _ _ (by simp) (by simp)]; exact h4
  · rw [hY _ _ (by simp) (by simp)]; exact h7
  · unfold kidI
    rw [upM_s, h8, sm_inc (by omega), Int32.add_assoc, nI_add]
  · rw [hY _ _ (by simp) (by simp; omega)]; exact h5
  · obtain ⟨c, hc9, hcv⟩ := hb s' hs'
    have hg := vG_le (v := v) s'
    have e0 := hc s' hs'
    unfold ctT at e0 ⊢
    rw [hcv, nI_add] at e0
    rw [minI_n (by omega)] at e0
    rw [vG_inc (by omega) (by omega), hcv, nI_add]
    by_cases e : s' = s
    · subst e
      rw [if_pos rfl, minI_n (by omega)]
      unfold cnM kidI
      rw [upM_n _ (by simp), upM_s, show Y (50, 0) (23 + 12 * k + s') = _ from e0, nI_add, minI_n (by omega)]
      congr 1
      omega
    · rw [if_neg e, Nat.add_zero, minI_n (by omega)]
      unfold cnM
      rw [hY _ _ (by simp) (by simp; omega)]
      exact e0
  · rw [hY _ _ (by simp) (by simp; omega)]; exact hw s' hs'
theorem nn_le {x : Int32} {q : Nat} (hq : q < 2 ^ 31) (hx : x = nI q) : x ≤ 0 ↔ x = 0 := by
  subst hx
  rw [show (0 : Int32) = nI 0 from rfl, nI_leI hq (by omega), nI_eq hq (by omega)]
  omega
theorem od_t {B : Nat → Nat} {len k n m j : Nat} {wh : Int32} {X : MI} (hlen : len ≤ 120) (hf : (cText B len).2.1 = none) (hn4 : n ≤ 4) (hk : k < 9) (hm : m ≤ 6) (hj : j < n) : ∀ {t : Nat} {v : V4} {Y : MI}, t ≤ m → sm v ≤ m - t → RO6 k n (m - t) v X Y → odF (cdT B len) (lnT B len) n (folI X 9 k) k m wh j t v = odM B len n k j wh t Y
  | 0, v, Y, _, hv, h => by
    have hc := h.2.2.2.2.2.1
    have o12 : folI X 9 k (12, k) = X (12, k) := funext fun i => by simp [folI, upM]
    unfold odF odM leafO
    rw [o12, hc j hj]
    by_cases e : wh = nI 1
    · rw [if_pos e, if_pos e, Int64.mul_comm]
    · rw [if_neg e, if_neg e, if_neg (show ¬ n = 0 by omega), rk0, grN_congr (f := cnM Y k) (g := ctT (X (12, k)) v) hc]
      have hl := grN_lt (ctT (X (12, k)) v) n (by omega)
      have he := nI_eq (show grN (ctT (X (12, k)) v) n < 2 ^ 31 by omega) (show j < 2 ^ 31 by omega)
      by_cases hg : grN (ctT (X (12, k)) v) n = j
      · rw [if_pos (he.mpr hg), if_pos hg]
      · rw [if_neg (fun z => hg (he.mp z)), if_neg hg]
  | t + 1, v, Y, ht, hv, h => by
    have o5 : folI X 9 k (11, 9) 5 = X (11, k) 5 := by simp [folI, upM]
    obtain ⟨q, hq, x5, y5⟩ := h.2.2.2.2.1
    have hW : ∀ s, s < n → wT (cdT B len) (lnT B len) n (folI X 9 k) k (m - (t + 1)) v s = wtMi B len Y k n s := fun s hs => wT_t (by omega) hlen hf h hs
    have hA : allT (cdT B len) (lnT B len) n (folI X 9 k) k (m - (t + 1)) v = sumF (Y (50, 0) (12 + k)) (wtMi B len Y k n) n := by
      unfold allT
      rw [o5, x5, y5, sumF_congr hW]
    obtain ⟨Q, hQ, hQb, hQz⟩ := sumF_nn (wtMi_bd B len Y k n) hq n
    have hcam := h.cam
    rw [show m - (t + 1) + 1 = m - t by omega] at hcam
    have hF0 : odF (cdT B len) (lnT B len) n (folI X 9 k) k m wh j t v = odM B len n k j wh t (camI Y k) := od_t hlen hf hn4 hk hm hj (by omega) (by omega) hcam
    have hFs : ∀ s, s < n → odF (cdT B len) (lnT B len) n (folI X 9 k) k m wh j t (incV v s) = odM B len n k j wh t (kidI (camI Y k) k s) := fun s hs => od_t hlen hf hn4 hk hm hj (by omega) (by rw [sm_inc (by omega)]; omega) (hcam.kid hn4 hk hs (by omega))
    show (if _ then _ else _) = _
    rw [hA]
    have hS : sumF (Y (50, 0) (12 + k)) (wtMi B len Y k n) n = nI Q := by rw [y5]; exact hQ
    by_cases e : sumF (Y (50, 0) (12 + k)) (wtMi B len Y k n) n = 0
    · rw [if_pos ((nn_le (q := Q) (by omega) hS).mpr e), odM_z e]
      exact hF0
    · rw [if_neg (fun z => e ((nn_le (q := Q) (by omega) hS).mp z)), odM_n e, o5]
      congr 1
      have key : ∀ i, i ≤ n → mixV (X (11, k) 5) (wT (cdT B len) (lnT B len) n (folI X 9 k) k (m - (t + 1)) v) (odF (cdT B len) (lnT B len) n (folI X 9 k) k m wh j t) v i = odS (wtMi B len Y k n) (fun s => odM B len n k j wh t (kidI (camI Y k) k s)) ((if 0 < Y (50, 0) (12 + k) then odM B len n k j wh t (camI Y k) else 0) * (Y (50, 0) (12 + k)).toInt64) i := by
        intro i
        induction i with
        | zero =>
          intro _
          unfold mixV odS
          rw [hF0, x5, y5]
          by_cases hz : q = 0
          · subst hz
            rw [show (nI 0).toInt64 = 0 from by decide, Int64.zero_mul, Int64.mul_zero]
          · rw [if_pos (show (0 : Int32) < nI q from (nI_ltI (a := 0) (by omega) (by omega)).mpr (by omega)), Int64.mul_comm]
        | succ i ih =>
          intro hi
          unfold mixV odS
          rw [ih (by omega), hW i (by omega), hFs i (by omega)]
          obtain ⟨w, hw9, hwv⟩ := wtMi_bd B len Y k n i
          by_cases hz : wtMi B len Y k n i = 0
          · rw [if_pos hz, if_pos ((nn_le (q := w) (by omega) hwv).mpr hz)]
          · rw [if_neg hz, if_neg (fun q => hz ((nn_le (q := w) (by omega) hwv).mp q))]
      exact key n (Nat.le_refl _)
