/-! the order that rank makes: places by counting -/
def ctN (p : Nat → Bool) : Nat → Nat
  | 0 => 0
  | n + 1 => ctN p n + (if p n then 1 else 0)
theorem ctN_le (p : Nat → Bool) : ∀ n, ctN p n ≤ n
  | 0 => Nat.le_refl _
  | n + 1 => by
    have := ctN_le p n
    unfold ctN
    split <;> omega
theorem ctN_cong {p q : Nat → Bool} : ∀ {n : Nat}, (∀ k, k < n → p k = q k) → ctN p n = ctN q n
  | 0, _ => rfl
  | n + 1, h => by unfold ctN; rw [ctN_cong (fun k hk => h k (by omega)), h n (by omega)]
theorem ctN_upd (p : Nat → Bool) {i : Nat} (hp : p i = false) : ∀ {n : Nat}, ctN (fun k => if k = i then true else p k) n = ctN p n + (if i < n then 1 else 0)
  | 0 => rfl
  | n + 1 => by
    unfold ctN
    rw [ctN_upd p hp]
    by_cases h : n = i
    · subst h
      simp [hp]
    · have e : (if i < n + 1 then 1 else 0) = (if i < n then 1 else (0 : Nat)) := by
        by_cases h2 : i < n
        · rw [if_pos h2, if_pos (by omega)]
        · rw [if_neg h2, if_neg (by omega)]
      rw [if_neg h, e]
      omega
theorem ctN_bij {g σ : Nat → Nat} {n : Nat} (h1 : ∀ p, p < n → σ p < n ∧ g (σ p) = p) (h2 : ∀ s, s < n → σ (g s) = s) : ∀ q, q ≤ n → ctN (fun s => decide (g s < q)) n = q
  | 0, _ => by
    have : ∀ m, ctN (fun s => decide (g s < 0)) m = 0 := by
      intro m
      induction m with
      | zero => rfl
      | succ m ih => unfold ctN; rw [ih]; simp
    exact this n
  | q + 1, h => by
    have ih := ctN_bij h1 h2 q (by omega)
    have hs := h1 q (by omega)
    have e : ctN (fun s => decide (g s < q + 1)) n = ctN (fun k => if k = σ q then true else decide (g k < q)) n := by
      apply ctN_cong
      intro k hk
      by_cases e : k = σ q
      · subst e; simp [hs.2]
      · simp only [if_neg e]
        have : g k ≠ q := fun z => e (by rw [← h2 k hk, z])
        exact decide_eq_decide.mpr (by omega)
    rw [e, ctN_upd _ (by simp [hs.2]), ih, if_pos hs.1]
/-- o stands ahead of s -/
def bf (f : Nat → Int32) (o s : Nat) : Bool := decide (f s < f o) || (decide (f o = f s) && decide (o < s))
/-- the place of s among n -/
def plc (f : Nat → Int32) (n s : Nat) : Nat := ctN (fun o => bf f o s) n
theorem insP_spec (f : Nat → Int32) (o : Nat → Nat) (s : Nat) : ∀ a, (∀ p, insP f o s a ≤ p → p < a → f (o p) < f s) ∧ (0 < insP f o s a → ¬ f (o (insP f o s a - 1)) < f s)
  | 0 => ⟨fun p _ h => absurd h (by omega), fun h => absurd h (by simp [insP])⟩
  | a + 1 => by
    have ih := insP_spec f o s a
    unfold insP
    by_cases h : f (o a) < f s
    · rw [if_pos h]
      refine ⟨fun p h1 h2 => ?_, ih.2⟩
      by_cases e : p = a
      · subst e; exact h
      · exact ih.1 p h1 (by omega)
    · rw [if_neg h]
      exact ⟨fun p h1 h2 => absurd h1 (by omega), fun _ => h⟩
theorem i32_le_trans {a b c : Int32} (h1 : a ≤ b) (h2 : b ≤ c) : a ≤ c := Int32.le_trans h1 h2
/-- the order is sorted, and places are where things stand -/
theorem rkO_ok (f : Nat → Int32) : ∀ n, (∀ p q, p < q → q < n → f (rkO f n q) ≤ f (rkO f n p)) ∧ (∀ p, p < n → plc f n (rkO f n p) = p) ∧ ∀ s, s < n → plc f n s < n ∧ rkO f n (plc f n s) = s
  | 0 => ⟨fun p q _ h => absurd h (by omega), fun p h => absurd h (by omega), fun s h => absurd h (by omega)⟩
  | n + 1 => by
    obtain ⟨hs, hp, hq⟩ := rkO_ok f n
    have hle := insP_le f (rkO f n) n n
    obtain ⟨sp1, sp2⟩ := insP_spec f (rkO f n) n n
    generalize hQ : insP f (rkO f n) n n = Q at *
    have hval : ∀ p, rkO f (n + 1) p = if p = Q then n else if Q < p then rkO f n (p - 1) else rkO f n p := by
      intro p
      show (if p = insP f (rkO f n) n n then n else if insP f (rkO f n) n n < p then rkO f n (p - 1) else rkO f n p) = _
      rw [hQ]
    have lo : ∀ p, p < Q → f n ≤ f (rkO f n p) := by
      intro p hpq
      have h1 := Int32.not_lt.mp (sp2 (by omega))
      by_cases e : p = Q - 1
      · rw [e]; exact h1
      · exact i32_le_trans h1 (hs p (Q - 1) (by omega) (by omega))
    have hi : ∀ p, Q ≤ p → p < n → f (rkO f n p) < f n := sp1
    -- where an old one stands
    have old : ∀ s, s < n → (bf f n s = decide (Q ≤ plc f n s)) := by
      intro s hsn
      obtain ⟨h1, h2⟩ := hq s hsn
      unfold bf
      have e0 : decide (n < s) = false := by simp; omega
      rw [e0, Bool.and_false, Bool.or_false]
      refine decide_eq_decide.mpr ⟨fun h => ?_, fun h => ?_⟩
      · apply Nat.le_of_not_lt
        intro hlt
        have := lo _ hlt
        rw [h2] at this
        exact absurd h (Int32.not_lt.mpr this)
      · have := hi _ h h1
        rw [h2] at this
        exact this
    have plcOld : ∀ s, s < n → plc f (n + 1) s = if Q ≤ plc f n s then plc f n s + 1 else plc f n s := by
      intro s hsn
      show ctN _ n + (if bf f n s then 1 else 0) = _
      rw [old s hsn]
      by_cases h : Q ≤ plc f n s
      · simp [h]; rfl
      · simp [h]; rfl
    have plcNew : plc f (n + 1) n = Q := by
      show ctN (fun o => bf f o n) n + (if bf f n n then 1 else 0) = Q
      have e1 : bf f n n = false := by simp [bf, Int32.lt_irrefl]
      rw [e1]
      have e2 : ctN (fun o => bf f o n) n = ctN (fun o => decide (plc f n o < Q)) n := by
        apply ctN_cong
        intro o ho
        obtain ⟨h1, h2⟩ := hq o ho
        unfold bf
        have e3 : decide (o < n) = true := by simp; exact ho
        rw [e3, Bool.and_true, ← Bool.decide_or]
        refine decide_eq_decide.mpr ⟨fun h => ?_, fun h => ?_⟩
        · apply Nat.lt_of_not_le
          intro hge
          have h3 := hi _ hge h1
          rw [h2] at h3
          rcases h with h | h
          · exact absurd (Int32.lt_trans h h3) Int32.lt_irrefl
          · rw [h] at h3; exact absurd h3 Int32.lt_irrefl
        · have h3 := lo _ h
          rw [h2] at h3
          by_cases e4 : f o = f n
          · exact Or.inr e4
          · exact Or.inl (Int32.lt_of_le_of_ne h3 (fun z => e4 z.symm))
      rw [e2, ctN_bij (σ := rkO f n) (fun p hp' => ⟨rkO_lt f n p hp', hp p hp'⟩) (fun s hs' => (hq s hs').2) Q hle]
      simp
    refine ⟨fun p q hpq hqn => ?_, fun p hpn => ?_, fun s hsn => ?_⟩
    · rw [hval p, hval q]
      by_cases e1 : p = Q
      · rw [if_pos e1, if_neg (by omega), if_pos (by omega)]
        have := hi (q - 1) (by omega) (by omega)
        exact Int32.le_of_lt this
      · rw [if_neg e1]
        by_cases e2 : q = Q
        · rw [if_pos e2, if_neg (by omega)]
          exact lo p (by omega)
        · rw [if_neg e2]
          by_cases e3 : Q < p
          · rw [if_pos e3, if_pos (by omega)]
            exact hs (p - 1) (q - 1) (by omega) (by omega)
          · rw [if_neg e3]
            by_cases e4 : Q < q
            · rw [if_pos e4]
              by_cases e5 : p = q - 1
              · omega
              · exact hs p (q - 1) (by omega) (by omega)
            · rw [if_neg e4]
              exact hs p q hpq (by omega)
    · rw [hval p]
      by_cases e1 : p = Q
      · rw [if_pos e1, plcNew, e1]
      · rw [if_neg e1]
        by_cases e3 : Q < p
        · rw [if_pos e3, plcOld _ (rkO_lt f n (p - 1) (by omega)), hp (p - 1) (by omega), if_pos (by omega)]
          omega
        · rw [if_neg e3, plcOld _ (rkO_lt f n p (by omega)), hp p (by omega), if_neg (by omega)]
    · by_cases e : s = n
      · subst e
        rw [plcNew, hval, if_pos rfl]
        exact ⟨by omega, rfl⟩
      · obtain ⟨h1, h2⟩ := hq s (by omega)
        rw [plcOld s (by omega)]
        by_cases e2 : Q ≤ plc f n s
        · rw [if_pos e2, hval, if_neg (by omega), if_pos (by omega), Nat.add_sub_cancel]
          exact ⟨by omega, h2⟩
        · rw [if_neg e2, hval, if_neg (by omega), if_neg (by omega)]
          exact ⟨by omega, h2⟩
theorem plc_rk {f : Nat → Int32} {n p : Nat} (h : p < n) : plc f n (rkO f n p) = p := (rkO_ok f n).2.1 p h
theorem rk_plc {f : Nat → Int32} {n s : Nat} (h : s < n) : plc f n s < n ∧ rkO f n (plc f n s) = s := (rkO_ok f n).2.2 s h
