/-! ties: house -/
def popc (q : Nat) : Nat := ctN (fun s => q.testBit s) 12
theorem bc_al2 : ∀ a, a < 64 → ∀ b, b < 64 → bcI (nI (64 * a + b)) = nI (popc (64 * a + b)) := by decide +kernel
theorem kb_al2 : ∀ a, a < 64 → ∀ b, b < 64 → kbX 13 (nI (64 * a + b)) = some (popc (64 * a + b)) := by decide +kernel
theorem bc_all (q : Nat) (h : q < 4096) : bcI (nI q) = nI (popc q) := by
  have := bc_al2 (q / 64) (by omega) (q % 64) (by omega)
  rw [Nat.div_add_mod] at this
  exact this
theorem kb_all (q : Nat) (h : q < 4096) : kbX 13 (nI q) = some (popc q) := by
  have := kb_al2 (q / 64) (by omega) (q % 64) (by omega)
  rw [Nat.div_add_mod] at this
  exact this
theorem popc_le (q : Nat) : popc q ≤ 12 := ctN_le _ _
theorem nI_bv (a : Nat) : (nI a).toBitVec = BitVec.ofNat 32 a := rfl
theorem nI_and (a b : Nat) : nI a &&& nI b = nI (a &&& b) := by
  refine Int32.toBitVec_inj.mp ?_
  rw [Int32.toBitVec_and, nI_bv, nI_bv, nI_bv, BitVec.ofNat_and]
theorem nI_or (a b : Nat) : nI a ||| nI b = nI (a ||| b) := by
  refine Int32.toBitVec_inj.mp ?_
  rw [Int32.toBitVec_or, nI_bv, nI_bv, nI_bv, BitVec.ofNat_or]
def bN (o : Nat → Nat) : Nat → Nat
  | 0 => 0
  | p + 1 => bN o p ||| 2 ^ o p
theorem bitsN_n {o : Nat → Nat} : ∀ {h : Nat}, (∀ p, p < h → o p < 13) → bitsN o h = nI (bN o h)
  | 0, _ => rfl
  | h + 1, ho => by
    unfold bitsN bN
    rw [bitsN_n (h := h) (fun p hp => ho p (by omega)), shl_n _ (ho h (by omega)), nI_or]
theorem bN_bit {o : Nat → Nat} {s : Nat} : ∀ {h : Nat}, (bN o h).testBit s = true ↔ ∃ p, p < h ∧ o p = s
  | 0 => by
    unfold bN
    simp
  | h + 1 => by
    unfold bN
    rw [Nat.testBit_or, Bool.or_eq_true, bN_bit (h := h), Nat.testBit_two_pow, decide_eq_true_eq]
    constructor
    · rintro (⟨p, hp, e⟩ | e)
      · exact ⟨p, by omega, e⟩
      · exact ⟨h, by omega, e⟩
    · rintro ⟨p, hp, e⟩
      by_cases q : p = h
      · subst q; exact Or.inr e
      · exact Or.inl ⟨p, by omega, e⟩
theorem bN_rk {f : Nat → Int32} {n h s : Nat} (hh : h ≤ n) (hs : s < n) : (bN (rkO f n) h).testBit s = decide (plc f n s < h) := by
  rw [Bool.eq_iff_iff, bN_bit, decide_eq_true_eq]
  obtain ⟨-, h2, h3⟩ := rkO_ok f n
  constructor
  · rintro ⟨p, hp, e⟩
    rw [← e, h2 p (by omega)]; exact hp
  · intro q
    exact ⟨plc f n s, q, (h3 s hs).2⟩
theorem bN_no {f : Nat → Int32} {n h s : Nat} (hh : h ≤ n) (hs : n ≤ s) : (bN (rkO f n) h).testBit s = false := by
  rw [← Bool.not_eq_true, bN_bit]
  rintro ⟨p, hp, e⟩
  have := rkO_lt f n p (by omega)
  omega
theorem hi_t {q n h s : Nat} {f : Nat → Int32} (hq : q < 2 ^ 31) (hs : s < 13) : hiC (nI q) f n h s = (q.testBit s && decide (plc f n s < h)) := by
  unfold hiC
  congr 1
  rw [shr_n hs hq, nI_and, Nat.testBit_eq_decide_div_mod_eq, decide_eq_decide]
  have e : q / 2 ^ s &&& 1 = q / 2 ^ s % 2 := Nat.and_one_is_mod _
  rw [e]
  have := Nat.mod_lt (q / 2 ^ s) (show 2 > 0 by omega)
  rw [nI_eq (by omega) (by omega)]
theorem ctN_ext {p : Nat → Bool} {n : Nat} : ∀ {k : Nat}, (∀ s, n ≤ s → s < n + k → p s = false) → ctN p (n + k) = ctN p n
  | 0, _ => rfl
  | k + 1, h => by
    show ctN p (n + k) + (if p (n + k) then 1 else 0) = _
    rw [h (n + k) (by omega) (by omega), ctN_ext (k := k) (fun s h1 h2 => h s h1 (by omega))]
    rfl
theorem bit_out {q n s : Nat} (hq : q < 2 ^ n) (hs : n ≤ s) : q.testBit s = false := Nat.testBit_lt_two_pow (Nat.lt_of_lt_of_le hq (Nat.pow_le_pow_right (by omega) hs))
theorem pop_hi {q n h : Nat} {f : Nat → Int32} (hN : n ≤ 12) (hq : q < 2 ^ n) (hh : h ≤ n) : popc (q &&& bN (rkO f n) h) = ctN (hiC (nI q) f n h) n := by
  have h13 := pow13 (m := n) (by omega)
  unfold popc
  have e : 12 = n + (12 - n) := by omega
  rw [e, ctN_ext (fun s h1 _ => by rw [Nat.testBit_and, bit_out hq h1, Bool.false_and])]
  refine ctN_cong (fun s hs => ?_)
  rw [Nat.testBit_and, bN_rk hh hs, hi_t (by omega) (by omega)]
theorem bv_n {q i : Nat} (hi : i < 32) : (nI q).toBitVec.getLsbD i = q.testBit i := by
  rw [nI_bv, BitVec.getLsbD_ofNat]
  simp [hi]
theorem m1_b {i : Nat} (hi : i < 32) : (-1 : Int32).toBitVec.getLsbD i = true := (by decide : ∀ i, i < 32 → (-1 : Int32).toBitVec.getLsbD i = true) i hi
theorem drw_b {q n h : Nat} {f : Nat → Int32} {i : Nat} (hq : q < 2 ^ 31) (hi : i < 32) : ∀ {s : Nat}, s < 13 → (drwI (nI q) f n h s).toBitVec.getLsbD i = (q.testBit i && !(decide (i < s) && hiC (nI q) f n h i))
  | 0, _ => by
    show (nI q).toBitVec.getLsbD i = _
    rw [bv_n hi]
    simp
  | s + 1, hs => by
    unfold drwI
    by_cases hc : hiC (nI q) f n h s = true
    · rw [if_pos hc, Int32.toBitVec_and, Int32.toBitVec_xor, BitVec.getLsbD_and, BitVec.getLsbD_xor, drw_b hq hi (s := s) (by omega), m1_b hi, shl_n s (by omega), bv_n hi, Nat.testBit_two_pow]
      by_cases e : s = i
      · subst e
        rw [hc]
        simp
      · have e2 : decide (i < s + 1) = decide (i < s) := by rw [decide_eq_decide]; omega
        rw [e2, decide_eq_false e]
        simp
    · rw [if_neg hc, drw_b hq hi (s := s) (by omega)]
      by_cases e : s = i
      · subst e
        rw [Bool.not_eq_true] at hc
        rw [hc]
        simp
      · have e2 : decide (i < s + 1) = decide (i < s) := by rw [decide_eq_decide]; omega
        rw [e2]
theorem drw_t {q n h : Nat} {f : Nat → Int32} (hN : n ≤ 12) (hq : q < 2 ^ n) (hh : h ≤ n) : nI q &&& (nI (bN (rkO f n) h) ^^^ (-1)) = drwI (nI q) f n h n := by
  have h13 := pow13 (m := n) (by omega)
  refine Int32.toBitVec_inj.mp (BitVec.eq_of_getLsbD_eq (fun i hi => ?_))
  rw [drw_b (by omega) hi (by omega), Int32.toBitVec_and, Int32.toBitVec_xor, BitVec.getLsbD_and, BitVec.getLsbD_xor, m1_b hi, bv_n hi, bv_n hi]
  by_cases hin : i < n
  · rw [bN_rk hh hin, hi_t (by omega) (by omega), decide_eq_true hin]
    cases q.testBit i <;> cases decide (plc f n i < h) <;> rfl
  · rw [bN_no hh (by omega), decide_eq_false hin]
    cases q.testBit i <;> rfl
theorem hs_t {q n h w : Nat} {f : Nat → Int32} (hN : n ≤ 12) (hq : q < 2 ^ n) (hh : h ≤ n) (h1 : 1 ≤ h) (hw : w ≤ 3) : hsV n (nI q) (bitsN (rkO f n) h) h w = hsVm (nI q) f n h (popc q) w := by
  have h13 := pow13 (m := n) (by omega)
  have hb : bitsN (rkO f n) h = nI (bN (rkO f n) h) := bitsN_n (fun p hp => by have := rkO_lt f n p (by omega); omega)
  have hc0 : bcI (nI q) = nI (popc q) := bc_all q (by omega)
  have hle : q &&& bN (rkO f n) h < 4096 := Nat.lt_of_le_of_lt Nat.and_le_left (by omega)
  have hc1 : bcI (nI q &&& nI (bN (rkO f n) h)) = nI (ctN (hiC (nI q) f n h) n) := by rw [nI_and, bc_all _ hle, pop_hi hN hq hh]
  have hp := popc_le q
  have hc := ctN_le (hiC (nI q) f n h) n
  have hm : popc q * h ≤ 12 * 12 := Nat.mul_le_mul hp (by omega)
  have hd : nI (popc q) * nI h * nI 1000 / nI n = nI (popc q * h * 1000 / n) := by
    rw [pk_mul, pk_mul, pk_div (by omega) (by omega) (by omega)]
  unfold hsV hsVm
  rw [hb, hc0, hc1, hd]
  by_cases e0 : w = 0
  · rw [if_pos e0, if_pos e0]
  rw [if_neg e0, if_neg e0]
  by_cases e1 : w = 1
  · rw [if_pos e1, if_pos e1]
  rw [if_neg e1, if_neg e1]
  by_cases e2 : w = 2
  · rw [if_pos e2, if_pos e2, pk_mul, Nat.mul_comm]
  rw [if_neg e2, if_neg e2]
  exact drw_t hN hq hh
