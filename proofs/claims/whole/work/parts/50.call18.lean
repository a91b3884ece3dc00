/-! EightWorlds: against chance -/
theorem c_shuffleA (l : Launch) {S : Shp} {I : MI} {L : ML} {R : MR} {n ta tb : Nat} (hN : n ≤ 12) (hT : S (ta, tb) = (1, 12)) (z0 : Int32) : Ct l mX8_shuffle 2 0 0 [.inr (.inr (some (ta, tb))), .inl (nI n), .inl z0] S I L R (PIm S L R (fun v J => v = (shuG drawnI (n - 1) (I (ta, tb)) z0).2 ∧ J = upT I (ta, tb) (shuG drawnI (n - 1) (I (ta, tb)) z0).1)) := by
  by_cases h : n = 0
  · subst h
    have e : (PIm S L R (fun v J => v = (shuG drawnI (0 - 1) (I (ta, tb)) z0).2 ∧ J = upT I (ta, tb) (shuG drawnI (0 - 1) (I (ta, tb)) z0).1)) = PIp S I L R z0 := by
      unfold PIp
      rw [show (0 - 1 : Nat) = 0 from rfl, shuG_0]
      simp only [upT_self]
    rw [e]
    exact c_shuffle0 l hT z0
  · exact c_shuffle l (by omega) hN hT z0
def agS (d : Int32 → Int32) (n : Nat) (s : (Nat → Int32) × Int32) : Nat → (Nat → Int32) × Int32
  | 0 => s
  | t + 1 => shuG d (n - 1) (agS d n s t).1 (agS d n s t).2
def agC (d : Int32 → Int32) (n : Nat) (p : Nat → Int32) (far : Int32) (s : (Nat → Int32) × Int32) (a : Nat) : Nat := ctN (fun t => decide (farI p (agS d n s (t + 1)).1 n ≤ far)) a
theorem agS_s (d : Int32 → Int32) (n : Nat) (s : (Nat → Int32) × Int32) (t : Nat) : agS d n s (t + 1) = shuG d (n - 1) (agS d n s t).1 (agS d n s t).2 := rfl
theorem agC_y {d : Int32 → Int32} {n : Nat} {p : Nat → Int32} {far : Int32} {s : (Nat → Int32) × Int32} {a : Nat} (h : farI p (agS d n s (a + 1)).1 n ≤ far) : agC d n p far s (a + 1) = agC d n p far s a + 1 := by
  show ctN _ a + _ = _
  rw [if_pos (decide_eq_true h)]
  rfl
theorem agC_n {d : Int32 → Int32} {n : Nat} {p : Nat → Int32} {far : Int32} {s : (Nat → Int32) × Int32} {a : Nat} (h : ¬ farI p (agS d n s (a + 1)).1 n ≤ far) : agC d n p far s (a + 1) = agC d n p far s a := by
  show ctN _ a + _ = _
  rw [if_neg (by simp only [decide_eq_true_eq]; exact h)]
  rfl
theorem va_cpy0 {f g : Nat → Int32} {n i : Nat} (h : i < n) : va_cpy f g 0 0 n i = f i := by
  simp only [va_cpy, Nat.zero_le, true_and, Nat.zero_add, Nat.sub_zero]
  rw [if_pos h]
def agP (j1 j2 : Nat) (t : Tok) (_ : Nat) : Prop := t = (13, j1) ∨ t = (14, j1) ∨ t = (13, j2) ∨ t = (14, j2) ∨ t = (34, 0)
theorem c_againstNN (l : Launch) {S : Shp} {I : MI} {L : ML} {R : MR} (xg : XG S R) {m : Nat} (hm : I (0, 0) 5 = nI m) (hM : m ≤ 9) (hR : ∀ k, k < m → R (10, 0) k = some (11, k)) (hW : ∀ k, k < m → WG k S R) {x : Int32} (h1 : inb (x / nI 10) m = false) (h2 : inb (x - x / nI 10 * nI 10) m = false) (y z : Int32) : Ct l mX8_against 2 0 0 [.inr (.inr (some (0, 0))), .inl x, .inl y, .inl z] S I L R (PIp S I L R (-1)) := by
  refine Ct.of [some (.inr (.inr (some (0, 0)))), some (.inl x), some (.inl y), some (.inl z), none, none, none, none, none, none] (by decide) rfl (Nat.le_of_ble_eq_true rfl) ?_
  refine g_ald0 (pc' := 1) dX8_against_0 rfl ?_
  refine g_ild1 (pc' := 2) dX8_against_1 rfl ?_
  refine g_bipush (pc' := 4) (v := nI 10) dX8_against_2 rfl (by decide) ?_
  refine g_idiv (pc' := 5) dX8_against_4 rfl (by decide) ?_
  refine g_callV (pc' := 8) (c_worldOfN l xg hm h1) xg.s0 (by decide) wX8_worldOf lX8_147 rfl rfl (Nat.le_of_ble_eq_true rfl) ⟨Nat.le_of_ble_eq_true rfl, Nat.le_of_ble_eq_true rfl⟩ ⟨Nat.le_of_ble_eq_true rfl, Nat.le_of_ble_eq_true rfl⟩ dX8_against_5 rfl (kRp ?_)
  refine g_ast4 (pc' := 10) rfl (by decide) dX8_against_8 rfl ?_
  refine g_ald0 (pc' := 11) dX8_against_10 rfl ?_
  refine g_ild1 (pc' := 12) dX8_against_11 rfl ?_
  refine g_bipush (pc' := 14) (v := nI 10) dX8_against_12 rfl (by decide) ?_
  refine g_irem (pc' := 15) dX8_against_14 rfl (by decide) ?_
  refine g_callV (pc' := 18) (c_worldOfN l xg hm h2) xg.s0 (by decide) wX8_worldOf lX8_147 rfl rfl (Nat.le_of_ble_eq_true rfl) ⟨Nat.le_of_ble_eq_true rfl, Nat.le_of_ble_eq_true rfl⟩ ⟨Nat.le_of_ble_eq_true rfl, Nat.le_of_ble_eq_true rfl⟩ dX8_against_15 rfl (kRp ?_)
  refine g_ast5 (pc' := 20) rfl (by decide) dX8_against_18 rfl ?_
  refine g_ald4 (pc' := 22) dX8_against_20 rfl ?_
  refine g_ifnullT (tgt := 48) dX8_against_22 (by decide) ?_
  refine g_iconst (pc' := 49) (v := (-1)) dX8_against_48 rfl (by decide) ?_
  refine g_iret rfl dX8_against_49 ?_
  exact eIp rfl

theorem c_againstNS (l : Launch) {S : Shp} {I : MI} {L : ML} {R : MR} (xg : XG S R) {m : Nat} (hm : I (0, 0) 5 = nI m) (hM : m ≤ 9) (hR : ∀ k, k < m → R (10, 0) k = some (11, k)) (hW : ∀ k, k < m → WG k S R) {x : Int32} (h1 : inb (x / nI 10) m = false) {j2 : Nat} (e2 : x - x / nI 10 * nI 10 = nI j2) (h2 : j2 < m) (y z : Int32) : Ct l mX8_against 2 0 0 [.inr (.inr (some (0, 0))), .inl x, .inl y, .inl z] S I L R (PIp S I L R (-1)) := by
  refine Ct.of [some (.inr (.inr (some (0, 0)))), some (.inl x), some (.inl y), some (.inl z), none, none, none, none, none, none] (by decide) rfl (Nat.le_of_ble_eq_true rfl) ?_
  refine g_ald0 (pc' := 1) dX8_against_0 rfl ?_
  refine g_ild1 (pc' := 2) dX8_against_1 rfl ?_
  refine g_bipush (pc' := 4) (v := nI 10) dX8_against_2 rfl (by decide) ?_
  refine g_idiv (pc' := 5) dX8_against_4 rfl (by decide) ?_
  refine g_callV (pc' := 8) (c_worldOfN l xg hm h1) xg.s0 (by decide) wX8_worldOf lX8_147 rfl rfl (Nat.le_of_ble_eq_true rfl) ⟨Nat.le_of_ble_eq_true rfl, Nat.le_of_ble_eq_true rfl⟩ ⟨Nat.le_of_ble_eq_true rfl, Nat.le_of_ble_eq_true rfl⟩ dX8_against_5 rfl (kRp ?_)
  refine g_ast4 (pc' := 10) rfl (by decide) dX8_against_8 rfl ?_
  refine g_ald0 (pc' := 11) dX8_against_10 rfl ?_
  refine g_ild1 (pc' := 12) dX8_against_11 rfl ?_
  refine g_bipush (pc' := 14) (v := nI 10) dX8_against_12 rfl (by decide) ?_
  refine g_irem (pc' := 15) dX8_against_14 rfl (by decide) ?_
  refine g_topi (v := nI j2) (e2) ?_
  refine g_callV (pc' := 18) (c_worldOfS l xg hm h2 hM (hR _ h2)) xg.s0 (by decide) wX8_worldOf lX8_147 rfl rfl (Nat.le_of_ble_eq_true rfl) ⟨Nat.le_of_ble_eq_true rfl, Nat.le_of_ble_eq_true rfl⟩ ⟨Nat.le_of_ble_eq_true rfl, Nat.le_of_ble_eq_true rfl⟩ dX8_against_15 rfl (kRp ?_)
  refine g_ast5 (pc' := 20) rfl (by decide) dX8_against_18 rfl ?_
  refine g_ald4 (pc' := 22) dX8_against_20 rfl ?_
  refine g_ifnullT (tgt := 48) dX8_against_22 (by decide) ?_
  refine g_iconst (pc' := 49) (v := (-1)) dX8_against_48 rfl (by decide) ?_
  refine g_iret rfl dX8_against_49 ?_
  exact eIp rfl

theorem c_againstSN (l : Launch) {S : Shp} {I : MI} {L : ML} {R : MR} (xg : XG S R) {m : Nat} (hm : I (0, 0) 5 = nI m) (hM : m ≤ 9) (hR : ∀ k, k < m → R (10, 0) k = some (11, k)) (hW : ∀ k, k < m → WG k S R) {x : Int32} {j1 : Nat} (e1 : x / nI 10 = nI j1) (h1 : j1 < m) (h2 : inb (x - x / nI 10 * nI 10) m = false) (y z : Int32) : Ct l mX8_against 2 0 0 [.inr (.inr (some (0, 0))), .inl x, .inl y, .inl z] S I L R (PIp S I L R (-1)) := by
  refine Ct.of [some (.inr (.inr (some (0, 0)))), some (.inl x), some (.inl y), some (.inl z), none, none, none, none, none, none] (by decide) rfl (Nat.le_of_ble_eq_true rfl) ?_
  refine g_ald0 (pc' := 1) dX8_against_0 rfl ?_
  refine g_ild1 (pc' := 2) dX8_against_1 rfl ?_
  refine g_bipush (pc' := 4) (v := nI 10) dX8_against_2 rfl (by decide) ?_
  refine g_idiv (pc' := 5) dX8_against_4 rfl (by decide) ?_
  refine g_topi (v := nI j1) (e1) ?_
  refine g_callV (pc' := 8) (c_worldOfS l xg hm h1 hM (hR _ h1)) xg.s0 (by decide) wX8_worldOf lX8_147 rfl rfl (Nat.le_of_ble_eq_true rfl) ⟨Nat.le_of_ble_eq_true rfl, Nat.le_of_ble_eq_true rfl⟩ ⟨Nat.le_of_ble_eq_true rfl, Nat.le_of_ble_eq_true rfl⟩ dX8_against_5 rfl (kRp ?_)
  refine g_ast4 (pc' := 10) rfl (by decide) dX8_against_8 rfl ?_
  refine g_ald0 (pc' := 11) dX8_against_10 rfl ?_
  refine g_ild1 (pc' := 12) dX8_against_11 rfl ?_
  refine g_bipush (pc' := 14) (v := nI 10) dX8_against_12 rfl (by decide) ?_
  refine g_irem (pc' := 15) dX8_against_14 rfl (by decide) ?_
  refine g_callV (pc' := 18) (c_worldOfN l xg hm h2) xg.s0 (by decide) wX8_worldOf lX8_147 rfl rfl (Nat.le_of_ble_eq_true rfl) ⟨Nat.le_of_ble_eq_true rfl, Nat.le_of_ble_eq_true rfl⟩ ⟨Nat.le_of_ble_eq_true rfl, Nat.le_of_ble_eq_true rfl⟩ dX8_against_15 rfl (kRp ?_)
  refine g_ast5 (pc' := 20) rfl (by decide) dX8_against_18 rfl ?_
  refine g_ald4 (pc' := 22) dX8_against_20 rfl ?_
  refine g_ifnullF (pc' := 25) dX8_against_22 rfl ?_
  refine g_ald5 (pc' := 27) dX8_against_25 rfl ?_
  refine g_ifnullT (tgt := 48) dX8_against_27 (by decide) ?_
  refine g_iconst (pc' := 49) (v := (-1)) dX8_against_48 rfl (by decide) ?_
  refine g_iret rfl dX8_against_49 ?_
  exact eIp rfl

theorem c_againstE (l : Launch) {S : Shp} {I : MI} {L : ML} {R : MR} (xg : XG S R) {m : Nat} (hm : I (0, 0) 5 = nI m) (hM : m ≤ 9) (hR : ∀ k, k < m → R (10, 0) k = some (11, k)) (hW : ∀ k, k < m → WG k S R) {x : Int32} {j1 : Nat} (e1 : x / nI 10 = nI j1) (h1 : j1 < m) {j2 : Nat} (e2 : x - x / nI 10 * nI 10 = nI j2) (h2 : j2 < m) (he : j1 = j2) (y z : Int32) : Ct l mX8_against 2 0 0 [.inr (.inr (some (0, 0))), .inl x, .inl y, .inl z] S I L R (PIp S I L R (-1)) := by
  refine Ct.of [some (.inr (.inr (some (0, 0)))), some (.inl x), some (.inl y), some (.inl z), none, none, none, none, none, none] (by decide) rfl (Nat.le_of_ble_eq_true rfl) ?_
  refine g_ald0 (pc' := 1) dX8_against_0 rfl ?_
  refine g_ild1 (pc' := 2) dX8_against_1 rfl ?_
  refine g_bipush (pc' := 4) (v := nI 10) dX8_against_2 rfl (by decide) ?_
  refine g_idiv (pc' := 5) dX8_against_4 rfl (by decide) ?_
  refine g_topi (v := nI j1) (e1) ?_
  refine g_callV (pc' := 8) (c_worldOfS l xg hm h1 hM (hR _ h1)) xg.s0 (by decide) wX8_worldOf lX8_147 rfl rfl (Nat.le_of_ble_eq_true rfl) ⟨Nat.le_of_ble_eq_true rfl, Nat.le_of_ble_eq_true rfl⟩ ⟨Nat.le_of_ble_eq_true rfl, Nat.le_of_ble_eq_true rfl⟩ dX8_against_5 rfl (kRp ?_)
  refine g_ast4 (pc' := 10) rfl (by decide) dX8_against_8 rfl ?_
  refine g_ald0 (pc' := 11) dX8_against_10 rfl ?_
  refine g_ild1 (pc' := 12) dX8_against_11 rfl ?_
  refine g_bipush (pc' := 14) (v := nI 10) dX8_against_12 rfl (by decide) ?_
  refine g_irem (pc' := 15) dX8_against_14 rfl (by decide) ?_
  refine g_topi (v := nI j2) (e2) ?_
  refine g_callV (pc' := 18) (c_worldOfS l xg hm h2 hM (hR _ h2)) xg.s0 (by decide) wX8_worldOf lX8_147 rfl rfl (Nat.le_of_ble_eq_true rfl) ⟨Nat.le_of_ble_eq_true rfl, Nat.le_of_ble_eq_true rfl⟩ ⟨Nat.le_of_ble_eq_true rfl, Nat.le_of_ble_eq_true rfl⟩ dX8_against_15 rfl (kRp ?_)
  refine g_ast5 (pc' := 20) rfl (by decide) dX8_against_18 rfl ?_
  refine g_ald4 (pc' := 22) dX8_against_20 rfl ?_
  refine g_ifnullF (pc' := 25) dX8_against_22 rfl ?_
  refine g_ald5 (pc' := 27) dX8_against_25 rfl ?_
  refine g_ifnullF (pc' := 30) dX8_against_27 rfl ?_
  refine g_ald4 (pc' := 32) dX8_against_30 rfl ?_
  refine g_ald5 (pc' := 34) dX8_against_32 rfl ?_
  refine g_acmpeq (pc' := 37) (wr17 (hW _ h1).s11) (wr17 (hW _ h2).s11) (tgt := 48) dX8_against_34 (by decide) rfl (fun h34 => ?_) (fun h34 => ?_)
  · refine g_iconst (pc' := 49) (v := (-1)) dX8_against_48 rfl (by decide) ?_
    refine g_iret rfl dX8_against_49 ?_
    exact eIp rfl
  · exact absurd (by rw [he]) h34

theorem c_againstB (l : Launch) {S : Shp} {I : MI} {L : ML} {R : MR} (xg : XG S R) {m : Nat} (hm : I (0, 0) 5 = nI m) (hM : m ≤ 9) (hR : ∀ k, k < m → R (10, 0) k = some (11, k)) (hW : ∀ k, k < m → WG k S R) {x : Int32} {j1 : Nat} (e1 : x / nI 10 = nI j1) (h1 : j1 < m) {j2 : Nat} (e2 : x - x / nI 10 * nI 10 = nI j2) (h2 : j2 < m) (y : Int32) {z : Int32} (hb : z < nI 1 ∨ nI 50 < z) : Ct l mX8_against 2 0 0 [.inr (.inr (some (0, 0))), .inl x, .inl y, .inl z] S I L R (PIp S I L R (-1)) := by
  refine Ct.of [some (.inr (.inr (some (0, 0)))), some (.inl x), some (.inl y), some (.inl z), none, none, none, none, none, none] (by decide) rfl (Nat.le_of_ble_eq_true rfl) ?_
  refine g_ald0 (pc' := 1) dX8_against_0 rfl ?_
  refine g_ild1 (pc' := 2) dX8_against_1 rfl ?_
  refine g_bipush (pc' := 4) (v := nI 10) dX8_against_2 rfl (by decide) ?_
  refine g_idiv (pc' := 5) dX8_against_4 rfl (by decide) ?_
  refine g_topi (v := nI j1) (e1) ?_
  refine g_callV (pc' := 8) (c_worldOfS l xg hm h1 hM (hR _ h1)) xg.s0 (by decide) wX8_worldOf lX8_147 rfl rfl (Nat.le_of_ble_eq_true rfl) ⟨Nat.le_of_ble_eq_true rfl, Nat.le_of_ble_eq_true rfl⟩ ⟨Nat.le_of_ble_eq_true rfl, Nat.le_of_ble_eq_true rfl⟩ dX8_against_5 rfl (kRp ?_)
  refine g_ast4 (pc' := 10) rfl (by decide) dX8_against_8 rfl ?_
  refine g_ald0 (pc' := 11) dX8_against_10 rfl ?_
  refine g_ild1 (pc' := 12) dX8_against_11 rfl ?_
  refine g_bipush (pc' := 14) (v := nI 10) dX8_against_12 rfl (by decide) ?_
  refine g_irem (pc' := 15) dX8_against_14 rfl (by decide) ?_
  refine g_topi (v := nI j2) (e2) ?_
  refine g_callV (pc' := 18) (c_worldOfS l xg hm h2 hM (hR _ h2)) xg.s0 (by decide) wX8_worldOf lX8_147 rfl rfl (Nat.le_of_ble_eq_true rfl) ⟨Nat.le_of_ble_eq_true rfl, Nat.le_of_ble_eq_true rfl⟩ ⟨Nat.le_of_ble_eq_true rfl, Nat.le_of_ble_eq_true rfl⟩ dX8_against_15 rfl (kRp ?_)
  refine g_ast5 (pc' := 20) rfl (by decide) dX8_against_18 rfl ?_
  refine g_ald4 (pc' := 22) dX8_against_20 rfl ?_
  refine g_ifnullF (pc' := 25) dX8_against_22 rfl ?_
  refine g_ald5 (pc' := 27) dX8_against_25 rfl ?_
  refine g_ifnullF (pc' := 30) dX8_against_27 rfl ?_
  refine g_ald4 (pc' := 32) dX8_against_30 rfl ?_
  refine g_ald5 (pc' := 34) dX8_against_32 rfl ?_
  refine g_acmpeq (pc' := 37) (wr17 (hW _ h1).s11) (wr17 (hW _ h2).s11) (tgt := 48) dX8_against_34 (by decide) rfl (fun h34 => ?_) (fun h34 => ?_)
  · refine g_iconst (pc' := 49) (v := (-1)) dX8_against_48 rfl (by decide) ?_
    refine g_iret rfl dX8_against_49 ?_
    exact eIp rfl
  · refine g_ild3 (pc' := 38) dX8_against_37 rfl ?_
    refine g_iconst (pc' := 39) (v := nI 1) dX8_against_38 rfl (by decide) ?_
    refine g_icmplt (pc' := 42) (tgt := 48) dX8_against_39 (by decide) rfl (fun h39 => ?_) (fun h39 => ?_)
    · refine g_iconst (pc' := 49) (v := (-1)) dX8_against_48 rfl (by decide) ?_
      refine g_iret rfl dX8_against_49 ?_
      exact eIp rfl
    · refine g_ild3 (pc' := 43) dX8_against_42 rfl ?_
      refine g_bipush (pc' := 45) (v := nI 50) dX8_against_43 rfl (by decide) ?_
      refine g_icmple (pc' := 48) (tgt := 50) dX8_against_45 (by decide) rfl (fun h45 => ?_) (fun h45 => ?_)
      · exfalso
        rcases hb with h | h
        · exact h39 h
        · exact absurd h45 (Int32.not_le.mpr h)
      · refine g_iconst (pc' := 49) (v := (-1)) dX8_against_48 rfl (by decide) ?_
        refine g_iret rfl dX8_against_49 ?_
        exact eIp rfl

theorem c_againstS (l : Launch) {S : Shp} {I : MI} {L : ML} {R : MR} (xg : XG S R) (sg : SG S R) {n : Nat} (hn : I (1, 0) 1 = nI n) (hN : n ≤ 12) {m : Nat} (hm : I (0, 0) 5 = nI m) (hM : m ≤ 9) (hR : ∀ k, k < m → R (10, 0) k = some (11, k)) (hW : ∀ k, k < m → WG k S R) {x : Int32} {j1 : Nat} (e1 : x / nI 10 = nI j1) (h1 : j1 < m) {j2 : Nat} (e2 : x - x / nI 10 * nI 10 = nI j2) (h2 : j2 < m) (hne : ¬ j1 = j2) (y : Int32) {a : Nat} (ha : 1 ≤ a ∧ a ≤ 50) : Ct l mX8_against 4 0 0 [.inr (.inr (some (0, 0))), .inl x, .inl y, .inl (nI a)] S I L R (PIm S L R (fun v J => (∃ F0 : Nat → Int32, (∀ s, s < n → F0 s = nI (plc (I (12, j2)) n s)) ∧ v = nI (agC drawnI n (fun s => nI (plc (I (12, j1)) n s)) (lnI I n j1 j2) (F0, y) a)) ∧ Fr (agP j1 j2) I J)) := by
  refine Ct.of [some (.inr (.inr (some (0, 0)))), some (.inl x), some (.inl y), some (.inl (nI a)), none, none, none, none, none, none] (by decide) rfl (Nat.le_of_ble_eq_true rfl) ?_
  refine g_ald0 (pc' := 1) dX8_against_0 rfl ?_
  refine g_ild1 (pc' := 2) dX8_against_1 rfl ?_
  refine g_bipush (pc' := 4) (v := nI 10) dX8_against_2 rfl (by decide) ?_
  refine g_idiv (pc' := 5) dX8_against_4 rfl (by decide) ?_
  refine g_topi (v := nI j1) (e1) ?_
  refine g_callV (pc' := 8) (c_worldOfS l xg hm h1 hM (hR _ h1)) xg.s0 (by decide) wX8_worldOf lX8_147 rfl rfl (Nat.le_of_ble_eq_true rfl) ⟨Nat.le_of_ble_eq_true rfl, Nat.le_of_ble_eq_true rfl⟩ ⟨Nat.le_of_ble_eq_true rfl, Nat.le_of_ble_eq_true rfl⟩ dX8_against_5 rfl (kRp ?_)
  refine g_ast4 (pc' := 10) rfl (by decide) dX8_against_8 rfl ?_
  refine g_ald0 (pc' := 11) dX8_against_10 rfl ?_
  refine g_ild1 (pc' := 12) dX8_against_11 rfl ?_
  refine g_bipush (pc' := 14) (v := nI 10) dX8_against_12 rfl (by decide) ?_
  refine g_irem (pc' := 15) dX8_against_14 rfl (by decide) ?_
  refine g_topi (v := nI j2) (e2) ?_
  refine g_callV (pc' := 18) (c_worldOfS l xg hm h2 hM (hR _ h2)) xg.s0 (by decide) wX8_worldOf lX8_147 rfl rfl (Nat.le_of_ble_eq_true rfl) ⟨Nat.le_of_ble_eq_true rfl, Nat.le_of_ble_eq_true rfl⟩ ⟨Nat.le_of_ble_eq_true rfl, Nat.le_of_ble_eq_true rfl⟩ dX8_against_15 rfl (kRp ?_)
  refine g_ast5 (pc' := 20) rfl (by decide) dX8_against_18 rfl ?_
  refine g_ald4 (pc' := 22) dX8_against_20 rfl ?_
  refine g_ifnullF (pc' := 25) dX8_against_22 rfl ?_
  refine g_ald5 (pc' := 27) dX8_against_25 rfl ?_
  refine g_ifnullF (pc' := 30) dX8_against_27 rfl ?_
  refine g_ald4 (pc' := 32) dX8_against_30 rfl ?_
  refine g_ald5 (pc' := 34) dX8_against_32 rfl ?_
  refine g_acmpeq (pc' := 37) (wr17 (hW _ h1).s11) (wr17 (hW _ h2).s11) (tgt := 48) dX8_against_34 (by decide) rfl (fun h34 => ?_) (fun h34 => ?_)
  · exact absurd (by injection h34 with e; injection e) hne
  · refine g_ild3 (pc' := 38) dX8_against_37 rfl ?_
    refine g_iconst (pc' := 39) (v := nI 1) dX8_against_38 rfl (by decide) ?_
    refine g_icmpltN (pc' := 42) (by omega) (by omega) (tgt := 48) dX8_against_39 (by decide) rfl (fun h39 => ?_) (fun h39 => ?_)
    · exact absurd h39 (by omega)
    · refine g_ild3 (pc' := 43) dX8_against_42 rfl ?_
      refine g_bipush (pc' := 45) (v := nI 50) dX8_against_43 rfl (by decide) ?_
      refine g_icmpleN (pc' := 48) (by omega) (by omega) (tgt := 50) dX8_against_45 (by decide) rfl (fun h45 => ?_) (fun h45 => ?_)
      · refine g_ald4 (pc' := 52) dX8_against_50 rfl ?_
        refine g_callV (pc' := 55) (c_arrange l sg (hW _ h1) hn hN) (hW (j1) (by omega)).s11 (by decide) wX7_arrange lX8_164 rfl rfl (Nat.le_of_ble_eq_true rfl) ⟨Nat.le_of_ble_eq_true rfl, Nat.le_of_ble_eq_true rfl⟩ ⟨Nat.le_of_ble_eq_true rfl, Nat.le_of_ble_eq_true rfl⟩ dX8_against_52 rfl (kV (fun J hq => ?_))
        obtain ⟨hfr1, -, hp1⟩ := hq
        have hnJ : J (1, 0) 1 = nI n := (hfr1 _ _ (by simp)).trans hn
        refine g_ald5 (pc' := 57) dX8_against_55 rfl ?_
        refine g_callV (pc' := 60) (c_arrange l sg (hW _ h2) hnJ hN) (hW (j2) (by omega)).s11 (by decide) wX7_arrange lX8_164 rfl rfl (Nat.le_of_ble_eq_true rfl) ⟨Nat.le_of_ble_eq_true rfl, Nat.le_of_ble_eq_true rfl⟩ ⟨Nat.le_of_ble_eq_true rfl, Nat.le_of_ble_eq_true rfl⟩ dX8_against_57 rfl (kV (fun J2 hq2 => ?_))
        obtain ⟨hfr2, -, hp2⟩ := hq2
        have hnJ2 : J2 (1, 0) 1 = nI n := (hfr2 _ _ (by simp)).trans hnJ
        have q1 : ∀ s, s < n → J2 (14, j1) s = nI (plc (I (12, j1)) n s) := fun s hs => (hfr2 (14, j1) s (by simp; omega)).trans (hp1 s hs)
        have q2 : ∀ s, s < n → J2 (14, j2) s = nI (plc (I (12, j2)) n s) := fun s hs => (hp2 s hs).trans (by rw [show J (12, j2) = I (12, j2) from funext fun i => hfr1 _ _ (by simp)])
        have hfrA : Fr (agP j1 j2) I J2 := (hfr1.le (fun t i q => by rcases q with q | q <;> simp [agP, q])).tr (hfr2.le (fun t i q => by rcases q with q | q <;> simp [agP, q]))
        refine g_ald0 (pc' := 61) dX8_against_60 rfl ?_
        refine g_ald4 (pc' := 63) dX8_against_61 rfl ?_
        refine g_getR (pc' := 66) (hW (j1) (by omega)).s11 (by decide) fX8_170 (hW (j1) (by omega)).r11_12 dX8_against_63 rfl ?_
        refine g_ald5 (pc' := 68) dX8_against_66 rfl ?_
        refine g_getR (pc' := 71) (hW (j2) (by omega)).s11 (by decide) fX8_170 (hW (j2) (by omega)).r11_12 dX8_against_68 rfl ?_
        refine g_callV (pc' := 74) (c_farApart l xg sg hnJ2 hN (hW _ h1).s14 (hW _ h2).s14) xg.s0 (by decide) wX8_farApart lX8_297 rfl rfl (Nat.le_of_ble_eq_true rfl) ⟨Nat.le_of_ble_eq_true rfl, Nat.le_of_ble_eq_true rfl⟩ ⟨Nat.le_of_ble_eq_true rfl, Nat.le_of_ble_eq_true rfl⟩ dX8_against_71 rfl (kIp ?_)
        refine g_topi (v := lnI I n j1 j2) (farI_congr q1 q2) ?_
        refine g_ist6 (pc' := 76) rfl (by decide) dX8_against_74 rfl ?_
        refine g_iconst (pc' := 77) (v := nI 0) dX8_against_76 rfl (by decide) ?_
        refine g_ist7 (pc' := 79) rfl (by decide) dX8_against_77 rfl ?_
        refine g_ild2 (pc' := 80) dX8_against_79 rfl ?_
        refine g_ist8 (pc' := 82) rfl (by decide) dX8_against_80 rfl ?_
        refine g_ald5 (pc' := 84) dX8_against_82 rfl ?_
        refine g_getR (pc' := 87) (hW (j2) (by omega)).s11 (by decide) fX8_170 (hW (j2) (by omega)).r11_12 dX8_against_84 rfl ?_
        refine g_iconst (pc' := 88) (v := nI 0) dX8_against_87 rfl (by decide) ?_
        refine g_ald0 (pc' := 89) dX8_against_88 rfl ?_
        refine g_getR (pc' := 92) xg.s0 (by decide) fX8_81 xg.r0_14 dX8_against_89 rfl ?_
        refine g_iconst (pc' := 93) (v := nI 0) dX8_against_92 rfl (by decide) ?_
        refine g_ald0 (pc' := 94) dX8_against_93 rfl ?_
        refine g_getR (pc' := 97) xg.s0 (by decide) fX8_10 xg.r0_0 dX8_against_94 rfl ?_
        refine g_getI (pc' := 100) sg.s1 (by decide) fX8_88 hnJ2 dX8_against_97 rfl ?_
        refine g_copyI (pc' := 103) (t := (14, j2)) (u := (34, 0)) (l0 := 12) (l1 := 12) (a := 0) (b := 0) (d := n) (hW _ h2).s14 xg.s34 rfl rfl rfl (by omega) (by omega) (by decide) (by decide) ⟨lX8_301, nat_arraycopy, ac_stat, jwSys⟩ ⟨by decide, ?_⟩ dX8_against_100 rfl ?_
        · show _ ≤ 64 * 4 + 40; decide +kernel
        obtain ⟨F0, hF⟩ : ∃ F, F = va_cpy (J2 (14, j2)) (J2 (34, 0)) 0 0 n := ⟨_, rfl⟩
        rw [← hF]
        have hF0 : ∀ s, s < n → F0 s = nI (plc (I (12, j2)) n s) := fun s hs => by rw [hF, va_cpy0 hs]; exact q2 s hs
        refine g_iconst (pc' := 104) (v := nI 0) dX8_against_103 rfl (by decide) ?_
        refine g_ist9 (pc' := 106) rfl (by decide) dX8_against_104 rfl ?_
        refine g_loop (σ := Unit) (fun _ _ => True) (fun t s => [some (.inr (.inr (some (0, 0)))), some (.inl x), some (.inl y), some (.inl (nI a)), some (.inr (.inr (some (11, j1)))), some (.inr (.inr (some (11, j2)))), some (.inl (lnI I n j1 j2)), some (.inl (nI (agC drawnI n (fun s => nI (plc (I (12, j1)) n s)) (lnI I n j1 j2) (F0, y) t))), some (.inl ((agS drawnI n (F0, y) t).2)), some (.inl (nI t))]) (fun t s => (upT J2 (34, 0) (agS drawnI n (F0, y) t).1)) a 0 () (by omega) trivial ?_ ?_
        · intro t s hi hP ih
          have hnT : (upT J2 (34, 0) (agS drawnI n (F0, y) t).1) (1, 0) 1 = nI n := by rw [upT_n _ (by simp)]; exact hnJ2
          refine g_ild9 (pc' := 108) dX8_against_106 rfl ?_
          refine g_ild3 (pc' := 109) dX8_against_108 rfl ?_
          refine g_icmpgeN (pc' := 112) (by omega) (by omega) (tgt := 157) dX8_against_109 (by decide) rfl (fun h109 => ?_) (fun h109 => ?_)
          · exact absurd h109 (by omega)
          · refine g_ald0 (pc' := 113) dX8_against_112 rfl ?_
            refine g_getR (pc' := 116) xg.s0 (by decide) fX8_81 xg.r0_14 dX8_against_113 rfl ?_
            refine g_ald0 (pc' := 117) dX8_against_116 rfl ?_
            refine g_getR (pc' := 120) xg.s0 (by decide) fX8_10 xg.r0_0 dX8_against_117 rfl ?_
            refine g_getI (pc' := 123) sg.s1 (by decide) fX8_88 hnT dX8_against_120 rfl ?_
            refine g_ild8 (pc' := 125) dX8_against_123 rfl ?_
            refine g_callS (pc' := 128) (c_shuffleA l (n := n) hN xg.s34 (agS drawnI n (F0, y) t).2) wX8_shuffle lX8_307 rfl rfl (Nat.le_of_ble_eq_true rfl) ⟨Nat.le_of_ble_eq_true rfl, Nat.le_of_ble_eq_true rfl⟩ ⟨Nat.le_of_ble_eq_true rfl, Nat.le_of_ble_eq_true rfl⟩ dX8_against_125 rfl (kI (fun v J3 hq3 => ?_))
            obtain ⟨hv3, hJ3⟩ := hq3
            rw [upT_s, ← agS_s] at hv3
            rw [upT_s, upT_upT, ← agS_s] at hJ3
            rw [hv3, hJ3]
            refine g_ist8 (pc' := 130) rfl (by decide) dX8_against_128 rfl ?_
            refine g_ald0 (pc' := 131) dX8_against_130 rfl ?_
            refine g_ald4 (pc' := 133) dX8_against_131 rfl ?_
            refine g_getR (pc' := 136) (hW (j1) (by omega)).s11 (by decide) fX8_170 (hW (j1) (by omega)).r11_12 dX8_against_133 rfl ?_
            refine g_ald0 (pc' := 137) dX8_against_136 rfl ?_
            refine g_getR (pc' := 140) xg.s0 (by decide) fX8_81 xg.r0_14 dX8_against_137 rfl ?_
            refine g_callV (pc' := 143) (c_farApart l xg sg (by rw [upT_n _ (by simp)]; exact hnJ2) hN (hW _ h1).s14 xg.s34) xg.s0 (by decide) wX8_farApart lX8_297 rfl rfl (Nat.le_of_ble_eq_true rfl) ⟨Nat.le_of_ble_eq_true rfl, Nat.le_of_ble_eq_true rfl⟩ ⟨Nat.le_of_ble_eq_true rfl, Nat.le_of_ble_eq_true rfl⟩ dX8_against_140 rfl (kIp ?_)
            refine g_topi (v := farI (fun s => nI (plc (I (12, j1)) n s)) (agS drawnI n (F0, y) (t + 1)).1 n) (by rw [upT_s, upT_n _ (by simp)]; exact farI_congr q1 (fun _ _ => rfl)) ?_
            refine g_ild6 (pc' := 145) dX8_against_143 rfl ?_
            refine g_icmpgt (pc' := 148) (tgt := 151) dX8_against_145 (by decide) rfl (fun h145 => ?_) (fun h145 => ?_)
            · refine g_inc9 (pc' := 154) rfl (by decide) (v := nI (t + 1)) (nI_1 _) dX8_against_151 rfl ?_
              refine g_goto (tgt := 106) dX8_against_154 (by decide) ?_
              have hih := ih () trivial
              rw [agC_n (Int32.not_le.mpr h145)] at hih
              exact hih
            · refine g_inc7 (pc' := 151) rfl (by decide) (v := nI (agC drawnI n (fun s => nI (plc (I (12, j1)) n s)) (lnI I n j1 j2) (F0, y) t + 1)) (nI_1 _) dX8_against_148 rfl ?_
              refine g_inc9 (pc' := 154) rfl (by decide) (v := nI (t + 1)) (nI_1 _) dX8_against_151 rfl ?_
              refine g_goto (tgt := 106) dX8_against_154 (by decide) ?_
              have hih := ih () trivial
              rw [agC_y (Int32.not_lt.mp h145)] at hih
              exact hih
        · intro s hP
          refine g_ild9 (pc' := 108) dX8_against_106 rfl ?_
          refine g_ild3 (pc' := 109) dX8_against_108 rfl ?_
          refine g_icmpgeN (pc' := 112) (by omega) (by omega) (tgt := 157) dX8_against_109 (by decide) rfl (fun h109 => ?_) (fun h109 => ?_)
          · refine g_ild7 (pc' := 159) dX8_against_157 rfl ?_
            refine g_iret rfl dX8_against_159 ?_
            exact eI ⟨⟨F0, hF0, rfl⟩, hfrA.upT (by simp [agP])⟩
          · exact absurd h109 (by omega)
      · exact absurd h45 (by omega)
