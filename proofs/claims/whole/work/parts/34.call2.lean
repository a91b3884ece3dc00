/-! EightWorlds: small calls -/
theorem fg_o {t u : Tok} {I : MI} {i : Nat} (h : u ≠ t) : fg t I u i = I u i := by unfold fg; rw [upT_n _ h]
theorem fgI_o {u : Tok} {I : MI} {i : Nat} (h : u ≠ (18, 0) ∧ u ≠ (19, 0) ∧ u ≠ (20, 0) ∧ u ≠ (21, 0) ∧ u ≠ (22, 0)) : fgI I u i = I u i := by
  unfold fgI
  rw [upM_n _ h.1, fg_o h.2.2.2.2, fg_o h.2.2.2.1, fg_o h.2.2.1, fg_o h.2.1]
theorem putI_o {u : Tok} {I : MI} {i d : Nat} {w s a b : Int32} (h : u ≠ (18, 0) ∧ u ≠ (19, 0) ∧ u ≠ (20, 0) ∧ u ≠ (21, 0) ∧ u ≠ (22, 0)) : putI I d w s a b u i = I u i := by
  unfold putI
  rw [upM_n _ h.1, upM_n _ h.1, upM_n _ h.2.2.2.2, upM_n _ h.2.2.2.1, upM_n _ h.2.2.1, upM_n _ h.2.1]
theorem noteI_o {u : Tok} {I : MI} {i d : Nat} {w s a b : Int32} (h : u ≠ (18, 0) ∧ u ≠ (19, 0) ∧ u ≠ (20, 0) ∧ u ≠ (21, 0) ∧ u ≠ (22, 0)) : noteI I d w s a b u i = I u i := by
  unfold noteI
  split
  · rfl
  · split
    · exact putI_o h
    · rw [putI_o h, fgI_o h]
theorem note12 (I : MI) (d : Nat) (w s a b : Int32) (j i : Nat) : noteI I d w s a b (12, j) i = I (12, j) i := noteI_o (by simp)
theorem c_worthN (l : Launch) {S : Shp} {I : MI} {L : ML} {R : MR} (xg : XG S R) (sg : SG S R) {n : Nat} (hn : I (1, 0) 1 = nI n) (hN : n ≤ 12) {x v : Int32} (hbad : inb x n = false ∨ v < 0 ∨ nI 999 < v) : Ct l mX8_worth 2 0 0 [.inr (.inr (some (0, 0))), .inl x, .inl v] S I L R (PIp S I L R (-1)) := by
  refine Ct.of [some (.inr (.inr (some (0, 0)))), some (.inl x), some (.inl v), none] (by decide) rfl (Nat.le_of_ble_eq_true rfl) ?_
  refine g_ald0 (pc' := 1) dX8_worth_0 rfl ?_
  refine g_getR (pc' := 4) xg.s0 (by decide) fX8_10 xg.r0_0 dX8_worth_1 rfl ?_
  refine g_ild1 (pc' := 5) dX8_worth_4 rfl ?_
  refine g_callV (pc' := 8) (c_has l sg hn hN x) sg.s1 (by decide) wX5_has lX8_95 rfl rfl (Nat.le_of_ble_eq_true rfl) ⟨Nat.le_of_ble_eq_true rfl, Nat.le_of_ble_eq_true rfl⟩ ⟨Nat.le_of_ble_eq_true rfl, Nat.le_of_ble_eq_true rfl⟩ dX8_worth_5 rfl (kIp ?_)
  refine g_ifeqB (pc' := 11) (tgt := 22) dX8_worth_8 (by decide) rfl (fun h8 => ?_) (fun h8 => ?_)
  · refine g_iconst (pc' := 23) (v := (-1)) dX8_worth_22 rfl (by decide) ?_
    refine g_iret rfl dX8_worth_23 ?_
    exact eIp rfl
  · refine g_ild2 (pc' := 12) dX8_worth_11 rfl ?_
    refine g_iflt (pc' := 15) (tgt := 22) dX8_worth_12 (by decide) rfl (fun h12 => ?_) (fun h12 => ?_)
    · refine g_iconst (pc' := 23) (v := (-1)) dX8_worth_22 rfl (by decide) ?_
      refine g_iret rfl dX8_worth_23 ?_
      exact eIp rfl
    · refine g_ild2 (pc' := 16) dX8_worth_15 rfl ?_
      refine g_sipush (pc' := 19) (v := nI 999) dX8_worth_16 rfl (by decide) ?_
      refine g_icmple (pc' := 22) (tgt := 24) dX8_worth_19 (by decide) rfl (fun h19 => ?_) (fun h19 => ?_)
      · exfalso
        rcases hbad with h | h | h
        · rw [h] at h8; cases h8
        · exact h12 h
        · exact absurd h19 (Int32.not_le.mpr h)
      · refine g_iconst (pc' := 23) (v := (-1)) dX8_worth_22 rfl (by decide) ?_
        refine g_iret rfl dX8_worth_23 ?_
        exact eIp rfl

theorem c_worthS (l : Launch) {S : Shp} {I : MI} {L : ML} {R : MR} (xg : XG S R) (sg : SG S R) {n : Nat} (hn : I (1, 0) 1 = nI n) (hN : n ≤ 12) (hg : HG S R) {d : Nat} (hd : I (18, 0) 4 = nI d) (hd40 : d ≤ 40) {j : Nat} {v : Int32} (hj : j < n) (h0 : ¬ v < 0) (h9 : ¬ nI 999 < v) : Ct l mX8_worth 4 0 0 [.inr (.inr (some (0, 0))), .inl (nI j), .inl v] S I L R (PIm S L R (fun r J => r = I (2, 0) j ∧ J = noteI (upM I (2, 0) j v) d (-1) (nI j) (I (2, 0) j) v)) := by
  refine Ct.of [some (.inr (.inr (some (0, 0)))), some (.inl (nI j)), some (.inl v), none] (by decide) rfl (Nat.le_of_ble_eq_true rfl) ?_
  refine g_ald0 (pc' := 1) dX8_worth_0 rfl ?_
  refine g_getR (pc' := 4) xg.s0 (by decide) fX8_10 xg.r0_0 dX8_worth_1 rfl ?_
  refine g_ild1 (pc' := 5) dX8_worth_4 rfl ?_
  refine g_callV (pc' := 8) (c_has l sg hn hN (nI j)) sg.s1 (by decide) wX5_has lX8_95 rfl rfl (Nat.le_of_ble_eq_true rfl) ⟨Nat.le_of_ble_eq_true rfl, Nat.le_of_ble_eq_true rfl⟩ ⟨Nat.le_of_ble_eq_true rfl, Nat.le_of_ble_eq_true rfl⟩ dX8_worth_5 rfl (kIp ?_)
  refine g_ifeqB (pc' := 11) (tgt := 22) dX8_worth_8 (by decide) rfl (fun h8 => (by first | exact absurd h8 (by rw [inb_nI (by omega) (by omega)]; simp [hj]) | exact absurd (by rw [inb_nI (by omega) (by omega)]; simp [hj]) h8)) (fun h8 => ?_)
  refine g_ild2 (pc' := 12) dX8_worth_11 rfl ?_
  refine g_iflt (pc' := 15) (tgt := 22) dX8_worth_12 (by decide) rfl (fun h12 => (by first | exact absurd h12 h0 | exact absurd h0 h12)) (fun h12 => ?_)
  refine g_ild2 (pc' := 16) dX8_worth_15 rfl ?_
  refine g_sipush (pc' := 19) (v := nI 999) dX8_worth_16 rfl (by decide) ?_
  refine g_icmple (pc' := 22) (tgt := 24) dX8_worth_19 (by decide) rfl (fun h19 => ?_) (fun h19 => (by first | exact absurd h19 (Int32.not_lt.mp h9) | exact absurd (Int32.not_lt.mp h9) h19))
  refine g_ald0 (pc' := 25) dX8_worth_24 rfl ?_
  refine g_getR (pc' := 28) xg.s0 (by decide) fX8_10 xg.r0_0 dX8_worth_25 rfl ?_
  refine g_getR (pc' := 31) sg.s1 (by decide) fX8_92 sg.r1_0 dX8_worth_28 rfl ?_
  refine g_ild1 (pc' := 32) dX8_worth_31 rfl ?_
  refine g_iald (pc' := 33) (j := j) sg.s2 rfl (by omega) (by decide) rfl dX8_worth_32 rfl ?_
  refine g_ist3 (pc' := 34) rfl (by decide) dX8_worth_33 rfl ?_
  refine g_ald0 (pc' := 35) dX8_worth_34 rfl ?_
  refine g_getR (pc' := 38) xg.s0 (by decide) fX8_10 xg.r0_0 dX8_worth_35 rfl ?_
  refine g_getR (pc' := 41) sg.s1 (by decide) fX8_92 sg.r1_0 dX8_worth_38 rfl ?_
  refine g_ild1 (pc' := 42) dX8_worth_41 rfl ?_
  refine g_ild2 (pc' := 43) dX8_worth_42 rfl ?_
  refine g_iast (pc' := 44) (j := j) sg.s2 rfl (by omega) (by decide) dX8_worth_43 rfl ?_
  refine g_ald0 (pc' := 45) dX8_worth_44 rfl ?_
  refine g_getR (pc' := 48) xg.s0 (by decide) fX8_38 xg.r0_6 dX8_worth_45 rfl ?_
  refine g_iconst (pc' := 49) (v := (-1)) dX8_worth_48 rfl (by decide) ?_
  refine g_ild1 (pc' := 50) dX8_worth_49 rfl ?_
  refine g_ild3 (pc' := 51) dX8_worth_50 rfl ?_
  refine g_ild2 (pc' := 52) dX8_worth_51 rfl ?_
  refine g_callV (pc' := 55) (c_note l hg (by simp [upM, hd]) hd40 _ _ _ _) hg.s18 (by decide) wX1_note lX8_99 rfl rfl (Nat.le_of_ble_eq_true rfl) ⟨Nat.le_of_ble_eq_true rfl, Nat.le_of_ble_eq_true rfl⟩ ⟨Nat.le_of_ble_eq_true rfl, Nat.le_of_ble_eq_true rfl⟩ dX8_worth_52 rfl (kV (fun J hJ => ?_))
  refine g_ild3 (pc' := 56) dX8_worth_55 rfl ?_
  refine g_iret rfl dX8_worth_56 ?_
  exact eI ⟨rfl, hJ⟩

theorem c_nothingN (l : Launch) {S : Shp} {I : MI} {L : ML} {R : MR} (xg : XG S R) {m : Nat} {x : Int32} (hm : I (0, 0) 5 = nI m) (hx : inb x m = false) (y0 : Int32) : Ct l mX8_nothing 2 0 0 [.inr (.inr (some (0, 0))), .inl x, .inl y0] S I L R (PIp S I L R (-1)) := by
  refine Ct.of [some (.inr (.inr (some (0, 0)))), some (.inl x), some (.inl y0), none, none] (by decide) rfl (Nat.le_of_ble_eq_true rfl) ?_
  refine g_ald0 (pc' := 1) dX8_nothing_0 rfl ?_
  refine g_ild1 (pc' := 2) dX8_nothing_1 rfl ?_
  refine g_callV (pc' := 5) (c_worldOfN l xg hm hx) xg.s0 (by decide) wX8_worldOf lX8_147 rfl rfl (Nat.le_of_ble_eq_true rfl) ⟨Nat.le_of_ble_eq_true rfl, Nat.le_of_ble_eq_true rfl⟩ ⟨Nat.le_of_ble_eq_true rfl, Nat.le_of_ble_eq_true rfl⟩ dX8_nothing_2 rfl (kRp ?_)
  refine g_ast3 (pc' := 6) rfl (by decide) dX8_nothing_5 rfl ?_
  refine g_ald3 (pc' := 7) dX8_nothing_6 rfl ?_
  refine g_ifnullT (tgt := 21) dX8_nothing_7 (by decide) ?_
  refine g_iconst (pc' := 22) (v := (-1)) dX8_nothing_21 rfl (by decide) ?_
  refine g_iret rfl dX8_nothing_22 ?_
  exact eIp rfl

theorem c_nothingS (l : Launch) {S : Shp} {I : MI} {L : ML} {R : MR} (xg : XG S R) (sg : SG S R) {n : Nat} (hn : I (1, 0) 1 = nI n) (hN : n ≤ 12) {m j : Nat} (hm : I (0, 0) 5 = nI m) (hj : j < m) (hM : m ≤ 9) (hR : R (10, 0) j = some (11, j)) (wg : WG j S R) (hg : HG S R) {d : Nat} (hd : I (18, 0) 4 = nI d) (hd40 : d ≤ 40) (v : Int32) : Ct l mX8_nothing 4 0 0 [.inr (.inr (some (0, 0))), .inl (nI j), .inl v] S I L R (PIm S L R (fun r J => r = (if v < 0 ∨ nI 9999 < v then -1 else I (11, j) 5) ∧ J = (if v < 0 ∨ nI 9999 < v then I else noteI (upM I (11, j) 5 v) d (nI j) (-1) (I (11, j) 5) v))) := by
  refine Ct.of [some (.inr (.inr (some (0, 0)))), some (.inl (nI j)), some (.inl v), none, none] (by decide) rfl (Nat.le_of_ble_eq_true rfl) ?_
  refine g_ald0 (pc' := 1) dX8_nothing_0 rfl ?_
  refine g_ild1 (pc' := 2) dX8_nothing_1 rfl ?_
  refine g_callV (pc' := 5) (c_worldOfS l xg hm hj hM hR) xg.s0 (by decide) wX8_worldOf lX8_147 rfl rfl (Nat.le_of_ble_eq_true rfl) ⟨Nat.le_of_ble_eq_true rfl, Nat.le_of_ble_eq_true rfl⟩ ⟨Nat.le_of_ble_eq_true rfl, Nat.le_of_ble_eq_true rfl⟩ dX8_nothing_2 rfl (kRp ?_)
  refine g_ast3 (pc' := 6) rfl (by decide) dX8_nothing_5 rfl ?_
  refine g_ald3 (pc' := 7) dX8_nothing_6 rfl ?_
  refine g_ifnullF (pc' := 10) dX8_nothing_7 rfl ?_
  refine g_ild2 (pc' := 11) dX8_nothing_10 rfl ?_
  refine g_iflt (pc' := 14) (tgt := 21) dX8_nothing_11 (by decide) rfl (fun h11 => ?_) (fun h11 => ?_)
  · refine g_iconst (pc' := 22) (v := (-1)) dX8_nothing_21 rfl (by decide) ?_
    refine g_iret rfl dX8_nothing_22 ?_
    exact eI ⟨(by (repeat' split) <;> first | rfl | (exfalso; simp_all; done) | (exfalso; simp_all; omega) | (exfalso; simp_all [-Int32.not_le, ← Int32.not_le]; done) | (exfalso; simp_all [-Int32.not_le, ← Int32.not_le]; omega)), (by (repeat' split) <;> first | rfl | (exfalso; simp_all; done) | (exfalso; simp_all; omega) | (exfalso; simp_all [-Int32.not_le, ← Int32.not_le]; done) | (exfalso; simp_all [-Int32.not_le, ← Int32.not_le]; omega))⟩
  · refine g_ild2 (pc' := 15) dX8_nothing_14 rfl ?_
    refine g_sipush (pc' := 18) (v := nI 9999) dX8_nothing_15 rfl (by decide) ?_
    refine g_icmple (pc' := 21) (tgt := 23) dX8_nothing_18 (by decide) rfl (fun h18 => ?_) (fun h18 => ?_)
    · refine g_ald3 (pc' := 24) dX8_nothing_23 rfl ?_
      refine g_getI (pc' := 27) wg.s11 (by decide) fX8_144 rfl dX8_nothing_24 rfl ?_
      refine g_ist4 (pc' := 29) rfl (by decide) dX8_nothing_27 rfl ?_
      refine g_ald3 (pc' := 30) dX8_nothing_29 rfl ?_
      refine g_ild2 (pc' := 31) dX8_nothing_30 rfl ?_
      refine g_putI (pc' := 34) wg.s11 (by decide) ⟨fX8_144, rfl, pI⟩ dX8_nothing_31 rfl ?_
      refine g_ald0 (pc' := 35) dX8_nothing_34 rfl ?_
      refine g_getR (pc' := 38) xg.s0 (by decide) fX8_38 xg.r0_6 dX8_nothing_35 rfl ?_
      refine g_ild1 (pc' := 39) dX8_nothing_38 rfl ?_
      refine g_iconst (pc' := 40) (v := (-1)) dX8_nothing_39 rfl (by decide) ?_
      refine g_ild4 (pc' := 42) dX8_nothing_40 rfl ?_
      refine g_ild2 (pc' := 43) dX8_nothing_42 rfl ?_
      refine g_callV (pc' := 46) (c_note l hg (by simp [upM, hd]) hd40 _ _ _ _) hg.s18 (by decide) wX1_note lX8_99 rfl rfl (Nat.le_of_ble_eq_true rfl) ⟨Nat.le_of_ble_eq_true rfl, Nat.le_of_ble_eq_true rfl⟩ ⟨Nat.le_of_ble_eq_true rfl, Nat.le_of_ble_eq_true rfl⟩ dX8_nothing_43 rfl (kV (fun J hJ => ?_))
      refine g_ild4 (pc' := 48) dX8_nothing_46 rfl ?_
      refine g_iret rfl dX8_nothing_48 ?_
      exact eI ⟨(by (repeat' split) <;> first | rfl | (exfalso; simp_all; done) | (exfalso; simp_all; omega) | (exfalso; simp_all [-Int32.not_le, ← Int32.not_le]; done) | (exfalso; simp_all [-Int32.not_le, ← Int32.not_le]; omega)), by rw [hJ]; exact (by (repeat' split) <;> first | rfl | (exfalso; simp_all; done) | (exfalso; simp_all; omega) | (exfalso; simp_all [-Int32.not_le, ← Int32.not_le]; done) | (exfalso; simp_all [-Int32.not_le, ← Int32.not_le]; omega))⟩
    · refine g_iconst (pc' := 22) (v := (-1)) dX8_nothing_21 rfl (by decide) ?_
      refine g_iret rfl dX8_nothing_22 ?_
      exact eI ⟨(by (repeat' split) <;> first | rfl | (exfalso; simp_all; done) | (exfalso; simp_all; omega) | (exfalso; simp_all [-Int32.not_le, ← Int32.not_le]; done) | (exfalso; simp_all [-Int32.not_le, ← Int32.not_le]; omega)), (by (repeat' split) <;> first | rfl | (exfalso; simp_all; done) | (exfalso; simp_all; omega) | (exfalso; simp_all [-Int32.not_le, ← Int32.not_le]; done) | (exfalso; simp_all [-Int32.not_le, ← Int32.not_le]; omega))⟩

theorem c_shopN (l : Launch) {S : Shp} {I : MI} {L : ML} {R : MR} (xg : XG S R) {m : Nat} {x : Int32} (hm : I (0, 0) 5 = nI m) (hx : inb x m = false) (y0 : Int32) : Ct l mX8_shop 2 0 0 [.inr (.inr (some (0, 0))), .inl x, .inl y0] S I L R (PIp S I L R (-1)) := by
  refine Ct.of [some (.inr (.inr (some (0, 0)))), some (.inl x), some (.inl y0), none, none] (by decide) rfl (Nat.le_of_ble_eq_true rfl) ?_
  refine g_ald0 (pc' := 1) dX8_shop_0 rfl ?_
  refine g_ild1 (pc' := 2) dX8_shop_1 rfl ?_
  refine g_callV (pc' := 5) (c_worldOfN l xg hm hx) xg.s0 (by decide) wX8_worldOf lX8_147 rfl rfl (Nat.le_of_ble_eq_true rfl) ⟨Nat.le_of_ble_eq_true rfl, Nat.le_of_ble_eq_true rfl⟩ ⟨Nat.le_of_ble_eq_true rfl, Nat.le_of_ble_eq_true rfl⟩ dX8_shop_2 rfl (kRp ?_)
  refine g_ast3 (pc' := 6) rfl (by decide) dX8_shop_5 rfl ?_
  refine g_ald3 (pc' := 7) dX8_shop_6 rfl ?_
  refine g_ifnullT (tgt := 20) dX8_shop_7 (by decide) ?_
  refine g_iconst (pc' := 21) (v := (-1)) dX8_shop_20 rfl (by decide) ?_
  refine g_iret rfl dX8_shop_21 ?_
  exact eIp rfl

theorem c_shopS (l : Launch) {S : Shp} {I : MI} {L : ML} {R : MR} (xg : XG S R) (sg : SG S R) {n : Nat} (hn : I (1, 0) 1 = nI n) (hN : n ≤ 12) {m j : Nat} (hm : I (0, 0) 5 = nI m) (hj : j < m) (hM : m ≤ 9) (hR : R (10, 0) j = some (11, j)) (wg : WG j S R) (v : Int32) : Ct l mX8_shop 2 0 0 [.inr (.inr (some (0, 0))), .inl (nI j), .inl v] S I L R (PIm S L R (fun r J => r = (if v < 0 ∨ nI 9 < v then -1 else I (11, j) 9) ∧ J = (if v < 0 ∨ nI 9 < v then I else upM I (11, j) 9 v))) := by
  refine Ct.of [some (.inr (.inr (some (0, 0)))), some (.inl (nI j)), some (.inl v), none, none] (by decide) rfl (Nat.le_of_ble_eq_true rfl) ?_
  refine g_ald0 (pc' := 1) dX8_shop_0 rfl ?_
  refine g_ild1 (pc' := 2) dX8_shop_1 rfl ?_
  refine g_callV (pc' := 5) (c_worldOfS l xg hm hj hM hR) xg.s0 (by decide) wX8_worldOf lX8_147 rfl rfl (Nat.le_of_ble_eq_true rfl) ⟨Nat.le_of_ble_eq_true rfl, Nat.le_of_ble_eq_true rfl⟩ ⟨Nat.le_of_ble_eq_true rfl, Nat.le_of_ble_eq_true rfl⟩ dX8_shop_2 rfl (kRp ?_)
  refine g_ast3 (pc' := 6) rfl (by decide) dX8_shop_5 rfl ?_
  refine g_ald3 (pc' := 7) dX8_shop_6 rfl ?_
  refine g_ifnullF (pc' := 10) dX8_shop_7 rfl ?_
  refine g_ild2 (pc' := 11) dX8_shop_10 rfl ?_
  refine g_iflt (pc' := 14) (tgt := 20) dX8_shop_11 (by decide) rfl (fun h11 => ?_) (fun h11 => ?_)
  · refine g_iconst (pc' := 21) (v := (-1)) dX8_shop_20 rfl (by decide) ?_
    refine g_iret rfl dX8_shop_21 ?_
    exact eI ⟨(by (repeat' split) <;> first | rfl | (exfalso; simp_all; done) | (exfalso; simp_all; omega) | (exfalso; simp_all [-Int32.not_le, ← Int32.not_le]; done) | (exfalso; simp_all [-Int32.not_le, ← Int32.not_le]; omega)), (by (repeat' split) <;> first | rfl | (exfalso; simp_all; done) | (exfalso; simp_all; omega) | (exfalso; simp_all [-Int32.not_le, ← Int32.not_le]; done) | (exfalso; simp_all [-Int32.not_le, ← Int32.not_le]; omega))⟩
  · refine g_ild2 (pc' := 15) dX8_shop_14 rfl ?_
    refine g_bipush (pc' := 17) (v := nI 9) dX8_shop_15 rfl (by decide) ?_
    refine g_icmple (pc' := 20) (tgt := 22) dX8_shop_17 (by decide) rfl (fun h17 => ?_) (fun h17 => ?_)
    · refine g_ald3 (pc' := 23) dX8_shop_22 rfl ?_
      refine g_getI (pc' := 26) wg.s11 (by decide) fX8_242 rfl dX8_shop_23 rfl ?_
      refine g_ist4 (pc' := 28) rfl (by decide) dX8_shop_26 rfl ?_
      refine g_ald3 (pc' := 29) dX8_shop_28 rfl ?_
      refine g_ild2 (pc' := 30) dX8_shop_29 rfl ?_
      refine g_putI (pc' := 33) wg.s11 (by decide) ⟨fX8_242, rfl, pI⟩ dX8_shop_30 rfl ?_
      refine g_ild4 (pc' := 35) dX8_shop_33 rfl ?_
      refine g_iret rfl dX8_shop_35 ?_
      exact eI ⟨(by (repeat' split) <;> first | rfl | (exfalso; simp_all; done) | (exfalso; simp_all; omega) | (exfalso; simp_all [-Int32.not_le, ← Int32.not_le]; done) | (exfalso; simp_all [-Int32.not_le, ← Int32.not_le]; omega)), (by (repeat' split) <;> first | rfl | (exfalso; simp_all; done) | (exfalso; simp_all; omega) | (exfalso; simp_all [-Int32.not_le, ← Int32.not_le]; done) | (exfalso; simp_all [-Int32.not_le, ← Int32.not_le]; omega))⟩
    · refine g_iconst (pc' := 21) (v := (-1)) dX8_shop_20 rfl (by decide) ?_
      refine g_iret rfl dX8_shop_21 ?_
      exact eI ⟨(by (repeat' split) <;> first | rfl | (exfalso; simp_all; done) | (exfalso; simp_all; omega) | (exfalso; simp_all [-Int32.not_le, ← Int32.not_le]; done) | (exfalso; simp_all [-Int32.not_le, ← Int32.not_le]; omega)), (by (repeat' split) <;> first | rfl | (exfalso; simp_all; done) | (exfalso; simp_all; omega) | (exfalso; simp_all [-Int32.not_le, ← Int32.not_le]; done) | (exfalso; simp_all [-Int32.not_le, ← Int32.not_le]; omega))⟩

theorem c_crateN (l : Launch) {S : Shp} {I : MI} {L : ML} {R : MR} (xg : XG S R) {m : Nat} {x : Int32} (hm : I (0, 0) 5 = nI m) (hx : inb x m = false) (y0 : Int32) (y1 : Int32) : Ct l mX8_crate 2 0 0 [.inr (.inr (some (0, 0))), .inl x, .inl y0, .inl y1] S I L R (PIp S I L R (-1)) := by
  refine Ct.of [some (.inr (.inr (some (0, 0)))), some (.inl x), some (.inl y0), some (.inl y1), none, none] (by decide) rfl (Nat.le_of_ble_eq_true rfl) ?_
  refine g_ald0 (pc' := 1) dX8_crate_0 rfl ?_
  refine g_ild1 (pc' := 2) dX8_crate_1 rfl ?_
  refine g_callV (pc' := 5) (c_worldOfN l xg hm hx) xg.s0 (by decide) wX8_worldOf lX8_147 rfl rfl (Nat.le_of_ble_eq_true rfl) ⟨Nat.le_of_ble_eq_true rfl, Nat.le_of_ble_eq_true rfl⟩ ⟨Nat.le_of_ble_eq_true rfl, Nat.le_of_ble_eq_true rfl⟩ dX8_crate_2 rfl (kRp ?_)
  refine g_ast4 (pc' := 7) rfl (by decide) dX8_crate_5 rfl ?_
  refine g_ald4 (pc' := 9) dX8_crate_7 rfl ?_
  refine g_ifnullT (tgt := 35) dX8_crate_9 (by decide) ?_
  refine g_iconst (pc' := 36) (v := (-1)) dX8_crate_35 rfl (by decide) ?_
  refine g_iret rfl dX8_crate_36 ?_
  exact eIp rfl

theorem c_crateM (l : Launch) {S : Shp} {I : MI} {L : ML} {R : MR} (xg : XG S R) (sg : SG S R) {n : Nat} (hn : I (1, 0) 1 = nI n) (hN : n ≤ 12) {m j : Nat} (hm : I (0, 0) 5 = nI m) (hj : j < m) (hM : m ≤ 9) (hR : R (10, 0) j = some (11, j)) (wg : WG j S R) {x : Int32} (hx : inb x n = false) (y : Int32) : Ct l mX8_crate 2 0 0 [.inr (.inr (some (0, 0))), .inl (nI j), .inl x, .inl y] S I L R (PIp S I L R (-1)) := by
  refine Ct.of [some (.inr (.inr (some (0, 0)))), some (.inl (nI j)), some (.inl x), some (.inl y), none, none] (by decide) rfl (Nat.le_of_ble_eq_true rfl) ?_
  refine g_ald0 (pc' := 1) dX8_crate_0 rfl ?_
  refine g_ild1 (pc' := 2) dX8_crate_1 rfl ?_
  refine g_callV (pc' := 5) (c_worldOfS l xg hm hj hM hR) xg.s0 (by decide) wX8_worldOf lX8_147 rfl rfl (Nat.le_of_ble_eq_true rfl) ⟨Nat.le_of_ble_eq_true rfl, Nat.le_of_ble_eq_true rfl⟩ ⟨Nat.le_of_ble_eq_true rfl, Nat.le_of_ble_eq_true rfl⟩ dX8_crate_2 rfl (kRp ?_)
  refine g_ast4 (pc' := 7) rfl (by decide) dX8_crate_5 rfl ?_
  refine g_ald4 (pc' := 9) dX8_crate_7 rfl ?_
  refine g_ifnullF (pc' := 12) dX8_crate_9 rfl ?_
  refine g_ald0 (pc' := 13) dX8_crate_12 rfl ?_
  refine g_getR (pc' := 16) xg.s0 (by decide) fX8_10 xg.r0_0 dX8_crate_13 rfl ?_
  refine g_ild2 (pc' := 17) dX8_crate_16 rfl ?_
  refine g_callV (pc' := 20) (c_has l sg hn hN x) sg.s1 (by decide) wX5_has lX8_95 rfl rfl (Nat.le_of_ble_eq_true rfl) ⟨Nat.le_of_ble_eq_true rfl, Nat.le_of_ble_eq_true rfl⟩ ⟨Nat.le_of_ble_eq_true rfl, Nat.le_of_ble_eq_true rfl⟩ dX8_crate_17 rfl (kIp ?_)
  refine g_ifeqB (pc' := 23) (tgt := 35) dX8_crate_20 (by decide) rfl (fun h20 => ?_) (fun h20 => (by first | exact absurd h20 (Bool.eq_false_iff.mp hx) | exact absurd (Bool.eq_false_iff.mp hx) h20))
  refine g_iconst (pc' := 36) (v := (-1)) dX8_crate_35 rfl (by decide) ?_
  refine g_iret rfl dX8_crate_36 ?_
  exact eIp rfl

theorem c_crateS (l : Launch) {S : Shp} {I : MI} {L : ML} {R : MR} (xg : XG S R) (sg : SG S R) {n : Nat} (hn : I (1, 0) 1 = nI n) (hN : n ≤ 12) {m j : Nat} (hm : I (0, 0) 5 = nI m) (hj : j < m) (hM : m ≤ 9) (hR : R (10, 0) j = some (11, j)) (wg : WG j S R) (hg : HG S R) {d : Nat} (hd : I (18, 0) 4 = nI d) (hd40 : d ≤ 40) {s : Nat} (hs : s < n) (y : Int32) : Ct l mX8_crate 4 0 0 [.inr (.inr (some (0, 0))), .inl (nI j), .inl (nI s), .inl y] S I L R (PIm S L R (fun r J => r = (if y < nI 1 ∨ nI 9999 < y then -1 else (minI (I (12, j) s + y) 99999)) ∧ J = (if y < nI 1 ∨ nI 9999 < y then I else noteI (upM I (12, j) s (minI (I (12, j) s + y) 99999)) d (nI j) (nI s) (I (12, j) s) (minI (I (12, j) s + y) 99999)))) := by
  refine Ct.of [some (.inr (.inr (some (0, 0)))), some (.inl (nI j)), some (.inl (nI s)), some (.inl y), none, none] (by decide) rfl (Nat.le_of_ble_eq_true rfl) ?_
  refine g_ald0 (pc' := 1) dX8_crate_0 rfl ?_
  refine g_ild1 (pc' := 2) dX8_crate_1 rfl ?_
  refine g_callV (pc' := 5) (c_worldOfS l xg hm hj hM hR) xg.s0 (by decide) wX8_worldOf lX8_147 rfl rfl (Nat.le_of_ble_eq_true rfl) ⟨Nat.le_of_ble_eq_true rfl, Nat.le_of_ble_eq_true rfl⟩ ⟨Nat.le_of_ble_eq_true rfl, Nat.le_of_ble_eq_true rfl⟩ dX8_crate_2 rfl (kRp ?_)
  refine g_ast4 (pc' := 7) rfl (by decide) dX8_crate_5 rfl ?_
  refine g_ald4 (pc' := 9) dX8_crate_7 rfl ?_
  refine g_ifnullF (pc' := 12) dX8_crate_9 rfl ?_
  refine g_ald0 (pc' := 13) dX8_crate_12 rfl ?_
  refine g_getR (pc' := 16) xg.s0 (by decide) fX8_10 xg.r0_0 dX8_crate_13 rfl ?_
  refine g_ild2 (pc' := 17) dX8_crate_16 rfl ?_
  refine g_callV (pc' := 20) (c_has l sg hn hN (nI s)) sg.s1 (by decide) wX5_has lX8_95 rfl rfl (Nat.le_of_ble_eq_true rfl) ⟨Nat.le_of_ble_eq_true rfl, Nat.le_of_ble_eq_true rfl⟩ ⟨Nat.le_of_ble_eq_true rfl, Nat.le_of_ble_eq_true rfl⟩ dX8_crate_17 rfl (kIp ?_)
  refine g_ifeqB (pc' := 23) (tgt := 35) dX8_crate_20 (by decide) rfl (fun h20 => (by first | exact absurd h20 (by rw [inb_nI (by omega) (by omega)]; simp [hs]) | exact absurd (by rw [inb_nI (by omega) (by omega)]; simp [hs]) h20)) (fun h20 => ?_)
  refine g_ild3 (pc' := 24) dX8_crate_23 rfl ?_
  refine g_iconst (pc' := 25) (v := nI 1) dX8_crate_24 rfl (by decide) ?_
  refine g_icmplt (pc' := 28) (tgt := 35) dX8_crate_25 (by decide) rfl (fun h25 => ?_) (fun h25 => ?_)
  · refine g_iconst (pc' := 36) (v := (-1)) dX8_crate_35 rfl (by decide) ?_
    refine g_iret rfl dX8_crate_36 ?_
    exact eI ⟨(by (repeat' split) <;> first | rfl | (exfalso; simp_all; done) | (exfalso; simp_all; omega) | (exfalso; simp_all [-Int32.not_le, ← Int32.not_le]; done) | (exfalso; simp_all [-Int32.not_le, ← Int32.not_le]; omega)), (by (repeat' split) <;> first | rfl | (exfalso; simp_all; done) | (exfalso; simp_all; omega) | (exfalso; simp_all [-Int32.not_le, ← Int32.not_le]; done) | (exfalso; simp_all [-Int32.not_le, ← Int32.not_le]; omega))⟩
  · refine g_ild3 (pc' := 29) dX8_crate_28 rfl ?_
    refine g_sipush (pc' := 32) (v := nI 9999) dX8_crate_29 rfl (by decide) ?_
    refine g_icmple (pc' := 35) (tgt := 37) dX8_crate_32 (by decide) rfl (fun h32 => ?_) (fun h32 => ?_)
    · refine g_ald4 (pc' := 39) dX8_crate_37 rfl ?_
      refine g_getR (pc' := 42) wg.s11 (by decide) fX8_167 wg.r11_10 dX8_crate_39 rfl ?_
      refine g_ild2 (pc' := 43) dX8_crate_42 rfl ?_
      refine g_iald (pc' := 44) (j := s) wg.s12 rfl (by omega) (by decide) rfl dX8_crate_43 rfl ?_
      refine g_ist5 (pc' := 46) rfl (by decide) dX8_crate_44 rfl ?_
      refine g_ald4 (pc' := 48) dX8_crate_46 rfl ?_
      refine g_getR (pc' := 51) wg.s11 (by decide) fX8_167 wg.r11_10 dX8_crate_48 rfl ?_
      refine g_ild2 (pc' := 52) dX8_crate_51 rfl ?_
      refine g_ild5 (pc' := 54) dX8_crate_52 rfl ?_
      refine g_ild3 (pc' := 55) dX8_crate_54 rfl ?_
      refine g_iadd (pc' := 56) dX8_crate_55 rfl ?_
      refine g_ldc (pc' := 58) dX8_crate_56 rfl kX8_252 ?_
      refine g_callS (pc' := 61) (c_J9_min l S _ L R _ _) wJ9_min_7cf53 lX8_253 rfl rfl (Nat.le_of_ble_eq_true rfl) ⟨Nat.le_of_ble_eq_true rfl, Nat.le_of_ble_eq_true rfl⟩ ⟨Nat.le_of_ble_eq_true rfl, Nat.le_of_ble_eq_true rfl⟩ dX8_crate_58 rfl (kIp ?_)
      refine g_iast (pc' := 62) (j := s) wg.s12 rfl (by omega) (by decide) dX8_crate_61 rfl ?_
      refine g_ald0 (pc' := 63) dX8_crate_62 rfl ?_
      refine g_getR (pc' := 66) xg.s0 (by decide) fX8_38 xg.r0_6 dX8_crate_63 rfl ?_
      refine g_ild1 (pc' := 67) dX8_crate_66 rfl ?_
      refine g_ild2 (pc' := 68) dX8_crate_67 rfl ?_
      refine g_ild5 (pc' := 70) dX8_crate_68 rfl ?_
      refine g_ald4 (pc' := 72) dX8_crate_70 rfl ?_
      refine g_getR (pc' := 75) wg.s11 (by decide) fX8_167 wg.r11_10 dX8_crate_72 rfl ?_
      refine g_ild2 (pc' := 76) dX8_crate_75 rfl ?_
      refine g_iald (pc' := 77) (j := s) wg.s12 rfl (by omega) (by decide) (v := minI (I (12, j) s + y) 99999) (by simp [upM]) dX8_crate_76 rfl ?_
      refine g_callV (pc' := 80) (c_note l hg (by simp [upM, hd]) hd40 _ _ _ _) hg.s18 (by decide) wX1_note lX8_99 rfl rfl (Nat.le_of_ble_eq_true rfl) ⟨Nat.le_of_ble_eq_true rfl, Nat.le_of_ble_eq_true rfl⟩ ⟨Nat.le_of_ble_eq_true rfl, Nat.le_of_ble_eq_true rfl⟩ dX8_crate_77 rfl (kV (fun J hJ => ?_))
      have hJs : J (12, j) s = (minI (I (12, j) s + y) 99999) := by
        rw [hJ]
        exact note12 _ _ _ _ _ _ _ _ |>.trans (upM_s _ _ _ _)
      refine g_ald4 (pc' := 82) dX8_crate_80 rfl ?_
      refine g_getR (pc' := 85) wg.s11 (by decide) fX8_167 wg.r11_10 dX8_crate_82 rfl ?_
      refine g_ild2 (pc' := 86) dX8_crate_85 rfl ?_
      refine g_iald (pc' := 87) (j := s) wg.s12 rfl (by omega) (by decide) hJs dX8_crate_86 rfl ?_
      refine g_iret rfl dX8_crate_87 ?_
      exact eI ⟨(by (repeat' split) <;> first | rfl | (exfalso; simp_all; done) | (exfalso; simp_all; omega) | (exfalso; simp_all [-Int32.not_le, ← Int32.not_le]; done) | (exfalso; simp_all [-Int32.not_le, ← Int32.not_le]; omega)), by rw [hJ]; exact (by (repeat' split) <;> first | rfl | (exfalso; simp_all; done) | (exfalso; simp_all; omega) | (exfalso; simp_all [-Int32.not_le, ← Int32.not_le]; done) | (exfalso; simp_all [-Int32.not_le, ← Int32.not_le]; omega))⟩
    · refine g_iconst (pc' := 36) (v := (-1)) dX8_crate_35 rfl (by decide) ?_
      refine g_iret rfl dX8_crate_36 ?_
      exact eI ⟨(by (repeat' split) <;> first | rfl | (exfalso; simp_all; done) | (exfalso; simp_all; omega) | (exfalso; simp_all [-Int32.not_le, ← Int32.not_le]; done) | (exfalso; simp_all [-Int32.not_le, ← Int32.not_le]; omega)), (by (repeat' split) <;> first | rfl | (exfalso; simp_all; done) | (exfalso; simp_all; omega) | (exfalso; simp_all [-Int32.not_le, ← Int32.not_le]; done) | (exfalso; simp_all [-Int32.not_le, ← Int32.not_le]; omega))⟩

theorem c_comeN (l : Launch) {S : Shp} {I : MI} {L : ML} {R : MR} (xg : XG S R) {m : Nat} {x : Int32} (hm : I (0, 0) 5 = nI m) (hx : inb x m = false) (y0 : Int32) : Ct l mX8_come 2 0 0 [.inr (.inr (some (0, 0))), .inl x, .inl y0] S I L R (PIp S I L R (-1)) := by
  refine Ct.of [some (.inr (.inr (some (0, 0)))), some (.inl x), some (.inl y0), none] (by decide) rfl (Nat.le_of_ble_eq_true rfl) ?_
  refine g_ald0 (pc' := 1) dX8_come_0 rfl ?_
  refine g_ild1 (pc' := 2) dX8_come_1 rfl ?_
  refine g_callV (pc' := 5) (c_worldOfN l xg hm hx) xg.s0 (by decide) wX8_worldOf lX8_147 rfl rfl (Nat.le_of_ble_eq_true rfl) ⟨Nat.le_of_ble_eq_true rfl, Nat.le_of_ble_eq_true rfl⟩ ⟨Nat.le_of_ble_eq_true rfl, Nat.le_of_ble_eq_true rfl⟩ dX8_come_2 rfl (kRp ?_)
  refine g_ast3 (pc' := 6) rfl (by decide) dX8_come_5 rfl ?_
  refine g_ald3 (pc' := 7) dX8_come_6 rfl ?_
  refine g_ifnullT (tgt := 22) dX8_come_7 (by decide) ?_
  refine g_iconst (pc' := 23) (v := (-1)) dX8_come_22 rfl (by decide) ?_
  refine g_iret rfl dX8_come_23 ?_
  exact eIp rfl

theorem c_comeB (l : Launch) {S : Shp} {I : MI} {L : ML} {R : MR} (xg : XG S R) (sg : SG S R) {n : Nat} (hn : I (1, 0) 1 = nI n) (hN : n ≤ 12) {m j : Nat} (hm : I (0, 0) 5 = nI m) (hj : j < m) (hM : m ≤ 9) (hR : R (10, 0) j = some (11, j)) (wg : WG j S R) {v : Int32} (hb : v < nI 1 ∨ nI 200 < v) : Ct l mX8_come 2 0 0 [.inr (.inr (some (0, 0))), .inl (nI j), .inl v] S I L R (PIp S I L R (-1)) := by
  refine Ct.of [some (.inr (.inr (some (0, 0)))), some (.inl (nI j)), some (.inl v), none] (by decide) rfl (Nat.le_of_ble_eq_true rfl) ?_
  refine g_ald0 (pc' := 1) dX8_come_0 rfl ?_
  refine g_ild1 (pc' := 2) dX8_come_1 rfl ?_
  refine g_callV (pc' := 5) (c_worldOfS l xg hm hj hM hR) xg.s0 (by decide) wX8_worldOf lX8_147 rfl rfl (Nat.le_of_ble_eq_true rfl) ⟨Nat.le_of_ble_eq_true rfl, Nat.le_of_ble_eq_true rfl⟩ ⟨Nat.le_of_ble_eq_true rfl, Nat.le_of_ble_eq_true rfl⟩ dX8_come_2 rfl (kRp ?_)
  refine g_ast3 (pc' := 6) rfl (by decide) dX8_come_5 rfl ?_
  refine g_ald3 (pc' := 7) dX8_come_6 rfl ?_
  refine g_ifnullF (pc' := 10) dX8_come_7 rfl ?_
  refine g_ild2 (pc' := 11) dX8_come_10 rfl ?_
  refine g_iconst (pc' := 12) (v := nI 1) dX8_come_11 rfl (by decide) ?_
  refine g_icmplt (pc' := 15) (tgt := 22) dX8_come_12 (by decide) rfl (fun h12 => ?_) (fun h12 => ?_)
  · refine g_iconst (pc' := 23) (v := (-1)) dX8_come_22 rfl (by decide) ?_
    refine g_iret rfl dX8_come_23 ?_
    exact eIp rfl
  · refine g_ild2 (pc' := 16) dX8_come_15 rfl ?_
    refine g_sipush (pc' := 19) (v := nI 200) dX8_come_16 rfl (by decide) ?_
    refine g_icmple (pc' := 22) (tgt := 24) dX8_come_19 (by decide) rfl (fun h19 => ?_) (fun h19 => ?_)
    · exfalso
      rcases hb with h | h
      · exact h12 h
      · exact absurd h19 (Int32.not_le.mpr h)
    · refine g_iconst (pc' := 23) (v := (-1)) dX8_come_22 rfl (by decide) ?_
      refine g_iret rfl dX8_come_23 ?_
      exact eIp rfl

theorem c_comeS (l : Launch) {S : Shp} {I : MI} {L : ML} {R : MR} (xg : XG S R) (sg : SG S R) {n : Nat} (hn : I (1, 0) 1 = nI n) (hN : n ≤ 12) {m j : Nat} (hm : I (0, 0) 5 = nI m) (hj : j < m) (hM : m ≤ 9) (hR : R (10, 0) j = some (11, j)) (wg : WG j S R) {lj len : Nat} {cd : Nat → Nat × Nat} (lg : LG lj len S R) (hL : R (11, j) 1 = some (7, lj)) (hv : LV I lj len cd) {ke a : Nat} (ha : 1 ≤ a ∧ a ≤ 200) (hke : I (11, j) 8 = nI ke) (hk : ke + a < 2 ^ 30) : Ct l mX8_come 7 0 0 [.inr (.inr (some (0, 0))), .inl (nI j), .inl (nI a)] S I L R (PIm S L R (fun v J => v = nI ((manyI cd len j n a I ke).2 - ke) ∧ Fr (scW j lj) (manyI cd len j n a I ke).1 J)) := by
  refine Ct.of [some (.inr (.inr (some (0, 0)))), some (.inl (nI j)), some (.inl (nI a)), none] (by decide) rfl (Nat.le_of_ble_eq_true rfl) ?_
  refine g_ald0 (pc' := 1) dX8_come_0 rfl ?_
  refine g_ild1 (pc' := 2) dX8_come_1 rfl ?_
  refine g_callV (pc' := 5) (c_worldOfS l xg hm hj hM hR) xg.s0 (by decide) wX8_worldOf lX8_147 rfl rfl (Nat.le_of_ble_eq_true rfl) ⟨Nat.le_of_ble_eq_true rfl, Nat.le_of_ble_eq_true rfl⟩ ⟨Nat.le_of_ble_eq_true rfl, Nat.le_of_ble_eq_true rfl⟩ dX8_come_2 rfl (kRp ?_)
  refine g_ast3 (pc' := 6) rfl (by decide) dX8_come_5 rfl ?_
  refine g_ald3 (pc' := 7) dX8_come_6 rfl ?_
  refine g_ifnullF (pc' := 10) dX8_come_7 rfl ?_
  refine g_ild2 (pc' := 11) dX8_come_10 rfl ?_
  refine g_iconst (pc' := 12) (v := nI 1) dX8_come_11 rfl (by decide) ?_
  refine g_icmpltN (pc' := 15) (by omega) (by omega) (tgt := 22) dX8_come_12 (by decide) rfl (fun h12 => ?_) (fun h12 => ?_)
  · exact absurd h12 (by omega)
  · refine g_ild2 (pc' := 16) dX8_come_15 rfl ?_
    refine g_sipush (pc' := 19) (v := nI 200) dX8_come_16 rfl (by decide) ?_
    refine g_icmpleN (pc' := 22) (by omega) (by omega) (tgt := 24) dX8_come_19 (by decide) rfl (fun h19 => ?_) (fun h19 => ?_)
    · refine g_ald3 (pc' := 25) dX8_come_24 rfl ?_
      refine g_ild2 (pc' := 26) dX8_come_25 rfl ?_
      refine g_callV (pc' := 29) (c_manyCome l sg wg hn hN lg hL hv hke hk) wg.s11 (by decide) wX7_manyCome lX8_183 rfl rfl (Nat.le_of_ble_eq_true rfl) ⟨Nat.le_of_ble_eq_true rfl, Nat.le_of_ble_eq_true rfl⟩ ⟨Nat.le_of_ble_eq_true rfl, Nat.le_of_ble_eq_true rfl⟩ dX8_come_26 rfl (kI (fun v J hq => ?_))
      refine g_iret rfl dX8_come_29 ?_
      exact eI hq
    · exact absurd h19 (by omega)

theorem c_weightN (l : Launch) {S : Shp} {I : MI} {L : ML} {R : MR} (xg : XG S R) {m : Nat} {x : Int32} (hm : I (0, 0) 5 = nI m) (hx : inb x m = false) (y0 : Int32) : Ct l mX8_weight 2 0 0 [.inr (.inr (some (0, 0))), .inl x, .inl y0] S I L R (PIp S I L R (-1)) := by
  refine Ct.of [some (.inr (.inr (some (0, 0)))), some (.inl x), some (.inl y0), none] (by decide) rfl (Nat.le_of_ble_eq_true rfl) ?_
  refine g_ald0 (pc' := 1) dX8_weight_0 rfl ?_
  refine g_ild1 (pc' := 2) dX8_weight_1 rfl ?_
  refine g_callV (pc' := 5) (c_worldOfN l xg hm hx) xg.s0 (by decide) wX8_worldOf lX8_147 rfl rfl (Nat.le_of_ble_eq_true rfl) ⟨Nat.le_of_ble_eq_true rfl, Nat.le_of_ble_eq_true rfl⟩ ⟨Nat.le_of_ble_eq_true rfl, Nat.le_of_ble_eq_true rfl⟩ dX8_weight_2 rfl (kRp ?_)
  refine g_ast3 (pc' := 6) rfl (by decide) dX8_weight_5 rfl ?_
  refine g_ald3 (pc' := 7) dX8_weight_6 rfl ?_
  refine g_ifnullT (tgt := 21) dX8_weight_7 (by decide) ?_
  refine g_iconst (pc' := 22) (v := (-1)) dX8_weight_21 rfl (by decide) ?_
  refine g_iret rfl dX8_weight_22 ?_
  exact eIp rfl

theorem c_weightM (l : Launch) {S : Shp} {I : MI} {L : ML} {R : MR} (xg : XG S R) (sg : SG S R) {n : Nat} (hn : I (1, 0) 1 = nI n) (hN : n ≤ 12) {m j : Nat} (hm : I (0, 0) 5 = nI m) (hj : j < m) (hM : m ≤ 9) (hR : R (10, 0) j = some (11, j)) (wg : WG j S R) {x : Int32} (hx : inb x n = false) : Ct l mX8_weight 2 0 0 [.inr (.inr (some (0, 0))), .inl (nI j), .inl x] S I L R (PIp S I L R (-1)) := by
  refine Ct.of [some (.inr (.inr (some (0, 0)))), some (.inl (nI j)), some (.inl x), none] (by decide) rfl (Nat.le_of_ble_eq_true rfl) ?_
  refine g_ald0 (pc' := 1) dX8_weight_0 rfl ?_
  refine g_ild1 (pc' := 2) dX8_weight_1 rfl ?_
  refine g_callV (pc' := 5) (c_worldOfS l xg hm hj hM hR) xg.s0 (by decide) wX8_worldOf lX8_147 rfl rfl (Nat.le_of_ble_eq_true rfl) ⟨Nat.le_of_ble_eq_true rfl, Nat.le_of_ble_eq_true rfl⟩ ⟨Nat.le_of_ble_eq_true rfl, Nat.le_of_ble_eq_true rfl⟩ dX8_weight_2 rfl (kRp ?_)
  refine g_ast3 (pc' := 6) rfl (by decide) dX8_weight_5 rfl ?_
  refine g_ald3 (pc' := 7) dX8_weight_6 rfl ?_
  refine g_ifnullF (pc' := 10) dX8_weight_7 rfl ?_
  refine g_ald0 (pc' := 11) dX8_weight_10 rfl ?_
  refine g_getR (pc' := 14) xg.s0 (by decide) fX8_10 xg.r0_0 dX8_weight_11 rfl ?_
  refine g_ild2 (pc' := 15) dX8_weight_14 rfl ?_
  refine g_callV (pc' := 18) (c_has l sg hn hN x) sg.s1 (by decide) wX5_has lX8_95 rfl rfl (Nat.le_of_ble_eq_true rfl) ⟨Nat.le_of_ble_eq_true rfl, Nat.le_of_ble_eq_true rfl⟩ ⟨Nat.le_of_ble_eq_true rfl, Nat.le_of_ble_eq_true rfl⟩ dX8_weight_15 rfl (kIp ?_)
  refine g_ifneB (pc' := 21) (tgt := 23) dX8_weight_18 (by decide) rfl (fun h18 => (by first | exact absurd h18 (Bool.eq_false_iff.mp hx) | exact absurd (Bool.eq_false_iff.mp hx) h18)) (fun h18 => ?_)
  refine g_iconst (pc' := 22) (v := (-1)) dX8_weight_21 rfl (by decide) ?_
  refine g_iret rfl dX8_weight_22 ?_
  exact eIp rfl

theorem c_weightS (l : Launch) {S : Shp} {I : MI} {L : ML} {R : MR} (xg : XG S R) (sg : SG S R) {n : Nat} (hn : I (1, 0) 1 = nI n) (hN : n ≤ 12) {m j : Nat} (hm : I (0, 0) 5 = nI m) (hj : j < m) (hM : m ≤ 9) (hR : R (10, 0) j = some (11, j)) (wg : WG j S R) {lj len : Nat} {cd : Nat → Nat × Nat} (lg : LG lj len S R) (hL : R (11, j) 1 = some (7, lj)) (hv : LV I lj len cd) {s : Nat} (hs : s < n) : Ct l mX8_weight 4 0 0 [.inr (.inr (some (0, 0))), .inl (nI j), .inl (nI s)] S I L R (PIm S L R (fun v J => v = wtI cd len I j n s ∧ Fr (scW j lj) I J)) := by
  refine Ct.of [some (.inr (.inr (some (0, 0)))), some (.inl (nI j)), some (.inl (nI s)), none] (by decide) rfl (Nat.le_of_ble_eq_true rfl) ?_
  refine g_ald0 (pc' := 1) dX8_weight_0 rfl ?_
  refine g_ild1 (pc' := 2) dX8_weight_1 rfl ?_
  refine g_callV (pc' := 5) (c_worldOfS l xg hm hj hM hR) xg.s0 (by decide) wX8_worldOf lX8_147 rfl rfl (Nat.le_of_ble_eq_true rfl) ⟨Nat.le_of_ble_eq_true rfl, Nat.le_of_ble_eq_true rfl⟩ ⟨Nat.le_of_ble_eq_true rfl, Nat.le_of_ble_eq_true rfl⟩ dX8_weight_2 rfl (kRp ?_)
  refine g_ast3 (pc' := 6) rfl (by decide) dX8_weight_5 rfl ?_
  refine g_ald3 (pc' := 7) dX8_weight_6 rfl ?_
  refine g_ifnullF (pc' := 10) dX8_weight_7 rfl ?_
  refine g_ald0 (pc' := 11) dX8_weight_10 rfl ?_
  refine g_getR (pc' := 14) xg.s0 (by decide) fX8_10 xg.r0_0 dX8_weight_11 rfl ?_
  refine g_ild2 (pc' := 15) dX8_weight_14 rfl ?_
  refine g_callV (pc' := 18) (c_has l sg hn hN (nI s)) sg.s1 (by decide) wX5_has lX8_95 rfl rfl (Nat.le_of_ble_eq_true rfl) ⟨Nat.le_of_ble_eq_true rfl, Nat.le_of_ble_eq_true rfl⟩ ⟨Nat.le_of_ble_eq_true rfl, Nat.le_of_ble_eq_true rfl⟩ dX8_weight_15 rfl (kIp ?_)
  refine g_ifneB (pc' := 21) (tgt := 23) dX8_weight_18 (by decide) rfl (fun h18 => ?_) (fun h18 => (by first | exact absurd h18 (by rw [inb_nI (by omega) (by omega)]; simp [hs]) | exact absurd (by rw [inb_nI (by omega) (by omega)]; simp [hs]) h18))
  refine g_ald3 (pc' := 24) dX8_weight_23 rfl ?_
  refine g_callV (pc' := 27) (c_arrange l sg wg hn hN) wg.s11 (by decide) wX7_arrange lX8_164 rfl rfl (Nat.le_of_ble_eq_true rfl) ⟨Nat.le_of_ble_eq_true rfl, Nat.le_of_ble_eq_true rfl⟩ ⟨Nat.le_of_ble_eq_true rfl, Nat.le_of_ble_eq_true rfl⟩ dX8_weight_24 rfl (kV (fun J hq => ?_))
  obtain ⟨hfr, -, hpl⟩ := hq
  have hfr2 : Fr (scW j lj) I J := hfr.le (fun t i q => q.elim Or.inl (fun q => Or.inr (Or.inl q)))
  refine g_ald3 (pc' := 28) dX8_weight_27 rfl ?_
  refine g_ild2 (pc' := 29) dX8_weight_28 rfl ?_
  refine g_callV (pc' := 32) (c_worldWeigh l sg wg ((hfr2 _ _ (by simp [scW])).trans hn) hN lg hL (hv.to (fun i => hfr2 _ _ (by simp [scW]))) hs) wg.s11 (by decide) wX7_weigh lX8_180 rfl rfl (Nat.le_of_ble_eq_true rfl) ⟨Nat.le_of_ble_eq_true rfl, Nat.le_of_ble_eq_true rfl⟩ ⟨Nat.le_of_ble_eq_true rfl, Nat.le_of_ble_eq_true rfl⟩ dX8_weight_29 rfl (kI (fun v J2 hq2 => ?_))
  refine g_iret rfl dX8_weight_32 ?_
  exact eI ⟨by rw [hq2.1, hpl s hs]; exact weightI_fr hfr2, hfr2.tr (hq2.2.le (fun t i q => by rcases q with q | q <;> simp [scW, q]))⟩

theorem c_ledN (l : Launch) {S : Shp} {I : MI} {L : ML} {R : MR} (xg : XG S R) {m : Nat} {x : Int32} (hm : I (0, 0) 5 = nI m) (hx : inb x m = false) (y0 : Int32) : Ct l mX8_led 2 0 0 [.inr (.inr (some (0, 0))), .inl x, .inl y0] S I L R (PIp S I L R (-1)) := by
  refine Ct.of [some (.inr (.inr (some (0, 0)))), some (.inl x), some (.inl y0), none] (by decide) rfl (Nat.le_of_ble_eq_true rfl) ?_
  refine g_ald0 (pc' := 1) dX8_led_0 rfl ?_
  refine g_ild1 (pc' := 2) dX8_led_1 rfl ?_
  refine g_callV (pc' := 5) (c_worldOfN l xg hm hx) xg.s0 (by decide) wX8_worldOf lX8_147 rfl rfl (Nat.le_of_ble_eq_true rfl) ⟨Nat.le_of_ble_eq_true rfl, Nat.le_of_ble_eq_true rfl⟩ ⟨Nat.le_of_ble_eq_true rfl, Nat.le_of_ble_eq_true rfl⟩ dX8_led_2 rfl (kRp ?_)
  refine g_ast3 (pc' := 6) rfl (by decide) dX8_led_5 rfl ?_
  refine g_ald3 (pc' := 7) dX8_led_6 rfl ?_
  refine g_ifnullT (tgt := 22) dX8_led_7 (by decide) ?_
  refine g_iconst (pc' := 23) (v := (-1)) dX8_led_22 rfl (by decide) ?_
  refine g_iret rfl dX8_led_23 ?_
  exact eIp rfl

theorem c_ledM (l : Launch) {S : Shp} {I : MI} {L : ML} {R : MR} (xg : XG S R) (sg : SG S R) {n : Nat} (hn : I (1, 0) 1 = nI n) (hN : n ≤ 12) {m j : Nat} (hm : I (0, 0) 5 = nI m) (hj : j < m) (hM : m ≤ 9) (hR : R (10, 0) j = some (11, j)) (wg : WG j S R) {ke : Nat} (hke : I (11, j) 8 = nI ke) (hk : ke < 2 ^ 30) {x : Int32} (hx : inb x (min ke 200) = false) : Ct l mX8_led 3 0 0 [.inr (.inr (some (0, 0))), .inl (nI j), .inl x] S I L R (PIp S I L R (-1)) := by
  refine Ct.of [some (.inr (.inr (some (0, 0)))), some (.inl (nI j)), some (.inl x), none] (by decide) rfl (Nat.le_of_ble_eq_true rfl) ?_
  refine g_ald0 (pc' := 1) dX8_led_0 rfl ?_
  refine g_ild1 (pc' := 2) dX8_led_1 rfl ?_
  refine g_callV (pc' := 5) (c_worldOfS l xg hm hj hM hR) xg.s0 (by decide) wX8_worldOf lX8_147 rfl rfl (Nat.le_of_ble_eq_true rfl) ⟨Nat.le_of_ble_eq_true rfl, Nat.le_of_ble_eq_true rfl⟩ ⟨Nat.le_of_ble_eq_true rfl, Nat.le_of_ble_eq_true rfl⟩ dX8_led_2 rfl (kRp ?_)
  refine g_ast3 (pc' := 6) rfl (by decide) dX8_led_5 rfl ?_
  refine g_ald3 (pc' := 7) dX8_led_6 rfl ?_
  refine g_ifnullF (pc' := 10) dX8_led_7 rfl ?_
  refine g_ild2 (pc' := 11) dX8_led_10 rfl ?_
  refine g_iflt (pc' := 14) (tgt := 22) dX8_led_11 (by decide) rfl (fun h11 => ?_) (fun h11 => ?_)
  · refine g_iconst (pc' := 23) (v := (-1)) dX8_led_22 rfl (by decide) ?_
    refine g_iret rfl dX8_led_23 ?_
    exact eIp rfl
  · refine g_ild2 (pc' := 15) dX8_led_14 rfl ?_
    refine g_ald3 (pc' := 16) dX8_led_15 rfl ?_
    refine g_callV (pc' := 19) (c_logged l wg hke hk) wg.s11 (by decide) wX7_logged lX8_204 rfl rfl (Nat.le_of_ble_eq_true rfl) ⟨Nat.le_of_ble_eq_true rfl, Nat.le_of_ble_eq_true rfl⟩ ⟨Nat.le_of_ble_eq_true rfl, Nat.le_of_ble_eq_true rfl⟩ dX8_led_16 rfl (kIp ?_)
    refine g_icmplt (pc' := 22) (tgt := 24) dX8_led_19 (by decide) rfl (fun h19 => ?_) (fun h19 => ?_)
    · exact (inb_F hx h11 (Int32.not_le.mpr h19)).elim
    · refine g_iconst (pc' := 23) (v := (-1)) dX8_led_22 rfl (by decide) ?_
      refine g_iret rfl dX8_led_23 ?_
      exact eIp rfl

theorem c_ledS (l : Launch) {S : Shp} {I : MI} {L : ML} {R : MR} (xg : XG S R) (sg : SG S R) {n : Nat} (hn : I (1, 0) 1 = nI n) (hN : n ≤ 12) {m j : Nat} (hm : I (0, 0) 5 = nI m) (hj : j < m) (hM : m ≤ 9) (hR : R (10, 0) j = some (11, j)) (wg : WG j S R) {ke t : Nat} (hke : I (11, j) 8 = nI ke) (hk : ke < 2 ^ 30) (ht : t < min ke 200) : Ct l mX8_led 3 0 0 [.inr (.inr (some (0, 0))), .inl (nI j), .inl (nI t)] S I L R (PIp S I L R (I (16, j) t)) := by
  refine Ct.of [some (.inr (.inr (some (0, 0)))), some (.inl (nI j)), some (.inl (nI t)), none] (by decide) rfl (Nat.le_of_ble_eq_true rfl) ?_
  refine g_ald0 (pc' := 1) dX8_led_0 rfl ?_
  refine g_ild1 (pc' := 2) dX8_led_1 rfl ?_
  refine g_callV (pc' := 5) (c_worldOfS l xg hm hj hM hR) xg.s0 (by decide) wX8_worldOf lX8_147 rfl rfl (Nat.le_of_ble_eq_true rfl) ⟨Nat.le_of_ble_eq_true rfl, Nat.le_of_ble_eq_true rfl⟩ ⟨Nat.le_of_ble_eq_true rfl, Nat.le_of_ble_eq_true rfl⟩ dX8_led_2 rfl (kRp ?_)
  refine g_ast3 (pc' := 6) rfl (by decide) dX8_led_5 rfl ?_
  refine g_ald3 (pc' := 7) dX8_led_6 rfl ?_
  refine g_ifnullF (pc' := 10) dX8_led_7 rfl ?_
  refine g_ild2 (pc' := 11) dX8_led_10 rfl ?_
  refine g_ifltN (pc' := 14) (by omega) dX8_led_11 rfl ?_
  refine g_ild2 (pc' := 15) dX8_led_14 rfl ?_
  refine g_ald3 (pc' := 16) dX8_led_15 rfl ?_
  refine g_callV (pc' := 19) (c_logged l wg hke hk) wg.s11 (by decide) wX7_logged lX8_204 rfl rfl (Nat.le_of_ble_eq_true rfl) ⟨Nat.le_of_ble_eq_true rfl, Nat.le_of_ble_eq_true rfl⟩ ⟨Nat.le_of_ble_eq_true rfl, Nat.le_of_ble_eq_true rfl⟩ dX8_led_16 rfl (kIp ?_)
  refine g_icmpltN (pc' := 22) (by omega) (by omega) (tgt := 24) dX8_led_19 (by decide) rfl (fun h19 => ?_) (fun h19 => ?_)
  · refine g_ald3 (pc' := 25) dX8_led_24 rfl ?_
    refine g_getR (pc' := 28) wg.s11 (by decide) fX8_207 wg.r11_14 dX8_led_25 rfl ?_
    refine g_ild2 (pc' := 29) dX8_led_28 rfl ?_
    refine g_bald (pc' := 30) (j := t) wg.s16 rfl (by omega) (by decide) rfl dX8_led_29 rfl ?_
    refine g_iret rfl dX8_led_30 ?_
    exact eIp rfl
  · exact absurd h19 (by omega)

theorem c_traceM (l : Launch) {S : Shp} {I : MI} {L : ML} {R : MR} (xg : XG S R) (ag : AG S R) {r : Nat} (hr : I (23, 0) 3 = nI r) {x : Int32} (hb : x < 0 ∨ ¬ x < nI r ∨ ¬ x < nI 24) : Ct l mX8_trace 2 0 0 [.inr (.inr (some (0, 0))), .inl x] S I L R (PIp S I L R (-1)) := by
  refine Ct.of [some (.inr (.inr (some (0, 0)))), some (.inl x)] (by decide) rfl (Nat.le_of_ble_eq_true rfl) ?_
  refine g_ild1 (pc' := 1) dX8_trace_0 rfl ?_
  refine g_iflt (pc' := 4) (tgt := 21) dX8_trace_1 (by decide) rfl (fun h1 => ?_) (fun h1 => ?_)
  · refine g_iconst (pc' := 22) (v := (-1)) dX8_trace_21 rfl (by decide) ?_
    refine g_iret rfl dX8_trace_22 ?_
    exact eIp rfl
  · refine g_ild1 (pc' := 5) dX8_trace_4 rfl ?_
    refine g_ald0 (pc' := 6) dX8_trace_5 rfl ?_
    refine g_getR (pc' := 9) xg.s0 (by decide) fX8_45 xg.r0_7 dX8_trace_6 rfl ?_
    refine g_getI (pc' := 12) ag.s23 (by decide) fX8_340 hr dX8_trace_9 rfl ?_
    refine g_icmpge (pc' := 15) (tgt := 21) dX8_trace_12 (by decide) rfl (fun h12 => ?_) (fun h12 => ?_)
    · refine g_iconst (pc' := 22) (v := (-1)) dX8_trace_21 rfl (by decide) ?_
      refine g_iret rfl dX8_trace_22 ?_
      exact eIp rfl
    · refine g_ild1 (pc' := 16) dX8_trace_15 rfl ?_
      refine g_bipush (pc' := 18) (v := nI 24) dX8_trace_16 rfl (by decide) ?_
      refine g_icmplt (pc' := 21) (tgt := 23) dX8_trace_18 (by decide) rfl (fun h18 => ?_) (fun h18 => ?_)
      · exfalso
        rcases hb with h | h | h
        · exact h1 h
        · exact h12 (Int32.not_lt.mp h)
        · exact h h18
      · refine g_iconst (pc' := 22) (v := (-1)) dX8_trace_21 rfl (by decide) ?_
        refine g_iret rfl dX8_trace_22 ?_
        exact eIp rfl

theorem c_traceS (l : Launch) {S : Shp} {I : MI} {L : ML} {R : MR} (xg : XG S R) (ag : AG S R) {r t : Nat} (hr : I (23, 0) 3 = nI r) (hr2 : r < 2 ^ 31) (ht : t < r) (ht2 : t < 24) : Ct l mX8_trace 2 0 0 [.inr (.inr (some (0, 0))), .inl (nI t)] S I L R (PIp S I L R (I (25, 0) t)) := by
  refine Ct.of [some (.inr (.inr (some (0, 0)))), some (.inl (nI t))] (by decide) rfl (Nat.le_of_ble_eq_true rfl) ?_
  refine g_ild1 (pc' := 1) dX8_trace_0 rfl ?_
  refine g_ifltN (pc' := 4) (by omega) dX8_trace_1 rfl ?_
  refine g_ild1 (pc' := 5) dX8_trace_4 rfl ?_
  refine g_ald0 (pc' := 6) dX8_trace_5 rfl ?_
  refine g_getR (pc' := 9) xg.s0 (by decide) fX8_45 xg.r0_7 dX8_trace_6 rfl ?_
  refine g_getI (pc' := 12) ag.s23 (by decide) fX8_340 hr dX8_trace_9 rfl ?_
  refine g_icmpgeN (pc' := 15) (by omega) (by omega) (tgt := 21) dX8_trace_12 (by decide) rfl (fun h12 => ?_) (fun h12 => ?_)
  · exact absurd h12 (by omega)
  · refine g_ild1 (pc' := 16) dX8_trace_15 rfl ?_
    refine g_bipush (pc' := 18) (v := nI 24) dX8_trace_16 rfl (by decide) ?_
    refine g_icmpltN (pc' := 21) (by omega) (by omega) (tgt := 23) dX8_trace_18 (by decide) rfl (fun h18 => ?_) (fun h18 => ?_)
    · refine g_ald0 (pc' := 24) dX8_trace_23 rfl ?_
      refine g_getR (pc' := 27) xg.s0 (by decide) fX8_45 xg.r0_7 dX8_trace_24 rfl ?_
      refine g_getR (pc' := 30) ag.s23 (by decide) fX8_343 ag.r23_2 dX8_trace_27 rfl ?_
      refine g_ild1 (pc' := 31) dX8_trace_30 rfl ?_
      refine g_iald (pc' := 32) (j := t) ag.s25 rfl (by omega) (by decide) rfl dX8_trace_31 rfl ?_
      refine g_iret rfl dX8_trace_32 ?_
      exact eIp rfl
    · exact absurd h18 (by omega)

theorem c_body (l : Launch) {S : Shp} {I : MI} {L : ML} {R : MR} (xg : XG S R) (ag : AG S R) {b : Nat} (hb : I (23, 0) 1 = nI b) (hb5 : b ≤ 50) (x : Int32) : Ct l mX8_body 1 0 0 [.inr (.inr (some (0, 0))), .inl x] S I L R (PIm S L R (fun v J => v = (if x < 0 ∨ nI 8 ≤ x then -1 else if 50 ≤ b then -3 else nI b) ∧ J = (if x < 0 ∨ nI 8 ≤ x then I else if 50 ≤ b then I else upM (upM I (24, 0) b x) (23, 0) 1 (nI (b + 1))))) := by
  refine Ct.of [some (.inr (.inr (some (0, 0)))), some (.inl x)] (by decide) rfl (Nat.le_of_ble_eq_true rfl) ?_
  refine g_ild1 (pc' := 1) dX8_body_0 rfl ?_
  refine g_iflt (pc' := 4) (tgt := 10) dX8_body_1 (by decide) rfl (fun h1 => ?_) (fun h1 => ?_)
  · refine g_iconst (pc' := 11) (v := (-1)) dX8_body_10 rfl (by decide) ?_
    refine g_iret rfl dX8_body_11 ?_
    exact eI ⟨(by (repeat' split) <;> first | rfl | (exfalso; simp_all; done) | (exfalso; simp_all; omega) | (exfalso; simp_all [-Int32.not_le, ← Int32.not_le]; done) | (exfalso; simp_all [-Int32.not_le, ← Int32.not_le]; omega)), (by (repeat' split) <;> first | rfl | (exfalso; simp_all; done) | (exfalso; simp_all; omega) | (exfalso; simp_all [-Int32.not_le, ← Int32.not_le]; done) | (exfalso; simp_all [-Int32.not_le, ← Int32.not_le]; omega))⟩
  · refine g_ild1 (pc' := 5) dX8_body_4 rfl ?_
    refine g_bipush (pc' := 7) (v := nI 8) dX8_body_5 rfl (by decide) ?_
    refine g_icmplt (pc' := 10) (tgt := 12) dX8_body_7 (by decide) rfl (fun h7 => ?_) (fun h7 => ?_)
    · refine g_ald0 (pc' := 13) dX8_body_12 rfl ?_
      refine g_getR (pc' := 16) xg.s0 (by decide) fX8_45 xg.r0_7 dX8_body_13 rfl ?_
      refine g_getI (pc' := 19) ag.s23 (by decide) fX8_332 hb dX8_body_16 rfl ?_
      refine g_bipush (pc' := 21) (v := nI 50) dX8_body_19 rfl (by decide) ?_
      refine g_icmpltN (pc' := 24) (by omega) (by omega) (tgt := 27) dX8_body_21 (by decide) rfl (fun h21 => ?_) (fun h21 => ?_)
      · refine g_ald0 (pc' := 28) dX8_body_27 rfl ?_
        refine g_getR (pc' := 31) xg.s0 (by decide) fX8_45 xg.r0_7 dX8_body_28 rfl ?_
        refine g_getR (pc' := 34) ag.s23 (by decide) fX8_333 ag.r23_0 dX8_body_31 rfl ?_
        refine g_ald0 (pc' := 35) dX8_body_34 rfl ?_
        refine g_getR (pc' := 38) xg.s0 (by decide) fX8_45 xg.r0_7 dX8_body_35 rfl ?_
        refine g_getI (pc' := 41) ag.s23 (by decide) fX8_332 hb dX8_body_38 rfl ?_
        refine g_ild1 (pc' := 42) dX8_body_41 rfl ?_
        refine g_iast (pc' := 43) (j := b) ag.s24 rfl (by omega) (by decide) dX8_body_42 rfl ?_
        refine g_ald0 (pc' := 44) dX8_body_43 rfl ?_
        refine g_getR (pc' := 47) xg.s0 (by decide) fX8_45 xg.r0_7 dX8_body_44 rfl ?_
        refine g_dupR (pc' := 48) dX8_body_47 rfl ?_
        refine g_getI (pc' := 51) ag.s23 (by decide) fX8_332 (v := nI b) (by simp [upM, hb]) dX8_body_48 rfl ?_
        refine g_iconst (pc' := 52) (v := nI 1) dX8_body_51 rfl (by decide) ?_
        refine g_iaddN (pc' := 53) dX8_body_52 rfl ?_
        refine g_putI (pc' := 56) ag.s23 (by decide) ⟨fX8_332, rfl, pI⟩ dX8_body_53 rfl ?_
        refine g_ald0 (pc' := 57) dX8_body_56 rfl ?_
        refine g_getR (pc' := 60) xg.s0 (by decide) fX8_45 xg.r0_7 dX8_body_57 rfl ?_
        refine g_getI (pc' := 63) ag.s23 (by decide) fX8_332 (v := nI (b + 1)) (by simp [upM]) dX8_body_60 rfl ?_
        refine g_iconst (pc' := 64) (v := nI 1) dX8_body_63 rfl (by decide) ?_
        refine g_isub (pc' := 65) dX8_body_64 rfl ?_
        refine g_topi (v := nI b) (pk_sub (by omega)) ?_
        refine g_iret rfl dX8_body_65 ?_
        exact eI ⟨(by (repeat' split) <;> first | rfl | (exfalso; simp_all; done) | (exfalso; simp_all; omega) | (exfalso; simp_all [-Int32.not_le, ← Int32.not_le]; done) | (exfalso; simp_all [-Int32.not_le, ← Int32.not_le]; omega)), (by (repeat' split) <;> first | rfl | (exfalso; simp_all; done) | (exfalso; simp_all; omega) | (exfalso; simp_all [-Int32.not_le, ← Int32.not_le]; done) | (exfalso; simp_all [-Int32.not_le, ← Int32.not_le]; omega))⟩
      · refine g_bipush (pc' := 26) (v := (-3)) dX8_body_24 rfl (by decide) ?_
        refine g_iret rfl dX8_body_26 ?_
        exact eI ⟨(by (repeat' split) <;> first | rfl | (exfalso; simp_all; done) | (exfalso; simp_all; omega) | (exfalso; simp_all [-Int32.not_le, ← Int32.not_le]; done) | (exfalso; simp_all [-Int32.not_le, ← Int32.not_le]; omega)), (by (repeat' split) <;> first | rfl | (exfalso; simp_all; done) | (exfalso; simp_all; omega) | (exfalso; simp_all [-Int32.not_le, ← Int32.not_le]; done) | (exfalso; simp_all [-Int32.not_le, ← Int32.not_le]; omega))⟩
    · refine g_iconst (pc' := 11) (v := (-1)) dX8_body_10 rfl (by decide) ?_
      refine g_iret rfl dX8_body_11 ?_
      exact eI ⟨(by (repeat' split) <;> first | rfl | (exfalso; simp_all; done) | (exfalso; simp_all; omega) | (exfalso; simp_all [-Int32.not_le, ← Int32.not_le]; done) | (exfalso; simp_all [-Int32.not_le, ← Int32.not_le]; omega)), (by (repeat' split) <;> first | rfl | (exfalso; simp_all; done) | (exfalso; simp_all; omega) | (exfalso; simp_all [-Int32.not_le, ← Int32.not_le]; done) | (exfalso; simp_all [-Int32.not_le, ← Int32.not_le]; omega))⟩

theorem c_actN (l : Launch) {S : Shp} {I : MI} {L : ML} {R : MR} (xg : XG S R) (ag : AG S R) {n : Nat} (hn : I (23, 0) 1 = nI n) (hN : n ≤ 50) {x1 x2 : Int32} (x : Int32) (hbad : inb x1 n = false ∨ x2 < 0 ∨ ¬ x2 < nI 4) : Ct l mX8_act 3 0 0 [.inr (.inr (some (0, 0))), .inl x1, .inl x2, .inl x] S I L R (PIm S L R (fun v J => v = nI 0 ∧ J (23, 0) 3 = nI 0 ∧ Fr acP I J)) := by
  refine Ct.of [some (.inr (.inr (some (0, 0)))), some (.inl x1), some (.inl x2), some (.inl x)] (by decide) rfl (Nat.le_of_ble_eq_true rfl) ?_
  refine g_ald0 (pc' := 1) dX8_act_0 rfl ?_
  refine g_getR (pc' := 4) xg.s0 (by decide) fX8_45 xg.r0_7 dX8_act_1 rfl ?_
  refine g_ild1 (pc' := 5) dX8_act_4 rfl ?_
  refine g_ild2 (pc' := 6) dX8_act_5 rfl ?_
  refine g_ild3 (pc' := 7) dX8_act_6 rfl ?_
  refine g_callV (pc' := 10) (c_performN l ag hn hN x hbad) ag.s23 (by decide) wX0_perform lX8_336 rfl rfl (Nat.le_of_ble_eq_true rfl) ⟨Nat.le_of_ble_eq_true rfl, Nat.le_of_ble_eq_true rfl⟩ ⟨Nat.le_of_ble_eq_true rfl, Nat.le_of_ble_eq_true rfl⟩ dX8_act_7 rfl (kI (fun v J hq => ?_))
  refine g_iret rfl dX8_act_10 ?_
  exact eI hq

theorem c_actS (l : Launch) {S : Shp} {I : MI} {L : ML} {R : MR} (xg : XG S R) (ag : AG S R) {n num kd a : Nat} (hn : I (23, 0) 1 = nI n) (hN : n ≤ 50) (hnum : num < n) (hT : AT I) (hk : I (24, 0) num = nI kd) (hkd : kd < 8) (ha : a < 4) (x : Int32) : Ct l mX8_act 97 0 0 [.inr (.inr (some (0, 0))), .inl (nI num), .inl (nI a), .inl x] S I L R (PIm S L R (fun v J => v = (askV kd num 31 (some kd) a x).1 ∧ AM J num kd (askV kd num 31 (some kd) a x).2 ∧ Fr acP2 I J)) := by
  refine Ct.of [some (.inr (.inr (some (0, 0)))), some (.inl (nI num)), some (.inl (nI a)), some (.inl x)] (by decide) rfl (Nat.le_of_ble_eq_true rfl) ?_
  refine g_ald0 (pc' := 1) dX8_act_0 rfl ?_
  refine g_getR (pc' := 4) xg.s0 (by decide) fX8_45 xg.r0_7 dX8_act_1 rfl ?_
  refine g_ild1 (pc' := 5) dX8_act_4 rfl ?_
  refine g_ild2 (pc' := 6) dX8_act_5 rfl ?_
  refine g_ild3 (pc' := 7) dX8_act_6 rfl ?_
  refine g_callV (pc' := 10) (c_perform l ag hn hN hnum hT hk hkd ha x) ag.s23 (by decide) wX0_perform lX8_336 rfl rfl (Nat.le_of_ble_eq_true rfl) ⟨Nat.le_of_ble_eq_true rfl, Nat.le_of_ble_eq_true rfl⟩ ⟨Nat.le_of_ble_eq_true rfl, Nat.le_of_ble_eq_true rfl⟩ dX8_act_7 rfl (kI (fun v J hq => ?_))
  refine g_iret rfl dX8_act_10 ?_
  exact eI hq
