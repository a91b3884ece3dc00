/-! the model: odds, said -/
theorem nI_nm {a : Nat} (h : a < 2 ^ 31) : ¬ nI a = -1 := fun e => absurd (nI_pos' h) (by rw [e]; decide)
theorem c_mOddsN (l : Launch) {S : Shp} {I : MI} {L : ML} {R : MR} (mg : MG S R) {n : Nat} (hn : I (40, 0) 6 = nI n) (hN : n ≤ 12) {m : Nat} (hm : I (40, 0) 18 = nI m) (hM : m ≤ 9) {x y z kd : Int32} (hb : inb x m = false ∨ inb y n = false ∨ z < nI 0 ∨ nI 6 < z ∨ kd < nI 0 ∨ nI 1 < kd) : Ct l mX9_odds 3 0 0 [.inr (.inr (some (40, 0))), .inl x, .inl y, .inl z, .inl kd] S I L R (PIp S I L R (-1)) := by
  refine Ct.of [some (.inr (.inr (some (40, 0)))), some (.inl x), some (.inl y), some (.inl z), some (.inl kd)] (by decide) rfl (Nat.le_of_ble_eq_true rfl) ?_
  refine g_ald0 (pc' := 1) dX9_odds_0 rfl ?_
  refine g_ild1 (pc' := 2) dX9_odds_1 rfl ?_
  refine g_callV (pc' := 5) (c_misWorld l mg hm hM x) mg.s40 (by decide) wX9_isWorld lX9_186 rfl rfl (Nat.le_of_ble_eq_true rfl) ⟨Nat.le_of_ble_eq_true rfl, Nat.le_of_ble_eq_true rfl⟩ ⟨Nat.le_of_ble_eq_true rfl, Nat.le_of_ble_eq_true rfl⟩ dX9_odds_2 rfl (kIp ?_)
  refine g_ifeqB (pc' := 8) (tgt := 39) dX9_odds_5 (by decide) rfl (fun h5 => ?_) (fun h5 => ?_)
  · refine g_iconst (pc' := 40) (v := (-1)) dX9_odds_39 rfl (by decide) ?_
    refine g_iret rfl dX9_odds_40 ?_
    exact eIp rfl
  · refine g_ald0 (pc' := 9) dX9_odds_8 rfl ?_
    refine g_ild2 (pc' := 10) dX9_odds_9 rfl ?_
    refine g_callV (pc' := 13) (c_misSong l mg hn hN y) mg.s40 (by decide) wX9_isSong lX9_111 rfl rfl (Nat.le_of_ble_eq_true rfl) ⟨Nat.le_of_ble_eq_true rfl, Nat.le_of_ble_eq_true rfl⟩ ⟨Nat.le_of_ble_eq_true rfl, Nat.le_of_ble_eq_true rfl⟩ dX9_odds_10 rfl (kIp ?_)
    refine g_ifeqB (pc' := 16) (tgt := 39) dX9_odds_13 (by decide) rfl (fun h13 => ?_) (fun h13 => ?_)
    · refine g_iconst (pc' := 40) (v := (-1)) dX9_odds_39 rfl (by decide) ?_
      refine g_iret rfl dX9_odds_40 ?_
      exact eIp rfl
    · refine g_ild3 (pc' := 17) dX9_odds_16 rfl ?_
      refine g_i2l (pc' := 18) dX9_odds_17 rfl ?_
      refine g_lconst (pc' := 19) (v := 0) dX9_odds_18 rfl (by decide) ?_
      refine g_ldc2 (pc' := 22) dX9_odds_19 rfl kX9_279 ?_
      refine g_callS (pc' := 25) (c_mWI l z (nI 0) (nI 6) (A := 0) (B := 6) (by decide) (by decide)) wX9_within lX9_102 rfl rfl (Nat.le_of_ble_eq_true rfl) ⟨Nat.le_of_ble_eq_true rfl, Nat.le_of_ble_eq_true rfl⟩ ⟨Nat.le_of_ble_eq_true rfl, Nat.le_of_ble_eq_true rfl⟩ dX9_odds_22 rfl (kIp ?_)
      refine g_ifeqB (pc' := 28) (tgt := 39) dX9_odds_25 (by decide) rfl (fun h25 => ?_) (fun h25 => ?_)
      · refine g_iconst (pc' := 40) (v := (-1)) dX9_odds_39 rfl (by decide) ?_
        refine g_iret rfl dX9_odds_40 ?_
        exact eIp rfl
      · refine g_ild4 (pc' := 30) dX9_odds_28 rfl ?_
        refine g_i2l (pc' := 31) dX9_odds_30 rfl ?_
        refine g_lconst (pc' := 32) (v := 0) dX9_odds_31 rfl (by decide) ?_
        refine g_lconst (pc' := 33) (v := 1) dX9_odds_32 rfl (by decide) ?_
        refine g_callS (pc' := 36) (c_mWI l kd (nI 0) (nI 1) (A := 0) (B := 1) (by decide) (by decide)) wX9_within lX9_102 rfl rfl (Nat.le_of_ble_eq_true rfl) ⟨Nat.le_of_ble_eq_true rfl, Nat.le_of_ble_eq_true rfl⟩ ⟨Nat.le_of_ble_eq_true rfl, Nat.le_of_ble_eq_true rfl⟩ dX9_odds_33 rfl (kIp ?_)
        refine g_ifneB (pc' := 39) (tgt := 41) dX9_odds_36 (by decide) rfl (fun h36 => ?_) (fun h36 => ?_)
        · exfalso
          rcases hb with h | h | h | h | h | h
          · rw [h] at h5; cases h5
          · rw [h] at h13; cases h13
          · exact wi_no (Or.inl h) h25
          · exact wi_no (Or.inr h) h25
          · exact wi_no (Or.inl h) h36
          · exact wi_no (Or.inr h) h36
        · refine g_iconst (pc' := 40) (v := (-1)) dX9_odds_39 rfl (by decide) ?_
          refine g_iret rfl dX9_odds_40 ?_
          exact eIp rfl

theorem c_mOddsG (l : Launch) {S : Shp} {I : MI} {L : ML} {R : MR} (mg : MG S R) {n : Nat} (hn : I (40, 0) 6 = nI n) (hN : n ≤ 12) {m : Nat} (hm : I (40, 0) 18 = nI m) (hM : m ≤ 9) {w : Nat} (hwm : w < m) {s : Nat} (hs : s < n) {p q : Nat} (hp : p ≤ 6) (hq1 : q ≤ 1) (hbig : 4 < n) : Ct l mX9_odds 3 0 0 [.inr (.inr (some (40, 0))), .inl (nI w), .inl (nI s), .inl (nI p), .inl (nI q)] S I L R (PIp S I L R (-4)) := by
  refine Ct.of [some (.inr (.inr (some (40, 0)))), some (.inl (nI w)), some (.inl (nI s)), some (.inl (nI p)), some (.inl (nI q))] (by decide) rfl (Nat.le_of_ble_eq_true rfl) ?_
  refine g_ald0 (pc' := 1) dX9_odds_0 rfl ?_
  refine g_ild1 (pc' := 2) dX9_odds_1 rfl ?_
  refine g_callV (pc' := 5) (c_misWorld l mg hm hM (nI w)) mg.s40 (by decide) wX9_isWorld lX9_186 rfl rfl (Nat.le_of_ble_eq_true rfl) ⟨Nat.le_of_ble_eq_true rfl, Nat.le_of_ble_eq_true rfl⟩ ⟨Nat.le_of_ble_eq_true rfl, Nat.le_of_ble_eq_true rfl⟩ dX9_odds_2 rfl (kIp ?_)
  refine g_ifeqB (pc' := 8) (tgt := 39) dX9_odds_5 (by decide) rfl (fun h5 => (by first | exact absurd h5 (by rw [inb_nI (by omega) (by omega)]; simp [hwm]) | exact absurd (by rw [inb_nI (by omega) (by omega)]; simp [hwm]) h5)) (fun h5 => ?_)
  refine g_ald0 (pc' := 9) dX9_odds_8 rfl ?_
  refine g_ild2 (pc' := 10) dX9_odds_9 rfl ?_
  refine g_callV (pc' := 13) (c_misSong l mg hn hN (nI s)) mg.s40 (by decide) wX9_isSong lX9_111 rfl rfl (Nat.le_of_ble_eq_true rfl) ⟨Nat.le_of_ble_eq_true rfl, Nat.le_of_ble_eq_true rfl⟩ ⟨Nat.le_of_ble_eq_true rfl, Nat.le_of_ble_eq_true rfl⟩ dX9_odds_10 rfl (kIp ?_)
  refine g_ifeqB (pc' := 16) (tgt := 39) dX9_odds_13 (by decide) rfl (fun h13 => (by first | exact absurd h13 (by rw [inb_nI (by omega) (by omega)]; simp [hs]) | exact absurd (by rw [inb_nI (by omega) (by omega)]; simp [hs]) h13)) (fun h13 => ?_)
  refine g_ild3 (pc' := 17) dX9_odds_16 rfl ?_
  refine g_i2l (pc' := 18) dX9_odds_17 rfl ?_
  refine g_lconst (pc' := 19) (v := 0) dX9_odds_18 rfl (by decide) ?_
  refine g_ldc2 (pc' := 22) dX9_odds_19 rfl kX9_279 ?_
  refine g_callS (pc' := 25) (c_mWI l (nI p) (nI 0) (nI 6) (A := 0) (B := 6) (by decide) (by decide)) wX9_within lX9_102 rfl rfl (Nat.le_of_ble_eq_true rfl) ⟨Nat.le_of_ble_eq_true rfl, Nat.le_of_ble_eq_true rfl⟩ ⟨Nat.le_of_ble_eq_true rfl, Nat.le_of_ble_eq_true rfl⟩ dX9_odds_22 rfl (kIp ?_)
  refine g_ifeqB (pc' := 28) (tgt := 39) dX9_odds_25 (by decide) rfl (fun h25 => (by first | exact absurd h25 (wi_yesN (by omega) (by decide)) | exact absurd (wi_yesN (by omega) (by decide)) h25)) (fun h25 => ?_)
  refine g_ild4 (pc' := 30) dX9_odds_28 rfl ?_
  refine g_i2l (pc' := 31) dX9_odds_30 rfl ?_
  refine g_lconst (pc' := 32) (v := 0) dX9_odds_31 rfl (by decide) ?_
  refine g_lconst (pc' := 33) (v := 1) dX9_odds_32 rfl (by decide) ?_
  refine g_callS (pc' := 36) (c_mWI l (nI q) (nI 0) (nI 1) (A := 0) (B := 1) (by decide) (by decide)) wX9_within lX9_102 rfl rfl (Nat.le_of_ble_eq_true rfl) ⟨Nat.le_of_ble_eq_true rfl, Nat.le_of_ble_eq_true rfl⟩ ⟨Nat.le_of_ble_eq_true rfl, Nat.le_of_ble_eq_true rfl⟩ dX9_odds_33 rfl (kIp ?_)
  refine g_ifneB (pc' := 39) (tgt := 41) dX9_odds_36 (by decide) rfl (fun h36 => ?_) (fun h36 => (by first | exact absurd h36 (wi_yesN (by omega) (by decide)) | exact absurd (wi_yesN (by omega) (by decide)) h36))
  refine g_ald0 (pc' := 42) dX9_odds_41 rfl ?_
  refine g_getI (pc' := 45) mg.s40 (by decide) fX9_99 hn dX9_odds_42 rfl ?_
  refine g_iconst (pc' := 46) (v := nI 4) dX9_odds_45 rfl (by decide) ?_
  refine g_icmpleN (pc' := 49) (by omega) (by omega) (tgt := 52) dX9_odds_46 (by decide) rfl (fun h46 => ?_) (fun h46 => ?_)
  · exact absurd h46 (by omega)
  · refine g_bipush (pc' := 51) (v := (-4)) dX9_odds_49 rfl (by decide) ?_
    refine g_iret rfl dX9_odds_51 ?_
    exact eIp rfl

theorem c_mOddsS (l : Launch) {S : Shp} {I : MI} {L : ML} {R : MR} (mg : MG S R) {n : Nat} (hn : I (40, 0) 6 = nI n) (hN : n ≤ 12) {m : Nat} (hm : I (40, 0) 18 = nI m) (hM : m ≤ 9) {w : Nat} (hwm : w < m) {s : Nat} (hs : s < n) {p q : Nat} (hp : p ≤ 6) (hq1 : q ≤ 1) (hn4 : n ≤ 4) {B : Nat → Nat} {len lj : Nat} (tl : TL B len lj I) (hlw : I (69, 0) w = nI lj) {no : Nat} (hno : I (50, 0) (12 + w) = nI no) (hno9 : no ≤ 9999) (hbd : bdW I w n) : Ct l mX9_odds 57 0 0 [.inr (.inr (some (40, 0))), .inl (nI w), .inl (nI s), .inl (nI p), .inl (nI q)] S I L R (PIm S L R (fun v J => v = (odM B len n w s (nI q) p I).toInt32 ∧ Fr (fvP (4 * p + 4)) I J)) := by
  refine Ct.of [some (.inr (.inr (some (40, 0)))), some (.inl (nI w)), some (.inl (nI s)), some (.inl (nI p)), some (.inl (nI q))] (by decide) rfl (Nat.le_of_ble_eq_true rfl) ?_
  refine g_ald0 (pc' := 1) dX9_odds_0 rfl ?_
  refine g_ild1 (pc' := 2) dX9_odds_1 rfl ?_
  refine g_callV (pc' := 5) (c_misWorld l mg hm hM (nI w)) mg.s40 (by decide) wX9_isWorld lX9_186 rfl rfl (Nat.le_of_ble_eq_true rfl) ⟨Nat.le_of_ble_eq_true rfl, Nat.le_of_ble_eq_true rfl⟩ ⟨Nat.le_of_ble_eq_true rfl, Nat.le_of_ble_eq_true rfl⟩ dX9_odds_2 rfl (kIp ?_)
  refine g_ifeqB (pc' := 8) (tgt := 39) dX9_odds_5 (by decide) rfl (fun h5 => (by first | exact absurd h5 (by rw [inb_nI (by omega) (by omega)]; simp [hwm]) | exact absurd (by rw [inb_nI (by omega) (by omega)]; simp [hwm]) h5)) (fun h5 => ?_)
  refine g_ald0 (pc' := 9) dX9_odds_8 rfl ?_
  refine g_ild2 (pc' := 10) dX9_odds_9 rfl ?_
  refine g_callV (pc' := 13) (c_misSong l mg hn hN (nI s)) mg.s40 (by decide) wX9_isSong lX9_111 rfl rfl (Nat.le_of_ble_eq_true rfl) ⟨Nat.le_of_ble_eq_true rfl, Nat.le_of_ble_eq_true rfl⟩ ⟨Nat.le_of_ble_eq_true rfl, Nat.le_of_ble_eq_true rfl⟩ dX9_odds_10 rfl (kIp ?_)
  refine g_ifeqB (pc' := 16) (tgt := 39) dX9_odds_13 (by decide) rfl (fun h13 => (by first | exact absurd h13 (by rw [inb_nI (by omega) (by omega)]; simp [hs]) | exact absurd (by rw [inb_nI (by omega) (by omega)]; simp [hs]) h13)) (fun h13 => ?_)
  refine g_ild3 (pc' := 17) dX9_odds_16 rfl ?_
  refine g_i2l (pc' := 18) dX9_odds_17 rfl ?_
  refine g_lconst (pc' := 19) (v := 0) dX9_odds_18 rfl (by decide) ?_
  refine g_ldc2 (pc' := 22) dX9_odds_19 rfl kX9_279 ?_
  refine g_callS (pc' := 25) (c_mWI l (nI p) (nI 0) (nI 6) (A := 0) (B := 6) (by decide) (by decide)) wX9_within lX9_102 rfl rfl (Nat.le_of_ble_eq_true rfl) ⟨Nat.le_of_ble_eq_true rfl, Nat.le_of_ble_eq_true rfl⟩ ⟨Nat.le_of_ble_eq_true rfl, Nat.le_of_ble_eq_true rfl⟩ dX9_odds_22 rfl (kIp ?_)
  refine g_ifeqB (pc' := 28) (tgt := 39) dX9_odds_25 (by decide) rfl (fun h25 => (by first | exact absurd h25 (wi_yesN (by omega) (by decide)) | exact absurd (wi_yesN (by omega) (by decide)) h25)) (fun h25 => ?_)
  refine g_ild4 (pc' := 30) dX9_odds_28 rfl ?_
  refine g_i2l (pc' := 31) dX9_odds_30 rfl ?_
  refine g_lconst (pc' := 32) (v := 0) dX9_odds_31 rfl (by decide) ?_
  refine g_lconst (pc' := 33) (v := 1) dX9_odds_32 rfl (by decide) ?_
  refine g_callS (pc' := 36) (c_mWI l (nI q) (nI 0) (nI 1) (A := 0) (B := 1) (by decide) (by decide)) wX9_within lX9_102 rfl rfl (Nat.le_of_ble_eq_true rfl) ⟨Nat.le_of_ble_eq_true rfl, Nat.le_of_ble_eq_true rfl⟩ ⟨Nat.le_of_ble_eq_true rfl, Nat.le_of_ble_eq_true rfl⟩ dX9_odds_33 rfl (kIp ?_)
  refine g_ifneB (pc' := 39) (tgt := 41) dX9_odds_36 (by decide) rfl (fun h36 => ?_) (fun h36 => (by first | exact absurd h36 (wi_yesN (by omega) (by decide)) | exact absurd (wi_yesN (by omega) (by decide)) h36))
  refine g_ald0 (pc' := 42) dX9_odds_41 rfl ?_
  refine g_getI (pc' := 45) mg.s40 (by decide) fX9_99 hn dX9_odds_42 rfl ?_
  refine g_iconst (pc' := 46) (v := nI 4) dX9_odds_45 rfl (by decide) ?_
  refine g_icmpleN (pc' := 49) (by omega) (by omega) (tgt := 52) dX9_odds_46 (by decide) rfl (fun h46 => ?_) (fun h46 => ?_)
  · refine g_ald0 (pc' := 53) dX9_odds_52 rfl ?_
    refine g_ild1 (pc' := 54) dX9_odds_53 rfl ?_
    refine g_ild2 (pc' := 55) dX9_odds_54 rfl ?_
    refine g_ild3 (pc' := 56) dX9_odds_55 rfl ?_
    refine g_ild4 (pc' := 58) dX9_odds_56 rfl ?_
    refine g_callV (pc' := 61) (c_mFollows l mg (by omega) (w := w) (by omega) hno9 hs p hp I hn tl hlw hno hbd) mg.s40 (by decide) wX9_follows lX9_275 rfl rfl (Nat.le_of_ble_eq_true rfl) ⟨by simp [rmd]; omega, by simp [rmd, mX9_follows]; omega⟩ ⟨by simp [rmd], by simp [rmd]⟩ dX9_odds_58 rfl (kJ (fun v J hq => ?_))
    refine g_l2i (pc' := 62) dX9_odds_61 rfl ?_
    refine g_iret rfl dX9_odds_62 ?_
    exact eI ⟨by rw [hq.1], hq.2⟩
  · exact absurd h46 (by omega)

theorem c_mTrueFrom (l : Launch) {S : Shp} {I : MI} {L : ML} {R : MR} (mg : MG S R) {n : Nat} (hn : I (40, 0) 6 = nI n) (hn6 : n ≤ 6) {w : Nat → Nat → Int32} (hw : ∀ s p, s < n → p < n → I (83, 0) (6 * s + p) = w s p) : ∀ (f p : Nat) (u a : Int32), p + f = n → Ct l mX9_trueFrom (f + 1) 0 0 [.inr (.inr (some (40, 0))), .inl (nI p), .inl u, .inl a] S I L R (PIp S I L R (ordN w n f p u a)) := by
  intro f
  induction f with
  | zero =>
    intro p u a hp
    obtain rfl : p = n := by omega
    refine Ct.of [some (.inr (.inr (some (40, 0)))), some (.inl (nI p)), some (.inl u), some (.inl a), none, none] (by decide) rfl (Nat.le_of_ble_eq_true rfl) ?_
    refine g_ild1 (pc' := 1) dX9_trueFrom_0 rfl ?_
    refine g_ald0 (pc' := 2) dX9_trueFrom_1 rfl ?_
    refine g_getI (pc' := 5) mg.s40 (by decide) fX9_99 hn dX9_trueFrom_2 rfl ?_
    refine g_icmpneN (pc' := 8) (by omega) (by omega) (tgt := 10) dX9_trueFrom_5 (by decide) rfl (fun h5 => ?_) (fun h5 => ?_)
    · exact absurd h5 (by omega)
    · refine g_iconst (pc' := 9) (v := nI 1) dX9_trueFrom_8 rfl (by decide) ?_
      refine g_iret rfl dX9_trueFrom_9 ?_
      exact eIp rfl
  | succ f ih =>
    intro p u a hp
    refine Ct.of [some (.inr (.inr (some (40, 0)))), some (.inl (nI p)), some (.inl u), some (.inl a), none, none] (by decide) rfl (Nat.le_of_ble_eq_true rfl) ?_
    refine g_ild1 (pc' := 1) dX9_trueFrom_0 rfl ?_
    refine g_ald0 (pc' := 2) dX9_trueFrom_1 rfl ?_
    refine g_getI (pc' := 5) mg.s40 (by decide) fX9_99 hn dX9_trueFrom_2 rfl ?_
    refine g_icmpneN (pc' := 8) (by omega) (by omega) (tgt := 10) dX9_trueFrom_5 (by decide) rfl (fun h5 => ?_) (fun h5 => ?_)
    · refine g_iconst (pc' := 11) (v := nI 0) dX9_trueFrom_10 rfl (by decide) ?_
      refine g_ist4 (pc' := 13) rfl (by decide) dX9_trueFrom_11 rfl ?_
      refine g_iconst (pc' := 14) (v := nI 0) dX9_trueFrom_13 rfl (by decide) ?_
      refine g_ist5 (pc' := 16) rfl (by decide) dX9_trueFrom_14 rfl ?_
      refine g_loop (σ := Unit) (fun _ _ => True) (fun i s => [some (.inr (.inr (some (40, 0)))), some (.inl (nI p)), some (.inl u), some (.inl a), some (.inl (sumN (ordT w n f p u a) i)), some (.inl (nI i))]) (fun i s => I) n 0 () (by omega) trivial ?_ ?_
      · intro i s hi hP ihL
        refine g_ild5 (pc' := 18) dX9_trueFrom_16 rfl ?_
        refine g_ald0 (pc' := 19) dX9_trueFrom_18 rfl ?_
        refine g_getI (pc' := 22) mg.s40 (by decide) fX9_99 hn dX9_trueFrom_19 rfl ?_
        refine g_icmpgeN (pc' := 25) (by omega) (by omega) (tgt := 86) dX9_trueFrom_22 (by decide) rfl (fun h22 => ?_) (fun h22 => ?_)
        · exact absurd h22 (by omega)
        · refine g_ild2 (pc' := 26) dX9_trueFrom_25 rfl ?_
          refine g_ild5 (pc' := 28) dX9_trueFrom_26 rfl ?_
          refine g_ishr (pc' := 29) dX9_trueFrom_28 rfl ?_
          refine g_iconst (pc' := 30) (v := nI 1) dX9_trueFrom_29 rfl (by decide) ?_
          refine g_iand (pc' := 31) dX9_trueFrom_30 rfl ?_
          refine g_ifne (pc' := 34) (tgt := 80) dX9_trueFrom_31 (by decide) rfl (fun h31 => ?_) (fun h31 => ?_)
          · refine g_inc5 (pc' := 83) rfl (by decide) (v := nI (i + 1)) (nI_1 _) dX9_trueFrom_80 rfl ?_
            refine g_goto (tgt := 16) dX9_trueFrom_83 (by decide) ?_
            have e : ordT w n f p u a i = nI 0 := if_neg (by first | exact fun q => h31 q.1 | exact fun q => absurd q.2 (Int32.not_le.mpr h47))
            have hL := ihL () trivial
            rw [sumN_s, e, add_n0] at hL
            exact hL
          · refine g_ald0 (pc' := 35) dX9_trueFrom_34 rfl ?_
            refine g_getR (pc' := 38) mg.s40 (by decide) fX9_67 mg.r40_33 dX9_trueFrom_35 rfl ?_
            refine g_bipush (pc' := 40) (v := nI 6) dX9_trueFrom_38 rfl (by decide) ?_
            refine g_ild5 (pc' := 42) dX9_trueFrom_40 rfl ?_
            refine g_imulN (pc' := 43) dX9_trueFrom_42 rfl ?_
            refine g_ild1 (pc' := 44) dX9_trueFrom_43 rfl ?_
            refine g_iaddN (pc' := 45) dX9_trueFrom_44 rfl ?_
            refine g_iald (pc' := 46) (j := 6 * i + p) mg.s83 rfl (by omega) (by decide) (v := w i p) (hw i p hi (by omega)) dX9_trueFrom_45 rfl ?_
            refine g_ild3 (pc' := 47) dX9_trueFrom_46 rfl ?_
            refine g_icmpgt (pc' := 50) (tgt := 80) dX9_trueFrom_47 (by decide) rfl (fun h47 => ?_) (fun h47 => ?_)
            · refine g_inc5 (pc' := 83) rfl (by decide) (v := nI (i + 1)) (nI_1 _) dX9_trueFrom_80 rfl ?_
              refine g_goto (tgt := 16) dX9_trueFrom_83 (by decide) ?_
              have e : ordT w n f p u a i = nI 0 := if_neg (by first | exact fun q => h31 q.1 | exact fun q => absurd q.2 (Int32.not_le.mpr h47))
              have hL := ihL () trivial
              rw [sumN_s, e, add_n0] at hL
              exact hL
            · refine g_ild4 (pc' := 52) dX9_trueFrom_50 rfl ?_
              refine g_ald0 (pc' := 53) dX9_trueFrom_52 rfl ?_
              refine g_ild1 (pc' := 54) dX9_trueFrom_53 rfl ?_
              refine g_iconst (pc' := 55) (v := nI 1) dX9_trueFrom_54 rfl (by decide) ?_
              refine g_iaddN (pc' := 56) dX9_trueFrom_55 rfl ?_
              refine g_ild2 (pc' := 57) dX9_trueFrom_56 rfl ?_
              refine g_iconst (pc' := 58) (v := nI 1) dX9_trueFrom_57 rfl (by decide) ?_
              refine g_ild5 (pc' := 60) dX9_trueFrom_58 rfl ?_
              refine g_ishl (pc' := 61) dX9_trueFrom_60 rfl ?_
              refine g_ior (pc' := 62) dX9_trueFrom_61 rfl ?_
              refine g_ald0 (pc' := 63) dX9_trueFrom_62 rfl ?_
              refine g_getR (pc' := 66) mg.s40 (by decide) fX9_67 mg.r40_33 dX9_trueFrom_63 rfl ?_
              refine g_bipush (pc' := 68) (v := nI 6) dX9_trueFrom_66 rfl (by decide) ?_
              refine g_ild5 (pc' := 70) dX9_trueFrom_68 rfl ?_
              refine g_imulN (pc' := 71) dX9_trueFrom_70 rfl ?_
              refine g_ild1 (pc' := 72) dX9_trueFrom_71 rfl ?_
              refine g_iaddN (pc' := 73) dX9_trueFrom_72 rfl ?_
              refine g_iald (pc' := 74) (j := 6 * i + p) mg.s83 rfl (by omega) (by decide) (v := w i p) (hw i p hi (by omega)) dX9_trueFrom_73 rfl ?_
              refine g_callV (pc' := 77) (ih (p + 1) (u ||| (nI 1 <<< (nI i &&& 31))) (w i p) (by omega)) mg.s40 (by decide) wX9_trueFrom lX9_295 rfl rfl (Nat.le_of_ble_eq_true rfl) ⟨by simp [rmd], by simp [rmd, mX9_trueFrom]; omega⟩ ⟨by simp [rmd], by simp [rmd]⟩ dX9_trueFrom_74 rfl (kIp ?_)
              refine g_iadd (pc' := 78) dX9_trueFrom_77 rfl ?_
              refine g_ist4 (pc' := 80) rfl (by decide) dX9_trueFrom_78 rfl ?_
              refine g_inc5 (pc' := 83) rfl (by decide) (v := nI (i + 1)) (nI_1 _) dX9_trueFrom_80 rfl ?_
              refine g_goto (tgt := 16) dX9_trueFrom_83 (by decide) ?_
              have e : ordT w n f p u a i = ordN w n f (p + 1) (u ||| (nI 1 <<< (nI i &&& 31))) (w i p) := if_pos ⟨h31, Int32.not_lt.mp h47⟩
              rw [← e]
              exact ihL () trivial
      · intro s hP
        refine g_ild5 (pc' := 18) dX9_trueFrom_16 rfl ?_
        refine g_ald0 (pc' := 19) dX9_trueFrom_18 rfl ?_
        refine g_getI (pc' := 22) mg.s40 (by decide) fX9_99 hn dX9_trueFrom_19 rfl ?_
        refine g_icmpgeN (pc' := 25) (by omega) (by omega) (tgt := 86) dX9_trueFrom_22 (by decide) rfl (fun h22 => ?_) (fun h22 => ?_)
        · refine g_ild4 (pc' := 88) dX9_trueFrom_86 rfl ?_
          refine g_iret rfl dX9_trueFrom_88 ?_
          exact eIp (ordN_s _ _ _ _ _ _).symm
        · exact absurd h22 (by omega)
    · exact absurd h5 (by omega)

def wtSm (B : Nat → Nat) (len : Nat) (wo : Int32) (n s : Nat) (p : Int32) : Int32 := wtX B len (seenV wo (nI 0) p n (nI 0) (nI 0) s)
theorem c_mIsSaid (l : Launch) {S : Shp} {I : MI} {L : ML} {R : MR} (mg : MG S R) {n : Nat} (hn : I (40, 0) 6 = nI n) (hN : n ≤ 12) {w : Nat} (hw : w < 11) {B : Nat → Nat} {len lj : Nat} (tl : TL B len lj I) : Ct l mX9_isSaid 48 0 0 [.inr (.inr (some (40, 0))), .inl (nI lj), .inl (nI w)] S I L R (PIm S L R (fun v J => v = bI (okN (fun p => wtSm B len (I (50, 0) (rkO (cnM I w) n p)) n (rkO (cnM I w) n p) (nI p)) n) ∧ Fr wgP I J)) := by
  refine Ct.of [some (.inr (.inr (some (40, 0)))), some (.inl (nI lj)), some (.inl (nI w)), none, none, none] (by decide) rfl (Nat.le_of_ble_eq_true rfl) ?_
  refine g_sipush (pc' := 3) (v := nI 9999) dX9_isSaid_0 rfl (by decide) ?_
  refine g_ist3 (pc' := 4) rfl (by decide) dX9_isSaid_3 rfl ?_
  refine g_iconst (pc' := 5) (v := nI 0) dX9_isSaid_4 rfl (by decide) ?_
  refine g_ist4 (pc' := 7) rfl (by decide) dX9_isSaid_5 rfl ?_
  obtain ⟨W, hW⟩ : ∃ W : Nat → Int32, W = (fun p => wtSm B len (I (50, 0) (rkO (cnM I w) n p)) n (rkO (cnM I w) n p) (nI p)) := ⟨_, rfl⟩
  rw [← hW]
  refine g_loop (σ := MI) (fun i (J : MI) => okN W i = true ∧ Fr wgP I J) (fun i J => [some (.inr (.inr (some (40, 0)))), some (.inl (nI lj)), some (.inl (nI w)), some (.inl (prevW W i)), some (.inl (nI i)), none]) (fun i J => J) n 0 I (by omega) ⟨rfl, Fr.rf⟩ ?_ ?_
  · intro i J hi hP ih
    have hnJ : J (40, 0) 6 = nI n := (hP.2 _ _ (by simp [wgP, woP])).trans hn
    refine g_ild4 (pc' := 9) dX9_isSaid_7 rfl ?_
    refine g_ald0 (pc' := 10) dX9_isSaid_9 rfl ?_
    refine g_getI (pc' := 13) mg.s40 (by decide) fX9_99 hnJ dX9_isSaid_10 rfl ?_
    refine g_icmpgeN (pc' := 16) (by omega) (by omega) (tgt := 52) dX9_isSaid_13 (by decide) rfl (fun h13 => ?_) (fun h13 => ?_)
    · exact absurd h13 (by omega)
    · have hro : rkO (cnM I w) n i < n := rkO_lt _ _ _ hi
      refine g_ald0 (pc' := 17) dX9_isSaid_16 rfl ?_
      refine g_ild1 (pc' := 18) dX9_isSaid_17 rfl ?_
      refine g_ald0 (pc' := 19) dX9_isSaid_18 rfl ?_
      refine g_ild2 (pc' := 20) dX9_isSaid_19 rfl ?_
      refine g_ild4 (pc' := 22) dX9_isSaid_20 rfl ?_
      refine g_callV (pc' := 25) (c_mSongAt l mg hnJ hN hw (f := cnM I w) (fun k hk => hP.2 _ _ (by simp [wgP, woP])) hi) mg.s40 (by decide) wX9_songAt lX9_209 rfl rfl (Nat.le_of_ble_eq_true rfl) ⟨Nat.le_of_ble_eq_true rfl, Nat.le_of_ble_eq_true rfl⟩ ⟨Nat.le_of_ble_eq_true rfl, Nat.le_of_ble_eq_true rfl⟩ dX9_isSaid_22 rfl (kIp ?_)
      refine g_iconst (pc' := 26) (v := nI 0) dX9_isSaid_25 rfl (by decide) ?_
      refine g_ild4 (pc' := 28) dX9_isSaid_26 rfl ?_
      refine g_iconst (pc' := 29) (v := nI 0) dX9_isSaid_28 rfl (by decide) ?_
      refine g_iconst (pc' := 30) (v := nI 0) dX9_isSaid_29 rfl (by decide) ?_
      refine g_callV (pc' := 33) (c_mWeighs l mg hnJ hN (tl.to (fun k => hP.2 _ _ (by simp [wgP, woP])) (fun k => hP.2 _ _ (by simp [wgP, woP]))) (s := rkO (cnM I w) n i) (by omega) (nI 0) (nI i) (nI 0) (nI 0)) mg.s40 (by decide) wX9_weighs lX9_200 rfl rfl (Nat.le_of_ble_eq_true rfl) ⟨Nat.le_of_ble_eq_true rfl, Nat.le_of_ble_eq_true rfl⟩ ⟨Nat.le_of_ble_eq_true rfl, Nat.le_of_ble_eq_true rfl⟩ dX9_isSaid_30 rfl (kI (fun v J2 hq => ?_))
      obtain ⟨hv0, hfr2⟩ := hq
      have hvW : v = W i := by rw [hv0, hW]; show wtX B len (seenV (J (50, 0) _) _ _ _ _ _ _) = _; rw [hP.2 (50, 0) _ (by simp [wgP, woP])]; rfl
      refine g_topi (v := W i) hvW ?_
      refine g_ist5 (pc' := 35) rfl (by decide) dX9_isSaid_33 rfl ?_
      refine g_ild5 (pc' := 37) dX9_isSaid_35 rfl ?_
      refine g_ild3 (pc' := 38) dX9_isSaid_37 rfl ?_
      refine g_icmple (pc' := 41) (tgt := 43) dX9_isSaid_38 (by decide) rfl (fun h38 => ?_) (fun h38 => ?_)
      · refine g_ild5 (pc' := 45) dX9_isSaid_43 rfl ?_
        refine g_ist3 (pc' := 46) rfl (by decide) dX9_isSaid_45 rfl ?_
        refine g_inc4 (pc' := 49) rfl (by decide) (v := nI (i + 1)) (nI_1 _) dX9_isSaid_46 rfl ?_
        refine g_goto (tgt := 7) dX9_isSaid_49 (by decide) ?_
        refine G.lsub [some (.inr (.inr (some (40, 0)))), some (.inl (nI lj)), some (.inl (nI w)), some (.inl (W i)), some (.inl (nI (i + 1))), none] (by intro j v; rcases j with _ | _ | _ | _ | _ | _ | j <;> simp) ?_
        have hI := ih J2 ⟨by simp only [okN]; rw [hP.1, decide_eq_true (by assumption)]; rfl, hP.2.tr hfr2⟩
        rw [prevW_s] at hI
        exact hI
      · refine g_iconst (pc' := 42) (v := nI 0) dX9_isSaid_41 rfl (by decide) ?_
        refine g_zret (ty := .boolean) rfl (by decide) dX9_isSaid_42 ?_
        exact eI ⟨by rw [okN_bad h38 hi]; rfl, hP.2.tr hfr2⟩
  · intro J hP
    have hnJ : J (40, 0) 6 = nI n := (hP.2 _ _ (by simp [wgP, woP])).trans hn
    refine g_ild4 (pc' := 9) dX9_isSaid_7 rfl ?_
    refine g_ald0 (pc' := 10) dX9_isSaid_9 rfl ?_
    refine g_getI (pc' := 13) mg.s40 (by decide) fX9_99 hnJ dX9_isSaid_10 rfl ?_
    refine g_icmpgeN (pc' := 16) (by omega) (by omega) (tgt := 52) dX9_isSaid_13 (by decide) rfl (fun h13 => ?_) (fun h13 => ?_)
    · refine g_iconst (pc' := 53) (v := nI 1) dX9_isSaid_52 rfl (by decide) ?_
      refine g_zret (ty := .boolean) rfl (by decide) dX9_isSaid_53 ?_
      exact eI ⟨by rw [hP.1]; rfl, hP.2⟩
    · exact absurd h13 (by omega)

theorem c_mSaidN (l : Launch) {S : Shp} {I : MI} {L : ML} {R : MR} (mg : MG S R) {c : Nat} (hc : I (40, 0) 9 = nI c) (hC : c ≤ 6) {x : Int32} (hx : inb x c = false) (y : Int32) : Ct l mX9_said 3 0 0 [.inr (.inr (some (40, 0))), .inl x, .inl y] S I L R (PIp S I L R (-1)) := by
  refine Ct.of [some (.inr (.inr (some (40, 0)))), some (.inl x), some (.inl y), none, none] (by decide) rfl (Nat.le_of_ble_eq_true rfl) ?_
  refine g_ald0 (pc' := 1) dX9_said_0 rfl ?_
  refine g_ild1 (pc' := 2) dX9_said_1 rfl ?_
  refine g_callV (pc' := 5) (c_misLaw l mg hc hC x) mg.s40 (by decide) wX9_isLaw lX9_177 rfl rfl (Nat.le_of_ble_eq_true rfl) ⟨Nat.le_of_ble_eq_true rfl, Nat.le_of_ble_eq_true rfl⟩ ⟨Nat.le_of_ble_eq_true rfl, Nat.le_of_ble_eq_true rfl⟩ dX9_said_2 rfl (kIp ?_)
  refine g_ifeqB (pc' := 8) (tgt := 21) dX9_said_5 (by decide) rfl (fun h5 => ?_) (fun h5 => (by first | exact absurd h5 (by rw [hx]; simp) | exact absurd (by rw [hx]; simp) h5))
  refine g_iconst (pc' := 22) (v := (-1)) dX9_said_21 rfl (by decide) ?_
  refine g_iret rfl dX9_said_22 ?_
  exact eIp rfl

theorem c_mSaidM (l : Launch) {S : Shp} {I : MI} {L : ML} {R : MR} (mg : MG S R) {c : Nat} (hc : I (40, 0) 9 = nI c) (hC : c ≤ 6) {lj : Nat} (hlj : lj < c) {m : Nat} (hm : I (40, 0) 18 = nI m) (hM : m ≤ 9) {x : Int32} (hx : inb x m = false) (hx1 : ¬ x = -1) : Ct l mX9_said 3 0 0 [.inr (.inr (some (40, 0))), .inl (nI lj), .inl x] S I L R (PIp S I L R (-1)) := by
  refine Ct.of [some (.inr (.inr (some (40, 0)))), some (.inl (nI lj)), some (.inl x), none, none] (by decide) rfl (Nat.le_of_ble_eq_true rfl) ?_
  refine g_ald0 (pc' := 1) dX9_said_0 rfl ?_
  refine g_ild1 (pc' := 2) dX9_said_1 rfl ?_
  refine g_callV (pc' := 5) (c_misLaw l mg hc hC (nI lj)) mg.s40 (by decide) wX9_isLaw lX9_177 rfl rfl (Nat.le_of_ble_eq_true rfl) ⟨Nat.le_of_ble_eq_true rfl, Nat.le_of_ble_eq_true rfl⟩ ⟨Nat.le_of_ble_eq_true rfl, Nat.le_of_ble_eq_true rfl⟩ dX9_said_2 rfl (kIp ?_)
  refine g_ifeqB (pc' := 8) (tgt := 21) dX9_said_5 (by decide) rfl (fun h5 => (by first | exact absurd h5 (by rw [inb_nI (by omega) (by omega)]; simp [hlj]) | exact absurd (by rw [inb_nI (by omega) (by omega)]; simp [hlj]) h5)) (fun h5 => ?_)
  refine g_ild2 (pc' := 9) dX9_said_8 rfl ?_
  refine g_iconst (pc' := 10) (v := (-1)) dX9_said_9 rfl (by decide) ?_
  refine g_icmpeq (pc' := 13) (tgt := 23) dX9_said_10 (by decide) rfl (fun h10 => (by first | exact absurd h10 hx1 | exact absurd hx1 h10)) (fun h10 => ?_)
  refine g_ald0 (pc' := 14) dX9_said_13 rfl ?_
  refine g_ild2 (pc' := 15) dX9_said_14 rfl ?_
  refine g_callV (pc' := 18) (c_misWorld l mg hm hM x) mg.s40 (by decide) wX9_isWorld lX9_186 rfl rfl (Nat.le_of_ble_eq_true rfl) ⟨Nat.le_of_ble_eq_true rfl, Nat.le_of_ble_eq_true rfl⟩ ⟨Nat.le_of_ble_eq_true rfl, Nat.le_of_ble_eq_true rfl⟩ dX9_said_15 rfl (kIp ?_)
  refine g_ifneB (pc' := 21) (tgt := 23) dX9_said_18 (by decide) rfl (fun h18 => (by first | exact absurd h18 (by rw [hx]; simp) | exact absurd (by rw [hx]; simp) h18)) (fun h18 => ?_)
  refine g_iconst (pc' := 22) (v := (-1)) dX9_said_21 rfl (by decide) ?_
  refine g_iret rfl dX9_said_22 ?_
  exact eIp rfl

theorem c_mSaidS (l : Launch) {S : Shp} {I : MI} {L : ML} {R : MR} (mg : MG S R) {n : Nat} (hn : I (40, 0) 6 = nI n) (hN : n ≤ 12) {c : Nat} (hc : I (40, 0) 9 = nI c) (hC : c ≤ 6) {m : Nat} (hm : I (40, 0) 18 = nI m) (hM : m ≤ 9) {w : Nat} (hwm : w < m) {B : Nat → Nat} {len lj : Nat} (tl : TL B len lj I) (hlj : lj < c) : Ct l mX9_said 49 0 0 [.inr (.inr (some (40, 0))), .inl (nI lj), .inl (nI w)] S I L R (PIm S L R (fun v J => v = bI (okN (fun p => wtSm B len (I (50, 0) (rkO (cnM I w) n p)) n (rkO (cnM I w) n p) (nI p)) n) ∧ Fr wgP I J)) := by
  refine Ct.of [some (.inr (.inr (some (40, 0)))), some (.inl (nI lj)), some (.inl (nI w)), none, none] (by decide) rfl (Nat.le_of_ble_eq_true rfl) ?_
  refine g_ald0 (pc' := 1) dX9_said_0 rfl ?_
  refine g_ild1 (pc' := 2) dX9_said_1 rfl ?_
  refine g_callV (pc' := 5) (c_misLaw l mg hc hC (nI lj)) mg.s40 (by decide) wX9_isLaw lX9_177 rfl rfl (Nat.le_of_ble_eq_true rfl) ⟨Nat.le_of_ble_eq_true rfl, Nat.le_of_ble_eq_true rfl⟩ ⟨Nat.le_of_ble_eq_true rfl, Nat.le_of_ble_eq_true rfl⟩ dX9_said_2 rfl (kIp ?_)
  refine g_ifeqB (pc' := 8) (tgt := 21) dX9_said_5 (by decide) rfl (fun h5 => (by first | exact absurd h5 (by rw [inb_nI (by omega) (by omega)]; simp [hlj]) | exact absurd (by rw [inb_nI (by omega) (by omega)]; simp [hlj]) h5)) (fun h5 => ?_)
  refine g_ild2 (pc' := 9) dX9_said_8 rfl ?_
  refine g_iconst (pc' := 10) (v := (-1)) dX9_said_9 rfl (by decide) ?_
  refine g_icmpeq (pc' := 13) (tgt := 23) dX9_said_10 (by decide) rfl (fun h10 => (by first | exact absurd h10 (nI_nm (by omega)) | exact absurd (nI_nm (by omega)) h10)) (fun h10 => ?_)
  refine g_ald0 (pc' := 14) dX9_said_13 rfl ?_
  refine g_ild2 (pc' := 15) dX9_said_14 rfl ?_
  refine g_callV (pc' := 18) (c_misWorld l mg hm hM (nI w)) mg.s40 (by decide) wX9_isWorld lX9_186 rfl rfl (Nat.le_of_ble_eq_true rfl) ⟨Nat.le_of_ble_eq_true rfl, Nat.le_of_ble_eq_true rfl⟩ ⟨Nat.le_of_ble_eq_true rfl, Nat.le_of_ble_eq_true rfl⟩ dX9_said_15 rfl (kIp ?_)
  refine g_ifneB (pc' := 21) (tgt := 23) dX9_said_18 (by decide) rfl (fun h18 => ?_) (fun h18 => (by first | exact absurd h18 (by rw [inb_nI (by omega) (by omega)]; simp [hwm]) | exact absurd (by rw [inb_nI (by omega) (by omega)]; simp [hwm]) h18))
  refine g_ild2 (pc' := 24) dX9_said_23 rfl ?_
  refine g_iconst (pc' := 25) (v := (-1)) dX9_said_24 rfl (by decide) ?_
  refine g_icmpeq (pc' := 28) (tgt := 43) dX9_said_25 (by decide) rfl (fun h25 => (by first | exact absurd h25 (nI_nm (by omega)) | exact absurd (nI_nm (by omega)) h25)) (fun h25 => ?_)
  refine g_ald0 (pc' := 29) dX9_said_28 rfl ?_
  refine g_ild1 (pc' := 30) dX9_said_29 rfl ?_
  refine g_ild2 (pc' := 31) dX9_said_30 rfl ?_
  refine g_callV (pc' := 34) (c_mIsSaid l mg hn hN (w := w) (by omega) tl) mg.s40 (by decide) wX9_isSaid lX9_299 rfl rfl (Nat.le_of_ble_eq_true rfl) ⟨Nat.le_of_ble_eq_true rfl, Nat.le_of_ble_eq_true rfl⟩ ⟨Nat.le_of_ble_eq_true rfl, Nat.le_of_ble_eq_true rfl⟩ dX9_said_31 rfl (kI (fun v J hq => ?_))
  refine g_topi (v := bI (okN (fun p => wtSm B len (I (50, 0) (rkO (cnM I w) n p)) n (rkO (cnM I w) n p) (nI p)) n)) hq.1 ?_
  refine g_ifeqB (pc' := 37) (tgt := 41) dX9_said_34 (by decide) rfl (fun h34 => ?_) (fun h34 => ?_)
  · refine g_iconst (pc' := 42) (v := nI 0) dX9_said_41 rfl (by decide) ?_
    refine g_iret rfl dX9_said_42 ?_
    exact eI ⟨by first | (rw [h34]; rfl), hq.2⟩
  · refine g_iconst (pc' := 38) (v := nI 1) dX9_said_37 rfl (by decide) ?_
    refine g_goto (tgt := 42) dX9_said_38 (by decide) ?_
    refine g_iret rfl dX9_said_42 ?_
    exact eI ⟨by first | (rw [h34]; rfl), hq.2⟩

theorem c_mSaidG (l : Launch) {S : Shp} {I : MI} {L : ML} {R : MR} (mg : MG S R) {n : Nat} (hn : I (40, 0) 6 = nI n) (hN : n ≤ 12) {c : Nat} (hc : I (40, 0) 9 = nI c) (hC : c ≤ 6) {lj : Nat} (hlj : lj < c) (hbig : 6 < n) : Ct l mX9_said 3 0 0 [.inr (.inr (some (40, 0))), .inl (nI lj), .inl (-1)] S I L R (PIp S I L R (-4)) := by
  refine Ct.of [some (.inr (.inr (some (40, 0)))), some (.inl (nI lj)), some (.inl (-1)), none, none] (by decide) rfl (Nat.le_of_ble_eq_true rfl) ?_
  refine g_ald0 (pc' := 1) dX9_said_0 rfl ?_
  refine g_ild1 (pc' := 2) dX9_said_1 rfl ?_
  refine g_callV (pc' := 5) (c_misLaw l mg hc hC (nI lj)) mg.s40 (by decide) wX9_isLaw lX9_177 rfl rfl (Nat.le_of_ble_eq_true rfl) ⟨Nat.le_of_ble_eq_true rfl, Nat.le_of_ble_eq_true rfl⟩ ⟨Nat.le_of_ble_eq_true rfl, Nat.le_of_ble_eq_true rfl⟩ dX9_said_2 rfl (kIp ?_)
  refine g_ifeqB (pc' := 8) (tgt := 21) dX9_said_5 (by decide) rfl (fun h5 => (by first | exact absurd h5 (by rw [inb_nI (by omega) (by omega)]; simp [hlj]) | exact absurd (by rw [inb_nI (by omega) (by omega)]; simp [hlj]) h5)) (fun h5 => ?_)
  refine g_ild2 (pc' := 9) dX9_said_8 rfl ?_
  refine g_iconst (pc' := 10) (v := (-1)) dX9_said_9 rfl (by decide) ?_
  refine g_icmpeq (pc' := 13) (tgt := 23) dX9_said_10 (by decide) rfl (fun h10 => ?_) (fun h10 => (by first | exact absurd h10 (rfl : (-1 : Int32) = -1) | exact absurd (rfl : (-1 : Int32) = -1) h10))
  refine g_ild2 (pc' := 24) dX9_said_23 rfl ?_
  refine g_iconst (pc' := 25) (v := (-1)) dX9_said_24 rfl (by decide) ?_
  refine g_icmpeq (pc' := 28) (tgt := 43) dX9_said_25 (by decide) rfl (fun h25 => ?_) (fun h25 => (by first | exact absurd h25 (rfl : (-1 : Int32) = -1) | exact absurd (rfl : (-1 : Int32) = -1) h25))
  refine g_ald0 (pc' := 44) dX9_said_43 rfl ?_
  refine g_getI (pc' := 47) mg.s40 (by decide) fX9_99 hn dX9_said_44 rfl ?_
  refine g_bipush (pc' := 49) (v := nI 6) dX9_said_47 rfl (by decide) ?_
  refine g_icmpleN (pc' := 52) (by omega) (by omega) (tgt := 55) dX9_said_49 (by decide) rfl (fun h49 => ?_) (fun h49 => ?_)
  · exact absurd h49 (by omega)
  · refine g_bipush (pc' := 54) (v := (-4)) dX9_said_52 rfl (by decide) ?_
    refine g_iret rfl dX9_said_54 ?_
    exact eIp rfl

def sfM (t : Tok) (i : Nat) : Prop := wgP t i ∨ t = (83, 0)
theorem c_mSaidO (l : Launch) {S : Shp} {I : MI} {L : ML} {R : MR} (mg : MG S R) {n : Nat} (hn : I (40, 0) 6 = nI n) (hN : n ≤ 12) {c : Nat} (hc : I (40, 0) 9 = nI c) (hC : c ≤ 6) {B : Nat → Nat} {len lj : Nat} (tl : TL B len lj I) (hlj : lj < c) (hn6 : n ≤ 6) : Ct l mX9_said 50 0 0 [.inr (.inr (some (40, 0))), .inl (nI lj), .inl (-1)] S I L R (PIm S L R (fun v J => v = ordN (fun s p => wtSm B len (I (50, 0) s) n s (nI p)) n n 0 (nI 0) (nI 9999) ∧ Fr sfM I J)) := by
  refine Ct.of [some (.inr (.inr (some (40, 0)))), some (.inl (nI lj)), some (.inl (-1)), none, none] (by decide) rfl (Nat.le_of_ble_eq_true rfl) ?_
  refine g_ald0 (pc' := 1) dX9_said_0 rfl ?_
  refine g_ild1 (pc' := 2) dX9_said_1 rfl ?_
  refine g_callV (pc' := 5) (c_misLaw l mg hc hC (nI lj)) mg.s40 (by decide) wX9_isLaw lX9_177 rfl rfl (Nat.le_of_ble_eq_true rfl) ⟨Nat.le_of_ble_eq_true rfl, Nat.le_of_ble_eq_true rfl⟩ ⟨Nat.le_of_ble_eq_true rfl, Nat.le_of_ble_eq_true rfl⟩ dX9_said_2 rfl (kIp ?_)
  refine g_ifeqB (pc' := 8) (tgt := 21) dX9_said_5 (by decide) rfl (fun h5 => (by first | exact absurd h5 (by rw [inb_nI (by omega) (by omega)]; simp [hlj]) | exact absurd (by rw [inb_nI (by omega) (by omega)]; simp [hlj]) h5)) (fun h5 => ?_)
  refine g_ild2 (pc' := 9) dX9_said_8 rfl ?_
  refine g_iconst (pc' := 10) (v := (-1)) dX9_said_9 rfl (by decide) ?_
  refine g_icmpeq (pc' := 13) (tgt := 23) dX9_said_10 (by decide) rfl (fun h10 => ?_) (fun h10 => (by first | exact absurd h10 (rfl : (-1 : Int32) = -1) | exact absurd (rfl : (-1 : Int32) = -1) h10))
  refine g_ild2 (pc' := 24) dX9_said_23 rfl ?_
  refine g_iconst (pc' := 25) (v := (-1)) dX9_said_24 rfl (by decide) ?_
  refine g_icmpeq (pc' := 28) (tgt := 43) dX9_said_25 (by decide) rfl (fun h25 => ?_) (fun h25 => (by first | exact absurd h25 (rfl : (-1 : Int32) = -1) | exact absurd (rfl : (-1 : Int32) = -1) h25))
  refine g_ald0 (pc' := 44) dX9_said_43 rfl ?_
  refine g_getI (pc' := 47) mg.s40 (by decide) fX9_99 hn dX9_said_44 rfl ?_
  refine g_bipush (pc' := 49) (v := nI 6) dX9_said_47 rfl (by decide) ?_
  refine g_icmpleN (pc' := 52) (by omega) (by omega) (tgt := 55) dX9_said_49 (by decide) rfl (fun h49 => ?_) (fun h49 => ?_)
  · refine g_iconst (pc' := 56) (v := nI 0) dX9_said_55 rfl (by decide) ?_
    refine g_ist3 (pc' := 57) rfl (by decide) dX9_said_56 rfl ?_
    refine G.lsub [some (.inr (.inr (some (40, 0)))), some (.inl (nI lj)), some (.inl (-1)), some (.inl (nI 0)), none] (by intro j v; rcases j with _ | _ | _ | _ | _ | j <;> simp) ?_
    refine g_loop (σ := MI) (fun i (J : MI) => Fr sfM I J ∧ ∀ s p, s < i → p < n → J (83, 0) (6 * s + p) = wtSm B len (I (50, 0) s) n s (nI p)) (fun i J => [some (.inr (.inr (some (40, 0)))), some (.inl (nI lj)), some (.inl (-1)), some (.inl (nI i)), none]) (fun i J => J) n 0 I (by omega) ⟨Fr.rf, fun s p hs hp => absurd hs (by omega)⟩ ?_ ?_
    · intro i J hi hP ih
      have hn2 : J (40, 0) 6 = nI n := (hP.1 _ _ (by simp [sfM, wgP, woP])).trans hn
      refine g_ild3 (pc' := 58) dX9_said_57 rfl ?_
      refine g_ald0 (pc' := 59) dX9_said_58 rfl ?_
      refine g_getI (pc' := 62) mg.s40 (by decide) fX9_99 hn2 dX9_said_59 rfl ?_
      refine g_icmpgeN (pc' := 65) (by omega) (by omega) (tgt := 112) dX9_said_62 (by decide) rfl (fun h62 => ?_) (fun h62 => ?_)
      · exact absurd h62 (by omega)
      · refine g_iconst (pc' := 66) (v := nI 0) dX9_said_65 rfl (by decide) ?_
        refine g_ist4 (pc' := 68) rfl (by decide) dX9_said_66 rfl ?_
        refine g_loop (σ := MI) (fun k (J : MI) => Fr sfM I J ∧ ∀ s p, (s < i ∨ s = i ∧ p < k) → p < n → J (83, 0) (6 * s + p) = wtSm B len (I (50, 0) s) n s (nI p)) (fun k J => [some (.inr (.inr (some (40, 0)))), some (.inl (nI lj)), some (.inl (-1)), some (.inl (nI i)), some (.inl (nI k))]) (fun k J => J) n 0 J (by omega) ⟨hP.1, fun s p hs hp => hP.2 s p (by omega) hp⟩ ?_ ?_
        · intro k J hk hQ ihk
          have hn2 : J (40, 0) 6 = nI n := (hQ.1 _ _ (by simp [sfM, wgP, woP])).trans hn
          refine g_ild4 (pc' := 70) dX9_said_68 rfl ?_
          refine g_ald0 (pc' := 71) dX9_said_70 rfl ?_
          refine g_getI (pc' := 74) mg.s40 (by decide) fX9_99 hn2 dX9_said_71 rfl ?_
          refine g_icmpgeN (pc' := 77) (by omega) (by omega) (tgt := 106) dX9_said_74 (by decide) rfl (fun h74 => ?_) (fun h74 => ?_)
          · exact absurd h74 (by omega)
          · refine g_ald0 (pc' := 78) dX9_said_77 rfl ?_
            refine g_getR (pc' := 81) mg.s40 (by decide) fX9_67 mg.r40_33 dX9_said_78 rfl ?_
            refine g_bipush (pc' := 83) (v := nI 6) dX9_said_81 rfl (by decide) ?_
            refine g_ild3 (pc' := 84) dX9_said_83 rfl ?_
            refine g_imulN (pc' := 85) dX9_said_84 rfl ?_
            refine g_ild4 (pc' := 87) dX9_said_85 rfl ?_
            refine g_iaddN (pc' := 88) dX9_said_87 rfl ?_
            refine g_ald0 (pc' := 89) dX9_said_88 rfl ?_
            refine g_ild1 (pc' := 90) dX9_said_89 rfl ?_
            refine g_ild3 (pc' := 91) dX9_said_90 rfl ?_
            refine g_iconst (pc' := 92) (v := nI 0) dX9_said_91 rfl (by decide) ?_
            refine g_ild4 (pc' := 94) dX9_said_92 rfl ?_
            refine g_iconst (pc' := 95) (v := nI 0) dX9_said_94 rfl (by decide) ?_
            refine g_iconst (pc' := 96) (v := nI 0) dX9_said_95 rfl (by decide) ?_
            refine g_callV (pc' := 99) (c_mWeighs l mg hn2 hN (tl.to (fun i => hQ.1 _ _ (by simp [sfM, wgP, woP])) (fun i => hQ.1 _ _ (by simp [sfM, wgP, woP]))) (s := i) (by omega) (nI 0) (nI k) (nI 0) (nI 0)) mg.s40 (by decide) wX9_weighs lX9_200 rfl rfl (Nat.le_of_ble_eq_true rfl) ⟨Nat.le_of_ble_eq_true rfl, Nat.le_of_ble_eq_true rfl⟩ ⟨Nat.le_of_ble_eq_true rfl, Nat.le_of_ble_eq_true rfl⟩ dX9_said_96 rfl (kI (fun v J2 hq => ?_))
            obtain ⟨hv0, hfr2⟩ := hq
            refine g_topi (v := wtSm B len (I (50, 0) i) n i (nI k)) (by rw [hv0, hQ.1 (50, 0) _ (by simp [sfM, wgP, woP])]; rfl) ?_
            refine g_iast (pc' := 100) (j := 6 * i + k) mg.s83 rfl (by omega) (by decide) dX9_said_99 rfl ?_
            refine g_inc4 (pc' := 103) rfl (by decide) (v := nI (k + 1)) (nI_1 _) dX9_said_100 rfl ?_
            refine g_goto (tgt := 68) dX9_said_103 (by decide) ?_
            refine ihk _ ⟨(hQ.1.tr (hfr2.le (fun t i q => Or.inl q))).up (by simp [sfM]), fun s p hs hp => ?_⟩
            by_cases e : 6 * s + p = 6 * i + k
            · rw [e, upM_s, show s = i by omega, show p = k by omega]
            · rw [upM_k _ _ e, hfr2 _ _ (by simp [wgP, woP])]
              exact hQ.2 s p (by omega) hp
        · intro J hQ
          have hn2 : J (40, 0) 6 = nI n := (hQ.1 _ _ (by simp [sfM, wgP, woP])).trans hn
          refine g_ild4 (pc' := 70) dX9_said_68 rfl ?_
          refine g_ald0 (pc' := 71) dX9_said_70 rfl ?_
          refine g_getI (pc' := 74) mg.s40 (by decide) fX9_99 hn2 dX9_said_71 rfl ?_
          refine g_icmpgeN (pc' := 77) (by omega) (by omega) (tgt := 106) dX9_said_74 (by decide) rfl (fun h74 => ?_) (fun h74 => ?_)
          · refine g_inc3 (pc' := 109) rfl (by decide) (v := nI (i + 1)) (nI_1 _) dX9_said_106 rfl ?_
            refine g_goto (tgt := 57) dX9_said_109 (by decide) ?_
            refine G.lsub [some (.inr (.inr (some (40, 0)))), some (.inl (nI lj)), some (.inl (-1)), some (.inl (nI (i + 1))), none] (by intro j v; rcases j with _ | _ | _ | _ | _ | j <;> simp) ?_
            refine ih J ⟨hQ.1, fun s p hs hp => hQ.2 s p ?_ hp⟩
            omega
          · exact absurd h74 (by omega)
    · intro J hP
      have hn2 : J (40, 0) 6 = nI n := (hP.1 _ _ (by simp [sfM, wgP, woP])).trans hn
      refine g_ild3 (pc' := 58) dX9_said_57 rfl ?_
      refine g_ald0 (pc' := 59) dX9_said_58 rfl ?_
      refine g_getI (pc' := 62) mg.s40 (by decide) fX9_99 hn2 dX9_said_59 rfl ?_
      refine g_icmpgeN (pc' := 65) (by omega) (by omega) (tgt := 112) dX9_said_62 (by decide) rfl (fun h62 => ?_) (fun h62 => ?_)
      · refine g_ald0 (pc' := 113) dX9_said_112 rfl ?_
        refine g_iconst (pc' := 114) (v := nI 0) dX9_said_113 rfl (by decide) ?_
        refine g_iconst (pc' := 115) (v := nI 0) dX9_said_114 rfl (by decide) ?_
        refine g_sipush (pc' := 118) (v := nI 9999) dX9_said_115 rfl (by decide) ?_
        refine g_callV (pc' := 121) (c_mTrueFrom l (w := (fun s p => wtSm B len (I (50, 0) s) n s (nI p))) mg hn2 (by omega) (fun s p hs hp => hP.2 s p hs hp) n 0 (nI 0) (nI 9999) (by omega)) mg.s40 (by decide) wX9_trueFrom lX9_295 rfl rfl (Nat.le_of_ble_eq_true rfl) ⟨by simp [rmd]; omega, by simp [rmd, mX9_trueFrom]; omega⟩ ⟨by simp [rmd], by simp [rmd]⟩ dX9_said_118 rfl (kIp ?_)
        refine g_iret rfl dX9_said_121 ?_
        exact eI ⟨rfl, hP.1⟩
      · exact absurd h62 (by omega)
  · exact absurd h49 (by omega)
