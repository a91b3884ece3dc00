/-! the model: lines, against chance -/
def olP (t : Tok) (_ : Nat) : Prop := t = (84, 0)
theorem c_mLineBy (l : Launch) {S : Shp} {I : MI} {L : ML} {R : MR} (mg : MG S R) {n : Nat} (hn : I (40, 0) 6 = nI n) (hN : n ≤ 12) {w : Nat} (hw : w < 11) {f : Nat → Int32} (hf : ∀ o, o < n → I (50, 0) (23 + 12 * w + o) = f o) {g : Nat → Int32} (hg : ∀ s, s < n → I (84, 0) s = g s) : Ct l mX9_lineBy 3 0 0 [.inr (.inr (some (40, 0))), .inl (nI w)] S I L R (PIp S I L R (farI (fun s => nI (plc f n s)) g n)) := by
  refine Ct.of [some (.inr (.inr (some (40, 0)))), some (.inl (nI w)), none, none] (by decide) rfl (Nat.le_of_ble_eq_true rfl) ?_
  refine g_iconst (pc' := 1) (v := nI 0) dX9_lineBy_0 rfl (by decide) ?_
  refine g_ist2 (pc' := 2) rfl (by decide) dX9_lineBy_1 rfl ?_
  refine g_iconst (pc' := 3) (v := nI 0) dX9_lineBy_2 rfl (by decide) ?_
  refine g_ist3 (pc' := 4) rfl (by decide) dX9_lineBy_3 rfl ?_
  refine g_loop (σ := Unit) (fun _ _ => True) (fun i _ => [some (.inr (.inr (some (40, 0)))), some (.inl (nI w)), some (.inl (farI (fun s => nI (plc f n s)) g i)), some (.inl (nI i))]) (fun _ _ => I) n 0 () (by omega) trivial ?_ ?_
  · intro i _ hi hP ih
    refine g_ild3 (pc' := 5) dX9_lineBy_4 rfl ?_
    refine g_ald0 (pc' := 6) dX9_lineBy_5 rfl ?_
    refine g_getI (pc' := 9) mg.s40 (by decide) fX9_99 hn dX9_lineBy_6 rfl ?_
    refine g_icmpgeN (pc' := 12) (by omega) (by omega) (tgt := 37) dX9_lineBy_9 (by decide) rfl (fun h9 => ?_) (fun h9 => ?_)
    · exact absurd h9 (by omega)
    · refine g_ild2 (pc' := 13) dX9_lineBy_12 rfl ?_
      refine g_ald0 (pc' := 14) dX9_lineBy_13 rfl ?_
      refine g_ild1 (pc' := 15) dX9_lineBy_14 rfl ?_
      refine g_ild3 (pc' := 16) dX9_lineBy_15 rfl ?_
      refine g_callV (pc' := 19) (c_mPlace l mg hn hN (by omega) hf (s := i) hi) mg.s40 (by decide) wX9_place lX9_194 rfl rfl (Nat.le_of_ble_eq_true rfl) ⟨Nat.le_of_ble_eq_true rfl, Nat.le_of_ble_eq_true rfl⟩ ⟨Nat.le_of_ble_eq_true rfl, Nat.le_of_ble_eq_true rfl⟩ dX9_lineBy_16 rfl (kIp ?_)
      refine g_ald0 (pc' := 20) dX9_lineBy_19 rfl ?_
      refine g_getR (pc' := 23) mg.s40 (by decide) fX9_70 mg.r40_34 dX9_lineBy_20 rfl ?_
      refine g_ild3 (pc' := 24) dX9_lineBy_23 rfl ?_
      refine g_iald (pc' := 25) (j := i) mg.s84 rfl (by omega) (by decide) (v := g i) (hg i hi) dX9_lineBy_24 rfl ?_
      refine g_isub (pc' := 26) dX9_lineBy_25 rfl ?_
      refine g_callS (pc' := 29) (c_mSize l (nI (plc f n i) - g i)) wX9_size lX9_248 rfl rfl (Nat.le_of_ble_eq_true rfl) ⟨Nat.le_of_ble_eq_true rfl, Nat.le_of_ble_eq_true rfl⟩ ⟨Nat.le_of_ble_eq_true rfl, Nat.le_of_ble_eq_true rfl⟩ dX9_lineBy_26 rfl (kIp ?_)
      refine g_iadd (pc' := 30) dX9_lineBy_29 rfl ?_
      refine g_ist2 (pc' := 31) rfl (by decide) dX9_lineBy_30 rfl ?_
      refine g_inc3 (pc' := 34) rfl (by decide) (v := nI (i + 1)) (nI_1 _) dX9_lineBy_31 rfl ?_
      refine g_goto (tgt := 4) dX9_lineBy_34 (by decide) ?_
      exact ih () trivial
  · intro _ hP
    refine g_ild3 (pc' := 5) dX9_lineBy_4 rfl ?_
    refine g_ald0 (pc' := 6) dX9_lineBy_5 rfl ?_
    refine g_getI (pc' := 9) mg.s40 (by decide) fX9_99 hn dX9_lineBy_6 rfl ?_
    refine g_icmpgeN (pc' := 12) (by omega) (by omega) (tgt := 37) dX9_lineBy_9 (by decide) rfl (fun h9 => ?_) (fun h9 => ?_)
    · refine g_ild2 (pc' := 38) dX9_lineBy_37 rfl ?_
      refine g_iret rfl dX9_lineBy_38 ?_
      exact eIp rfl
    · exact absurd h9 (by omega)

theorem c_mLineOf (l : Launch) {S : Shp} {I : MI} {L : ML} {R : MR} (mg : MG S R) {n : Nat} (hn : I (40, 0) 6 = nI n) (hN : n ≤ 12) {j1 j2 : Nat} (hj1 : j1 < 11) (hj2 : j2 < 11) {x : Int32} (e1 : x / nI 10 = nI j1) (e2 : x - x / nI 10 * nI 10 = nI j2) {f g : Nat → Int32} (hf : ∀ o, o < n → I (50, 0) (23 + 12 * j1 + o) = f o) (hg : ∀ o, o < n → I (50, 0) (23 + 12 * j2 + o) = g o) : Ct l mX9_lineOf 4 0 0 [.inr (.inr (some (40, 0))), .inl x] S I L R (PIm S L R (fun v J => v = farI (fun s => nI (plc f n s)) (fun s => nI (plc g n s)) n ∧ Fr olP I J ∧ ∀ s, s < n → J (84, 0) s = nI (plc g n s))) := by
  refine Ct.of [some (.inr (.inr (some (40, 0)))), some (.inl x), none] (by decide) rfl (Nat.le_of_ble_eq_true rfl) ?_
  refine g_iconst (pc' := 1) (v := nI 0) dX9_lineOf_0 rfl (by decide) ?_
  refine g_ist2 (pc' := 2) rfl (by decide) dX9_lineOf_1 rfl ?_
  refine g_loop (σ := MI) (fun i (J : MI) => Fr olP I J ∧ ∀ s, s < i → J (84, 0) s = nI (plc g n s)) (fun i J => [some (.inr (.inr (some (40, 0)))), some (.inl x), some (.inl (nI i))]) (fun i J => J) n 0 I (by omega) ⟨Fr.rf, fun s hs => absurd hs (by omega)⟩ ?_ ?_
  · intro i J hi hP ih
    have hnJ : J (40, 0) 6 = nI n := (hP.1 _ _ (by simp [olP])).trans hn
    have hgJ : ∀ o, o < n → J (50, 0) (23 + 12 * j2 + o) = g o := fun o ho => (hP.1 _ _ (by simp [olP])).trans (hg o ho)
    refine g_ild2 (pc' := 3) dX9_lineOf_2 rfl ?_
    refine g_ald0 (pc' := 4) dX9_lineOf_3 rfl ?_
    refine g_getI (pc' := 7) mg.s40 (by decide) fX9_99 hnJ dX9_lineOf_4 rfl ?_
    refine g_icmpgeN (pc' := 10) (by omega) (by omega) (tgt := 31) dX9_lineOf_7 (by decide) rfl (fun h7 => ?_) (fun h7 => ?_)
    · exact absurd h7 (by omega)
    · refine g_ald0 (pc' := 11) dX9_lineOf_10 rfl ?_
      refine g_getR (pc' := 14) mg.s40 (by decide) fX9_70 mg.r40_34 dX9_lineOf_11 rfl ?_
      refine g_ild2 (pc' := 15) dX9_lineOf_14 rfl ?_
      refine g_ald0 (pc' := 16) dX9_lineOf_15 rfl ?_
      refine g_ild1 (pc' := 17) dX9_lineOf_16 rfl ?_
      refine g_bipush (pc' := 19) (v := nI 10) dX9_lineOf_17 rfl (by decide) ?_
      refine g_irem (pc' := 20) dX9_lineOf_19 rfl (by decide) ?_
      refine g_topi (v := nI j2) (e2) ?_
      refine g_ild2 (pc' := 21) dX9_lineOf_20 rfl ?_
      refine g_callV (pc' := 24) (c_mPlace l mg hnJ hN hj2 hgJ (s := i) hi) mg.s40 (by decide) wX9_place lX9_194 rfl rfl (Nat.le_of_ble_eq_true rfl) ⟨Nat.le_of_ble_eq_true rfl, Nat.le_of_ble_eq_true rfl⟩ ⟨Nat.le_of_ble_eq_true rfl, Nat.le_of_ble_eq_true rfl⟩ dX9_lineOf_21 rfl (kIp ?_)
      refine g_iast (pc' := 25) (j := i) mg.s84 rfl (by omega) (by decide) dX9_lineOf_24 rfl ?_
      refine g_inc2 (pc' := 28) rfl (by decide) (v := nI (i + 1)) (nI_1 _) dX9_lineOf_25 rfl ?_
      refine g_goto (tgt := 2) dX9_lineOf_28 (by decide) ?_
      refine ih _ ⟨hP.1.up (by simp [olP]), fun s hs => ?_⟩
      by_cases e : s = i
      · rw [e, upM_s]
      · rw [upM_k _ _ e]; exact hP.2 s (by omega)
  · intro J hP
    have hnJ : J (40, 0) 6 = nI n := (hP.1 _ _ (by simp [olP])).trans hn
    have hgJ : ∀ o, o < n → J (50, 0) (23 + 12 * j2 + o) = g o := fun o ho => (hP.1 _ _ (by simp [olP])).trans (hg o ho)
    refine g_ild2 (pc' := 3) dX9_lineOf_2 rfl ?_
    refine g_ald0 (pc' := 4) dX9_lineOf_3 rfl ?_
    refine g_getI (pc' := 7) mg.s40 (by decide) fX9_99 hnJ dX9_lineOf_4 rfl ?_
    refine g_icmpgeN (pc' := 10) (by omega) (by omega) (tgt := 31) dX9_lineOf_7 (by decide) rfl (fun h7 => ?_) (fun h7 => ?_)
    · refine g_ald0 (pc' := 32) dX9_lineOf_31 rfl ?_
      refine g_ild1 (pc' := 33) dX9_lineOf_32 rfl ?_
      refine g_bipush (pc' := 35) (v := nI 10) dX9_lineOf_33 rfl (by decide) ?_
      refine g_idiv (pc' := 36) dX9_lineOf_35 rfl (by decide) ?_
      refine g_topi (v := nI j1) (e1) ?_
      refine g_callV (pc' := 39) (c_mLineBy l mg hnJ hN hj1 (fun o ho => (hP.1 _ _ (by simp [olP])).trans (hf o ho)) hP.2) mg.s40 (by decide) wX9_lineBy lX9_308 rfl rfl (Nat.le_of_ble_eq_true rfl) ⟨Nat.le_of_ble_eq_true rfl, Nat.le_of_ble_eq_true rfl⟩ ⟨Nat.le_of_ble_eq_true rfl, Nat.le_of_ble_eq_true rfl⟩ dX9_lineOf_36 rfl (kIp ?_)
      refine g_iret rfl dX9_lineOf_39 ?_
      exact eI ⟨rfl, hP⟩
    · exact absurd h7 (by omega)

theorem c_mLineB (l : Launch) {S : Shp} {I : MI} {L : ML} {R : MR} (mg : MG S R) {m : Nat} (hm : I (40, 0) 18 = nI m) (hM : m ≤ 9) {x : Int32} (hb : x < 0 ∨ inb (x / nI 10) m = false ∨ inb (x - x / nI 10 * nI 10) m = false ∨ x / nI 10 = x - x / nI 10 * nI 10) : Ct l mX9_line 5 0 0 [.inr (.inr (some (40, 0))), .inl x] S I L R (PIp S I L R (-1)) := by
  refine Ct.of [some (.inr (.inr (some (40, 0)))), some (.inl x)] (by decide) rfl (Nat.le_of_ble_eq_true rfl) ?_
  refine g_ald0 (pc' := 1) dX9_line_0 rfl ?_
  refine g_ild1 (pc' := 2) dX9_line_1 rfl ?_
  refine g_callV (pc' := 5) (c_mTwoB l mg hm hM hb) mg.s40 (by decide) wX9_areTwo lX9_251 rfl rfl (Nat.le_of_ble_eq_true rfl) ⟨Nat.le_of_ble_eq_true rfl, Nat.le_of_ble_eq_true rfl⟩ ⟨Nat.le_of_ble_eq_true rfl, Nat.le_of_ble_eq_true rfl⟩ dX9_line_2 rfl (kIp ?_)
  refine g_ifeqB (pc' := 8) (tgt := 16) dX9_line_5 (by decide) rfl (fun h5 => ?_) (fun h5 => (by first | exact absurd h5 (by simp) | exact absurd (by simp) h5))
  refine g_iconst (pc' := 17) (v := (-1)) dX9_line_16 rfl (by decide) ?_
  refine g_iret rfl dX9_line_17 ?_
  exact eIp rfl

theorem c_mLineS (l : Launch) {S : Shp} {I : MI} {L : ML} {R : MR} (mg : MG S R) {n : Nat} (hn : I (40, 0) 6 = nI n) (hN : n ≤ 12) {m : Nat} (hm : I (40, 0) 18 = nI m) (hM : m ≤ 9) {x : Int32} {j1 : Nat} (e1 : x / nI 10 = nI j1) (hj1 : j1 < m) {j2 : Nat} (e2 : x - x / nI 10 * nI 10 = nI j2) (hj2 : j2 < m) (hne : ¬ j1 = j2) {f g : Nat → Int32} (hf : ∀ o, o < n → I (50, 0) (23 + 12 * j1 + o) = f o) (hg : ∀ o, o < n → I (50, 0) (23 + 12 * j2 + o) = g o) : Ct l mX9_line 5 0 0 [.inr (.inr (some (40, 0))), .inl x] S I L R (PIm S L R (fun v J => v = farI (fun s => nI (plc f n s)) (fun s => nI (plc g n s)) n ∧ Fr olP I J)) := by
  refine Ct.of [some (.inr (.inr (some (40, 0)))), some (.inl x)] (by decide) rfl (Nat.le_of_ble_eq_true rfl) ?_
  refine g_ald0 (pc' := 1) dX9_line_0 rfl ?_
  refine g_ild1 (pc' := 2) dX9_line_1 rfl ?_
  refine g_callV (pc' := 5) (c_mTwoS l mg hm hM e1 hj1 e2 hj2 hne) mg.s40 (by decide) wX9_areTwo lX9_251 rfl rfl (Nat.le_of_ble_eq_true rfl) ⟨Nat.le_of_ble_eq_true rfl, Nat.le_of_ble_eq_true rfl⟩ ⟨Nat.le_of_ble_eq_true rfl, Nat.le_of_ble_eq_true rfl⟩ dX9_line_2 rfl (kIp ?_)
  refine g_ifeqB (pc' := 8) (tgt := 16) dX9_line_5 (by decide) rfl (fun h5 => (by first | exact absurd h5 (by simp) | exact absurd (by simp) h5)) (fun h5 => ?_)
  refine g_ald0 (pc' := 9) dX9_line_8 rfl ?_
  refine g_ild1 (pc' := 10) dX9_line_9 rfl ?_
  refine g_callV (pc' := 13) (c_mLineOf l mg hn hN (by omega) (by omega) e1 e2 hf hg) mg.s40 (by decide) wX9_lineOf lX9_311 rfl rfl (Nat.le_of_ble_eq_true rfl) ⟨Nat.le_of_ble_eq_true rfl, Nat.le_of_ble_eq_true rfl⟩ ⟨Nat.le_of_ble_eq_true rfl, Nat.le_of_ble_eq_true rfl⟩ dX9_line_10 rfl (kI (fun v J hq => ?_))
  refine g_goto (tgt := 17) dX9_line_13 (by decide) ?_
  refine g_iret rfl dX9_line_17 ?_
  exact eI ⟨hq.1, hq.2.1⟩

theorem c_mAgainstB (l : Launch) {S : Shp} {I : MI} {L : ML} {R : MR} (mg : MG S R) {m : Nat} (hm : I (40, 0) 18 = nI m) (hM : m ≤ 9) {x : Int32} (hb : x < 0 ∨ inb (x / nI 10) m = false ∨ inb (x - x / nI 10 * nI 10) m = false ∨ x / nI 10 = x - x / nI 10 * nI 10) (y z : Int32) : Ct l mX9_against 5 0 0 [.inr (.inr (some (40, 0))), .inl x, .inl y, .inl z] S I L R (PIp S I L R (-1)) := by
  refine Ct.of [some (.inr (.inr (some (40, 0)))), some (.inl x), some (.inl y), some (.inl z), none, none, none, none, none, none, none] (by decide) rfl (Nat.le_of_ble_eq_true rfl) ?_
  refine g_ald0 (pc' := 1) dX9_against_0 rfl ?_
  refine g_ild1 (pc' := 2) dX9_against_1 rfl ?_
  refine g_callV (pc' := 5) (c_mTwoB l mg hm hM hb) mg.s40 (by decide) wX9_areTwo lX9_251 rfl rfl (Nat.le_of_ble_eq_true rfl) ⟨Nat.le_of_ble_eq_true rfl, Nat.le_of_ble_eq_true rfl⟩ ⟨Nat.le_of_ble_eq_true rfl, Nat.le_of_ble_eq_true rfl⟩ dX9_against_2 rfl (kIp ?_)
  refine g_ifeqB (pc' := 8) (tgt := 20) dX9_against_5 (by decide) rfl (fun h5 => ?_) (fun h5 => (by first | exact absurd h5 (by simp) | exact absurd (by simp) h5))
  refine g_iconst (pc' := 21) (v := (-1)) dX9_against_20 rfl (by decide) ?_
  refine g_iret rfl dX9_against_21 ?_
  exact eIp rfl

theorem c_mAgainstZ (l : Launch) {S : Shp} {I : MI} {L : ML} {R : MR} (mg : MG S R) {m : Nat} (hm : I (40, 0) 18 = nI m) (hM : m ≤ 9) {x : Int32} {j1 : Nat} (e1 : x / nI 10 = nI j1) (hj1 : j1 < m) {j2 : Nat} (e2 : x - x / nI 10 * nI 10 = nI j2) (hj2 : j2 < m) (hne : ¬ j1 = j2) (y : Int32) {z : Int32} (hb : z < nI 1 ∨ nI 50 < z) : Ct l mX9_against 5 0 0 [.inr (.inr (some (40, 0))), .inl x, .inl y, .inl z] S I L R (PIp S I L R (-1)) := by
  refine Ct.of [some (.inr (.inr (some (40, 0)))), some (.inl x), some (.inl y), some (.inl z), none, none, none, none, none, none, none] (by decide) rfl (Nat.le_of_ble_eq_true rfl) ?_
  refine g_ald0 (pc' := 1) dX9_against_0 rfl ?_
  refine g_ild1 (pc' := 2) dX9_against_1 rfl ?_
  refine g_callV (pc' := 5) (c_mTwoS l mg hm hM e1 hj1 e2 hj2 hne) mg.s40 (by decide) wX9_areTwo lX9_251 rfl rfl (Nat.le_of_ble_eq_true rfl) ⟨Nat.le_of_ble_eq_true rfl, Nat.le_of_ble_eq_true rfl⟩ ⟨Nat.le_of_ble_eq_true rfl, Nat.le_of_ble_eq_true rfl⟩ dX9_against_2 rfl (kIp ?_)
  refine g_ifeqB (pc' := 8) (tgt := 20) dX9_against_5 (by decide) rfl (fun h5 => (by first | exact absurd h5 (by simp) | exact absurd (by simp) h5)) (fun h5 => ?_)
  refine g_ild3 (pc' := 9) dX9_against_8 rfl ?_
  refine g_i2l (pc' := 10) dX9_against_9 rfl ?_
  refine g_lconst (pc' := 11) (v := 1) dX9_against_10 rfl (by decide) ?_
  refine g_ldc2 (pc' := 14) dX9_against_11 rfl kX9_314 ?_
  refine g_callS (pc' := 17) (c_mWI l z (nI 1) (nI 50) (A := 1) (B := 50) (by decide) (by decide)) wX9_within lX9_102 rfl rfl (Nat.le_of_ble_eq_true rfl) ⟨Nat.le_of_ble_eq_true rfl, Nat.le_of_ble_eq_true rfl⟩ ⟨Nat.le_of_ble_eq_true rfl, Nat.le_of_ble_eq_true rfl⟩ dX9_against_14 rfl (kIp ?_)
  refine g_ifneB (pc' := 20) (tgt := 22) dX9_against_17 (by decide) rfl (fun h17 => (by first | exact absurd h17 (wi_no hb) | exact absurd (wi_no hb) h17)) (fun h17 => ?_)
  refine g_iconst (pc' := 21) (v := (-1)) dX9_against_20 rfl (by decide) ?_
  refine g_iret rfl dX9_against_21 ?_
  exact eIp rfl

theorem c_mAgainstS (l : Launch) {S : Shp} {I : MI} {L : ML} {R : MR} (mg : MG S R) {n : Nat} (hn : I (40, 0) 6 = nI n) (hN : n ≤ 12) {m : Nat} (hm : I (40, 0) 18 = nI m) (hM : m ≤ 9) {x : Int32} {j1 : Nat} (e1 : x / nI 10 = nI j1) (hj1 : j1 < m) {j2 : Nat} (e2 : x - x / nI 10 * nI 10 = nI j2) (hj2 : j2 < m) (hne : ¬ j1 = j2) {f g : Nat → Int32} (hf : ∀ o, o < n → I (50, 0) (23 + 12 * j1 + o) = f o) (hg : ∀ o, o < n → I (50, 0) (23 + 12 * j2 + o) = g o) (y : Int32) {a : Nat} (ha : 1 ≤ a ∧ a ≤ 50) : Ct l mX9_against 5 0 0 [.inr (.inr (some (40, 0))), .inl x, .inl y, .inl (nI a)] S I L R (PIm S L R (fun v J => (∃ F0 : Nat → Int32, (∀ s, s < n → F0 s = nI (plc g n s)) ∧ v = nI (agC drawnI n (fun s => nI (plc f n s)) (farI (fun s => nI (plc f n s)) (fun s => nI (plc g n s)) n) (F0, y) a)) ∧ Fr olP I J)) := by
  refine Ct.of [some (.inr (.inr (some (40, 0)))), some (.inl x), some (.inl y), some (.inl (nI a)), none, none, none, none, none, none, none] (by decide) rfl (Nat.le_of_ble_eq_true rfl) ?_
  refine g_ald0 (pc' := 1) dX9_against_0 rfl ?_
  refine g_ild1 (pc' := 2) dX9_against_1 rfl ?_
  refine g_callV (pc' := 5) (c_mTwoS l mg hm hM e1 hj1 e2 hj2 hne) mg.s40 (by decide) wX9_areTwo lX9_251 rfl rfl (Nat.le_of_ble_eq_true rfl) ⟨Nat.le_of_ble_eq_true rfl, Nat.le_of_ble_eq_true rfl⟩ ⟨Nat.le_of_ble_eq_true rfl, Nat.le_of_ble_eq_true rfl⟩ dX9_against_2 rfl (kIp ?_)
  refine g_ifeqB (pc' := 8) (tgt := 20) dX9_against_5 (by decide) rfl (fun h5 => (by first | exact absurd h5 (by simp) | exact absurd (by simp) h5)) (fun h5 => ?_)
  refine g_ild3 (pc' := 9) dX9_against_8 rfl ?_
  refine g_i2l (pc' := 10) dX9_against_9 rfl ?_
  refine g_lconst (pc' := 11) (v := 1) dX9_against_10 rfl (by decide) ?_
  refine g_ldc2 (pc' := 14) dX9_against_11 rfl kX9_314 ?_
  refine g_callS (pc' := 17) (c_mWI l (nI a) (nI 1) (nI 50) (A := 1) (B := 50) (by decide) (by decide)) wX9_within lX9_102 rfl rfl (Nat.le_of_ble_eq_true rfl) ⟨Nat.le_of_ble_eq_true rfl, Nat.le_of_ble_eq_true rfl⟩ ⟨Nat.le_of_ble_eq_true rfl, Nat.le_of_ble_eq_true rfl⟩ dX9_against_14 rfl (kIp ?_)
  refine g_ifneB (pc' := 20) (tgt := 22) dX9_against_17 (by decide) rfl (fun h17 => ?_) (fun h17 => (by first | exact absurd h17 (wi_yesN (by omega) (by decide)) | exact absurd (wi_yesN (by omega) (by decide)) h17))
  refine g_ald0 (pc' := 23) dX9_against_22 rfl ?_
  refine g_ild1 (pc' := 24) dX9_against_23 rfl ?_
  refine g_callV (pc' := 27) (c_mLineOf l mg hn hN (by omega) (by omega) e1 e2 hf hg) mg.s40 (by decide) wX9_lineOf lX9_311 rfl rfl (Nat.le_of_ble_eq_true rfl) ⟨Nat.le_of_ble_eq_true rfl, Nat.le_of_ble_eq_true rfl⟩ ⟨Nat.le_of_ble_eq_true rfl, Nat.le_of_ble_eq_true rfl⟩ dX9_against_24 rfl (kI (fun v J2 hq => ?_))
  obtain ⟨hv, hfrL, hF0⟩ := hq
  rw [hv]
  have hnJ : J2 (40, 0) 6 = nI n := (hfrL _ _ (by simp [olP])).trans hn
  have hfJ : ∀ o, o < n → J2 (50, 0) (23 + 12 * j1 + o) = f o := fun o ho => (hfrL _ _ (by simp [olP])).trans (hf o ho)
  obtain ⟨F0, hF⟩ : ∃ F, F = J2 (84, 0) := ⟨_, rfl⟩
  rw [← hF] at hF0
  have hM0 : J2 = upT J2 (84, 0) F0 := by rw [hF, upT_self]
  refine g_ist4 (pc' := 29) rfl (by decide) dX9_against_27 rfl ?_
  refine g_ild2 (pc' := 30) dX9_against_29 rfl ?_
  refine g_ist5 (pc' := 32) rfl (by decide) dX9_against_30 rfl ?_
  refine g_iconst (pc' := 33) (v := nI 0) dX9_against_32 rfl (by decide) ?_
  refine g_ist6 (pc' := 35) rfl (by decide) dX9_against_33 rfl ?_
  refine g_iconst (pc' := 36) (v := nI 0) dX9_against_35 rfl (by decide) ?_
  refine g_ist7 (pc' := 38) rfl (by decide) dX9_against_36 rfl ?_
  refine g_mem hM0 ?_
  refine g_loop (σ := Unit) (fun _ _ => True) (fun t _ => [some (.inr (.inr (some (40, 0)))), some (.inl x), some (.inl y), some (.inl (nI a)), some (.inl (farI (fun s => nI (plc f n s)) (fun s => nI (plc g n s)) n)), some (.inl ((agS drawnI n (F0, y) t).2)), some (.inl (nI (agC drawnI n (fun s => nI (plc f n s)) (farI (fun s => nI (plc f n s)) (fun s => nI (plc g n s)) n) (F0, y) t))), some (.inl (nI t)), none, none, none]) (fun t _ => (upT J2 (84, 0) (agS drawnI n (F0, y) t).1)) a 0 () (by omega) trivial ?_ ?_
  · intro t _ hi hP ih
    have hcl : agC drawnI n (fun s => nI (plc f n s)) (farI (fun s => nI (plc f n s)) (fun s => nI (plc g n s)) n) (F0, y) t ≤ t := ctN_le _ t
    refine g_ild7 (pc' := 40) dX9_against_38 rfl ?_
    refine g_ild3 (pc' := 41) dX9_against_40 rfl ?_
    refine g_icmpgeN (pc' := 44) (by omega) (by omega) (tgt := 147) dX9_against_41 (by decide) rfl (fun h41 => ?_) (fun h41 => ?_)
    · exact absurd h41 (by omega)
    · refine g_ald0 (pc' := 45) dX9_against_44 rfl ?_
      refine g_getI (pc' := 48) mg.s40 (by decide) fX9_99 (v := nI n) (by rw [upT_n _ (by simp)]; exact hnJ) dX9_against_45 rfl ?_
      refine g_iconst (pc' := 49) (v := nI 1) dX9_against_48 rfl (by decide) ?_
      refine g_isub (pc' := 50) dX9_against_49 rfl ?_
      refine g_ist8 (pc' := 52) rfl (by decide) dX9_against_50 rfl ?_
      rcases Nat.eq_zero_or_pos n with h00 | h00
      · rw [show nI n - nI 1 = -1 from by rw [h00]; exact nI_m1']
        refine g_ild8 (pc' := 54) dX9_against_52 rfl ?_
        refine g_ifle (pc' := 57) (tgt := 118) dX9_against_54 (by decide) rfl (fun h54 => ?_) (fun h54 => (by first | exact absurd h54 (by decide : (-1 : Int32) ≤ 0) | exact absurd (by decide : (-1 : Int32) ≤ 0) h54))
        have hQ2 : (agS drawnI n (F0, y) t) = (agS drawnI n (F0, y) (t + 1)) := by rw [agS_s, show n - 1 = 0 by omega, shuG_0]
        rw [hQ2]
        refine G.lsub [some (.inr (.inr (some (40, 0)))), some (.inl x), some (.inl y), some (.inl (nI a)), some (.inl (farI (fun s => nI (plc f n s)) (fun s => nI (plc g n s)) n)), some (.inl ((agS drawnI n (F0, y) (t + 1)).2)), some (.inl (nI (agC drawnI n (fun s => nI (plc f n s)) (farI (fun s => nI (plc f n s)) (fun s => nI (plc g n s)) n) (F0, y) t))), some (.inl (nI t)), none, none, none] (by intro j v; rcases j with _ | _ | _ | _ | _ | _ | _ | _ | _ | _ | _ | j <;> simp) ?_
        refine g_ild6 (pc' := 120) dX9_against_118 rfl ?_
        refine g_ald0 (pc' := 121) dX9_against_120 rfl ?_
        refine g_ild1 (pc' := 122) dX9_against_121 rfl ?_
        refine g_bipush (pc' := 124) (v := nI 10) dX9_against_122 rfl (by decide) ?_
        refine g_idiv (pc' := 125) dX9_against_124 rfl (by decide) ?_
        refine g_topi (v := nI j1) (e1) ?_
        refine g_callV (pc' := 128) (c_mLineBy l mg (by rw [upT_n _ (by simp)]; exact hnJ) hN (by omega) (f := f) (fun o ho => by rw [upT_n _ (by simp)]; exact hfJ o ho) (g := (agS drawnI n (F0, y) (t + 1)).1) (fun s hs => by rw [upT_s])) mg.s40 (by decide) wX9_lineBy lX9_308 rfl rfl (Nat.le_of_ble_eq_true rfl) ⟨Nat.le_of_ble_eq_true rfl, Nat.le_of_ble_eq_true rfl⟩ ⟨Nat.le_of_ble_eq_true rfl, Nat.le_of_ble_eq_true rfl⟩ dX9_against_125 rfl (kIp ?_)
        refine g_ild4 (pc' := 130) dX9_against_128 rfl ?_
        refine g_icmpgt (pc' := 133) (tgt := 137) dX9_against_130 (by decide) rfl (fun h130 => ?_) (fun h130 => ?_)
        · refine g_iconst (pc' := 138) (v := nI 0) dX9_against_137 rfl (by decide) ?_
          refine g_iaddN (pc' := 139) dX9_against_138 rfl ?_
          refine g_ist6 (pc' := 141) rfl (by decide) dX9_against_139 rfl ?_
          refine g_inc7 (pc' := 144) rfl (by decide) (v := nI (t + 1)) (nI_1 _) dX9_against_141 rfl ?_
          refine g_goto (tgt := 38) dX9_against_144 (by decide) ?_
          refine G.lsub [some (.inr (.inr (some (40, 0)))), some (.inl x), some (.inl y), some (.inl (nI a)), some (.inl (farI (fun s => nI (plc f n s)) (fun s => nI (plc g n s)) n)), some (.inl ((agS drawnI n (F0, y) (t + 1)).2)), some (.inl (nI ((agC drawnI n (fun s => nI (plc f n s)) (farI (fun s => nI (plc f n s)) (fun s => nI (plc g n s)) n) (F0, y) t) + 0))), some (.inl (nI (t + 1))), none, none, none] (by intro j v; rcases j with _ | _ | _ | _ | _ | _ | _ | _ | _ | _ | _ | j <;> simp) ?_
          have hih := ih () trivial
          rw [agC_n (Int32.not_le.mpr h130)] at hih
          exact hih
        · refine g_iconst (pc' := 134) (v := nI 1) dX9_against_133 rfl (by decide) ?_
          refine g_goto (tgt := 138) dX9_against_134 (by decide) ?_
          refine g_iaddN (pc' := 139) dX9_against_138 rfl ?_
          refine g_ist6 (pc' := 141) rfl (by decide) dX9_against_139 rfl ?_
          refine g_inc7 (pc' := 144) rfl (by decide) (v := nI (t + 1)) (nI_1 _) dX9_against_141 rfl ?_
          refine g_goto (tgt := 38) dX9_against_144 (by decide) ?_
          refine G.lsub [some (.inr (.inr (some (40, 0)))), some (.inl x), some (.inl y), some (.inl (nI a)), some (.inl (farI (fun s => nI (plc f n s)) (fun s => nI (plc g n s)) n)), some (.inl ((agS drawnI n (F0, y) (t + 1)).2)), some (.inl (nI ((agC drawnI n (fun s => nI (plc f n s)) (farI (fun s => nI (plc f n s)) (fun s => nI (plc g n s)) n) (F0, y) t) + 1))), some (.inl (nI (t + 1))), none, none, none] (by intro j v; rcases j with _ | _ | _ | _ | _ | _ | _ | _ | _ | _ | _ | j <;> simp) ?_
          have hih := ih () trivial
          rw [agC_y (Int32.not_lt.mp h130)] at hih
          exact hih
      · rw [pk_sub (show 1 ≤ n by omega)]
        refine g_loopD (σ := (Nat → Int32) × Int32) (fun b s => b < 12 ∧ shuG drawnI b s.1 s.2 = shuG drawnI (n - 1) (agS drawnI n (F0, y) t).1 (agS drawnI n (F0, y) t).2) (fun b s => [some (.inr (.inr (some (40, 0)))), some (.inl x), some (.inl y), some (.inl (nI a)), some (.inl (farI (fun s => nI (plc f n s)) (fun s => nI (plc g n s)) n)), some (.inl s.2), some (.inl (nI (agC drawnI n (fun s => nI (plc f n s)) (farI (fun s => nI (plc f n s)) (fun s => nI (plc g n s)) n) (F0, y) t))), some (.inl (nI t)), some (.inl (nI b)), none, none]) (fun b s => upT J2 (84, 0) s.1) (n - 1) (agS drawnI n (F0, y) t) ⟨by omega, rfl⟩ ?_
        rintro b ⟨f2, z⟩ hQ ihD
        simp only at hQ ⊢
        cases b with
        | zero =>
          refine g_ild8 (pc' := 54) dX9_against_52 rfl ?_
          refine g_ifleN (pc' := 57) (by omega) (tgt := 118) dX9_against_54 (by decide) rfl (fun h54 => ?_) (fun h54 => ?_)
          · have hQ2 : (f2, z) = (agS drawnI n (F0, y) (t + 1)) := by rw [agS_s, ← hQ.2, shuG_0]
            rw [show f2 = (agS drawnI n (F0, y) (t + 1)).1 from congrArg Prod.fst hQ2, show z = (agS drawnI n (F0, y) (t + 1)).2 from congrArg Prod.snd hQ2]
            refine G.lsub [some (.inr (.inr (some (40, 0)))), some (.inl x), some (.inl y), some (.inl (nI a)), some (.inl (farI (fun s => nI (plc f n s)) (fun s => nI (plc g n s)) n)), some (.inl ((agS drawnI n (F0, y) (t + 1)).2)), some (.inl (nI (agC drawnI n (fun s => nI (plc f n s)) (farI (fun s => nI (plc f n s)) (fun s => nI (plc g n s)) n) (F0, y) t))), some (.inl (nI t)), none, none, none] (by intro j v; rcases j with _ | _ | _ | _ | _ | _ | _ | _ | _ | _ | _ | j <;> simp) ?_
            refine g_ild6 (pc' := 120) dX9_against_118 rfl ?_
            refine g_ald0 (pc' := 121) dX9_against_120 rfl ?_
            refine g_ild1 (pc' := 122) dX9_against_121 rfl ?_
            refine g_bipush (pc' := 124) (v := nI 10) dX9_against_122 rfl (by decide) ?_
            refine g_idiv (pc' := 125) dX9_against_124 rfl (by decide) ?_
            refine g_topi (v := nI j1) (e1) ?_
            refine g_callV (pc' := 128) (c_mLineBy l mg (by rw [upT_n _ (by simp)]; exact hnJ) hN (by omega) (f := f) (fun o ho => by rw [upT_n _ (by simp)]; exact hfJ o ho) (g := (agS drawnI n (F0, y) (t + 1)).1) (fun s hs => by rw [upT_s])) mg.s40 (by decide) wX9_lineBy lX9_308 rfl rfl (Nat.le_of_ble_eq_true rfl) ⟨Nat.le_of_ble_eq_true rfl, Nat.le_of_ble_eq_true rfl⟩ ⟨Nat.le_of_ble_eq_true rfl, Nat.le_of_ble_eq_true rfl⟩ dX9_against_125 rfl (kIp ?_)
            refine g_ild4 (pc' := 130) dX9_against_128 rfl ?_
            refine g_icmpgt (pc' := 133) (tgt := 137) dX9_against_130 (by decide) rfl (fun h130 => ?_) (fun h130 => ?_)
            · refine g_iconst (pc' := 138) (v := nI 0) dX9_against_137 rfl (by decide) ?_
              refine g_iaddN (pc' := 139) dX9_against_138 rfl ?_
              refine g_ist6 (pc' := 141) rfl (by decide) dX9_against_139 rfl ?_
              refine g_inc7 (pc' := 144) rfl (by decide) (v := nI (t + 1)) (nI_1 _) dX9_against_141 rfl ?_
              refine g_goto (tgt := 38) dX9_against_144 (by decide) ?_
              refine G.lsub [some (.inr (.inr (some (40, 0)))), some (.inl x), some (.inl y), some (.inl (nI a)), some (.inl (farI (fun s => nI (plc f n s)) (fun s => nI (plc g n s)) n)), some (.inl ((agS drawnI n (F0, y) (t + 1)).2)), some (.inl (nI ((agC drawnI n (fun s => nI (plc f n s)) (farI (fun s => nI (plc f n s)) (fun s => nI (plc g n s)) n) (F0, y) t) + 0))), some (.inl (nI (t + 1))), none, none, none] (by intro j v; rcases j with _ | _ | _ | _ | _ | _ | _ | _ | _ | _ | _ | j <;> simp) ?_
              have hih := ih () trivial
              rw [agC_n (Int32.not_le.mpr h130)] at hih
              exact hih
            · refine g_iconst (pc' := 134) (v := nI 1) dX9_against_133 rfl (by decide) ?_
              refine g_goto (tgt := 138) dX9_against_134 (by decide) ?_
              refine g_iaddN (pc' := 139) dX9_against_138 rfl ?_
              refine g_ist6 (pc' := 141) rfl (by decide) dX9_against_139 rfl ?_
              refine g_inc7 (pc' := 144) rfl (by decide) (v := nI (t + 1)) (nI_1 _) dX9_against_141 rfl ?_
              refine g_goto (tgt := 38) dX9_against_144 (by decide) ?_
              refine G.lsub [some (.inr (.inr (some (40, 0)))), some (.inl x), some (.inl y), some (.inl (nI a)), some (.inl (farI (fun s => nI (plc f n s)) (fun s => nI (plc g n s)) n)), some (.inl ((agS drawnI n (F0, y) (t + 1)).2)), some (.inl (nI ((agC drawnI n (fun s => nI (plc f n s)) (farI (fun s => nI (plc f n s)) (fun s => nI (plc g n s)) n) (F0, y) t) + 1))), some (.inl (nI (t + 1))), none, none, none] (by intro j v; rcases j with _ | _ | _ | _ | _ | _ | _ | _ | _ | _ | _ | j <;> simp) ?_
              have hih := ih () trivial
              rw [agC_y (Int32.not_lt.mp h130)] at hih
              exact hih
          · exact absurd h54 (by omega)
        | succ b =>
          have hb12 := hQ.1
          refine g_ild8 (pc' := 54) dX9_against_52 rfl ?_
          refine g_ifleN (pc' := 57) (by omega) (tgt := 118) dX9_against_54 (by decide) rfl (fun h54 => ?_) (fun h54 => ?_)
          · exact absurd h54 (by omega)
          · refine g_ild5 (pc' := 59) dX9_against_57 rfl ?_
            refine g_ldc (pc' := 61) dX9_against_59 rfl kX9_226 ?_
            refine g_imul (pc' := 62) dX9_against_61 rfl ?_
            refine g_sipush (pc' := 65) (v := nI 12345) dX9_against_62 rfl (by decide) ?_
            refine g_iadd (pc' := 66) dX9_against_65 rfl ?_
            refine g_topi (v := drawnI z) (rfl) ?_
            obtain ⟨z2, hz2⟩ : ∃ z2, z2 = drawnI z := ⟨_, rfl⟩
            rw [← hz2]
            have hzl := UInt32.toNat_lt z2.toUInt32
            have hjl : shJ z2 (b + 1) < b + 1 + 1 := shJ_lt z2 (b + 1)
            have hjm : nI (z2.toUInt32.toNat / 256 % (b + 1 + 1)) = nI (shJ z2 (b + 1)) := rfl
            have hs8 := shr8 z2
            refine g_ist5 (pc' := 68) rfl (by decide) dX9_against_66 rfl ?_
            refine g_ild5 (pc' := 70) dX9_against_68 rfl ?_
            refine g_bipush (pc' := 72) (v := nI 8) dX9_against_70 rfl (by decide) ?_
            refine g_iushr (pc' := 73) dX9_against_72 rfl ?_
            refine g_topi (v := nI (z2.toUInt32.toNat / 256)) (hs8) ?_
            refine g_ild8 (pc' := 75) dX9_against_73 rfl ?_
            refine g_iconst (pc' := 76) (v := nI 1) dX9_against_75 rfl (by decide) ?_
            refine g_iaddN (pc' := 77) dX9_against_76 rfl ?_
            refine g_iremN (pc' := 78) (by omega) dX9_against_77 rfl ?_
            refine g_topi (v := nI (shJ z2 (b + 1))) (hjm) ?_
            refine g_ist9 (pc' := 80) rfl (by decide) dX9_against_78 rfl ?_
            refine g_ald0 (pc' := 81) dX9_against_80 rfl ?_
            refine g_getR (pc' := 84) mg.s40 (by decide) fX9_70 mg.r40_34 dX9_against_81 rfl ?_
            refine g_ild8 (pc' := 86) dX9_against_84 rfl ?_
            refine g_iald (pc' := 87) (j := b + 1) mg.s84 rfl (by omega) (by decide) (v := f2 (b + 1)) (congrFun (upT_s _ _ _) _) dX9_against_86 rfl ?_
            refine g_ist10 (pc' := 89) rfl (by decide) dX9_against_87 rfl ?_
            refine g_ald0 (pc' := 90) dX9_against_89 rfl ?_
            refine g_getR (pc' := 93) mg.s40 (by decide) fX9_70 mg.r40_34 dX9_against_90 rfl ?_
            refine g_ild8 (pc' := 95) dX9_against_93 rfl ?_
            refine g_ald0 (pc' := 96) dX9_against_95 rfl ?_
            refine g_getR (pc' := 99) mg.s40 (by decide) fX9_70 mg.r40_34 dX9_against_96 rfl ?_
            refine g_ild9 (pc' := 101) dX9_against_99 rfl ?_
            refine g_iald (pc' := 102) (j := (shJ z2 (b + 1))) mg.s84 rfl (by omega) (by decide) (v := f2 (shJ z2 (b + 1))) (congrFun (upT_s _ _ _) _) dX9_against_101 rfl ?_
            refine g_iast (pc' := 103) (j := b + 1) mg.s84 rfl (by omega) (by decide) dX9_against_102 rfl ?_
            refine g_ald0 (pc' := 104) dX9_against_103 rfl ?_
            refine g_getR (pc' := 107) mg.s40 (by decide) fX9_70 mg.r40_34 dX9_against_104 rfl ?_
            refine g_ild9 (pc' := 109) dX9_against_107 rfl ?_
            refine g_ild10 (pc' := 111) dX9_against_109 rfl ?_
            refine g_iast (pc' := 112) (j := (shJ z2 (b + 1))) mg.s84 rfl (by omega) (by decide) dX9_against_111 rfl ?_
            refine g_inc8 (pc' := 115) rfl (by decide) (v := nI b) (by rw [show Int32.ofInt (-1) = -(nI 1) from by decide, ← Int32.sub_eq_add_neg]; exact pk_sub (by omega)) dX9_against_112 rfl ?_
            refine g_goto (tgt := 52) dX9_against_115 (by decide) ?_
            rw [sw_mem]
            refine G.lsub [some (.inr (.inr (some (40, 0)))), some (.inl x), some (.inl y), some (.inl (nI a)), some (.inl (farI (fun s => nI (plc f n s)) (fun s => nI (plc g n s)) n)), some (.inl z2), some (.inl (nI (agC drawnI n (fun s => nI (plc f n s)) (farI (fun s => nI (plc f n s)) (fun s => nI (plc g n s)) n) (F0, y) t))), some (.inl (nI t)), some (.inl (nI b)), none, none] (by intro j v; rcases j with _ | _ | _ | _ | _ | _ | _ | _ | _ | _ | _ | j <;> simp) ?_
            exact ihD b (swF f2 (b + 1) (shJ z2 (b + 1)), z2) (by omega) ⟨by omega, by rw [← hQ.2, shuG_s, ← hz2]⟩
  · intro _ hP
    refine g_ild7 (pc' := 40) dX9_against_38 rfl ?_
    refine g_ild3 (pc' := 41) dX9_against_40 rfl ?_
    refine g_icmpgeN (pc' := 44) (by omega) (by omega) (tgt := 147) dX9_against_41 (by decide) rfl (fun h41 => ?_) (fun h41 => ?_)
    · refine g_ild6 (pc' := 149) dX9_against_147 rfl ?_
      refine g_iret rfl dX9_against_149 ?_
      exact eI ⟨⟨F0, hF0, rfl⟩, hfrL.upT (by simp [olP])⟩
    · exact absurd h41 (by omega)
