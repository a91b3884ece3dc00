/-! Changes, Shelf, and what Acts are asked beside acts -/
theorem hasLM {x : Int32} {n M : Nat} (hN : n ≤ M) (hM : M < 2 ^ 31) {v : Int32} (h : v = if ¬ x < 0 ∧ ¬ nI n ≤ x ∧ ¬ nI M ≤ x then nI 1 else nI 0) : v = bI (inb x n) := by
  rw [h]
  simp only [Int32.not_lt, Int32.not_le]
  unfold bI inb
  by_cases h0 : 0 ≤ x
  · obtain ⟨j, hj, rfl⟩ := nI_of (Int32.not_lt.mpr h0)
    have e1 : nI j < nI n ↔ j < n := nI_ltI hj (by omega)
    have e2 : nI j < nI M ↔ j < M := nI_ltI hj (by omega)
    by_cases h1 : j < n
    · simp [h0, e1, e2, h1, show j < M by omega]
    · simp [e1, h1]
  · simp [h0]
def fg (t : Tok) (I : MI) : MI := upT I t (va_cpy (I t) (I t) 1 0 39)
def fgI (I : MI) : MI := upM (fg (22, 0) (fg (21, 0) (fg (20, 0) (fg (19, 0) I)))) (18, 0) 4 (nI 39)
def putI (I : MI) (d : Nat) (w s a b : Int32) : MI := upM (upM (upM (upM (upM (upM I (19, 0) d w) (20, 0) d s) (21, 0) d a) (22, 0) d b) (18, 0) 4 (nI (d + 1))) (18, 0) 5 (nI (d + 1))
def noteI (I : MI) (d : Nat) (w s a b : Int32) : MI := if a = b then I else if d < 40 then putI I d w s a b else putI (fgI I) 39 w s a b

theorem c_forget (l : Launch) {S : Shp} {I : MI} {L : ML} {R : MR} (hg : HG S R) : Ct l mX1_forgetFirst 2 0 0 [.inr (.inr (some (18, 0)))] S I L R (PVm S L R (fun J => J = fgI I)) := by
  refine Ct.of [some (.inr (.inr (some (18, 0))))] (by decide) rfl (Nat.le_of_ble_eq_true rfl) ?_
  refine g_ald0 (pc' := 1) dX1_forgetFirst_0 rfl ?_
  refine g_getR (pc' := 4) hg.s18 (by decide) fX1_9 hg.r18_0 dX1_forgetFirst_1 rfl ?_
  refine g_iconst (pc' := 5) (v := nI 1) dX1_forgetFirst_4 rfl (by decide) ?_
  refine g_ald0 (pc' := 6) dX1_forgetFirst_5 rfl ?_
  refine g_getR (pc' := 9) hg.s18 (by decide) fX1_9 hg.r18_0 dX1_forgetFirst_6 rfl ?_
  refine g_iconst (pc' := 10) (v := nI 0) dX1_forgetFirst_9 rfl (by decide) ?_
  refine g_bipush (pc' := 12) (v := nI 39) dX1_forgetFirst_10 rfl (by decide) ?_
  refine g_copyI (pc' := 15) (t := (19, 0)) (u := (19, 0)) (l0 := 40) (l1 := 40) (a := 1) (b := 0) (d := 39) hg.s19 hg.s19 rfl rfl rfl (by decide) (by decide) (by decide) (by decide) ⟨lX1_32, nat_arraycopy, ac_stat, jwSys⟩ ⟨by decide, by decide +kernel⟩ dX1_forgetFirst_12 rfl ?_
  refine g_ald0 (pc' := 16) dX1_forgetFirst_15 rfl ?_
  refine g_getR (pc' := 19) hg.s18 (by decide) fX1_13 hg.r18_1 dX1_forgetFirst_16 rfl ?_
  refine g_iconst (pc' := 20) (v := nI 1) dX1_forgetFirst_19 rfl (by decide) ?_
  refine g_ald0 (pc' := 21) dX1_forgetFirst_20 rfl ?_
  refine g_getR (pc' := 24) hg.s18 (by decide) fX1_13 hg.r18_1 dX1_forgetFirst_21 rfl ?_
  refine g_iconst (pc' := 25) (v := nI 0) dX1_forgetFirst_24 rfl (by decide) ?_
  refine g_bipush (pc' := 27) (v := nI 39) dX1_forgetFirst_25 rfl (by decide) ?_
  refine g_copyI (pc' := 30) (t := (20, 0)) (u := (20, 0)) (l0 := 40) (l1 := 40) (a := 1) (b := 0) (d := 39) hg.s20 hg.s20 rfl rfl rfl (by decide) (by decide) (by decide) (by decide) ⟨lX1_32, nat_arraycopy, ac_stat, jwSys⟩ ⟨by decide, by decide +kernel⟩ dX1_forgetFirst_27 rfl ?_
  refine g_ald0 (pc' := 31) dX1_forgetFirst_30 rfl ?_
  refine g_getR (pc' := 34) hg.s18 (by decide) fX1_16 hg.r18_2 dX1_forgetFirst_31 rfl ?_
  refine g_iconst (pc' := 35) (v := nI 1) dX1_forgetFirst_34 rfl (by decide) ?_
  refine g_ald0 (pc' := 36) dX1_forgetFirst_35 rfl ?_
  refine g_getR (pc' := 39) hg.s18 (by decide) fX1_16 hg.r18_2 dX1_forgetFirst_36 rfl ?_
  refine g_iconst (pc' := 40) (v := nI 0) dX1_forgetFirst_39 rfl (by decide) ?_
  refine g_bipush (pc' := 42) (v := nI 39) dX1_forgetFirst_40 rfl (by decide) ?_
  refine g_copyI (pc' := 45) (t := (21, 0)) (u := (21, 0)) (l0 := 40) (l1 := 40) (a := 1) (b := 0) (d := 39) hg.s21 hg.s21 rfl rfl rfl (by decide) (by decide) (by decide) (by decide) ⟨lX1_32, nat_arraycopy, ac_stat, jwSys⟩ ⟨by decide, by decide +kernel⟩ dX1_forgetFirst_42 rfl ?_
  refine g_ald0 (pc' := 46) dX1_forgetFirst_45 rfl ?_
  refine g_getR (pc' := 49) hg.s18 (by decide) fX1_19 hg.r18_3 dX1_forgetFirst_46 rfl ?_
  refine g_iconst (pc' := 50) (v := nI 1) dX1_forgetFirst_49 rfl (by decide) ?_
  refine g_ald0 (pc' := 51) dX1_forgetFirst_50 rfl ?_
  refine g_getR (pc' := 54) hg.s18 (by decide) fX1_19 hg.r18_3 dX1_forgetFirst_51 rfl ?_
  refine g_iconst (pc' := 55) (v := nI 0) dX1_forgetFirst_54 rfl (by decide) ?_
  refine g_bipush (pc' := 57) (v := nI 39) dX1_forgetFirst_55 rfl (by decide) ?_
  refine g_copyI (pc' := 60) (t := (22, 0)) (u := (22, 0)) (l0 := 40) (l1 := 40) (a := 1) (b := 0) (d := 39) hg.s22 hg.s22 rfl rfl rfl (by decide) (by decide) (by decide) (by decide) ⟨lX1_32, nat_arraycopy, ac_stat, jwSys⟩ ⟨by decide, by decide +kernel⟩ dX1_forgetFirst_57 rfl ?_
  refine g_ald0 (pc' := 61) dX1_forgetFirst_60 rfl ?_
  refine g_bipush (pc' := 63) (v := nI 39) dX1_forgetFirst_61 rfl (by decide) ?_
  refine g_putI (pc' := 66) hg.s18 (by decide) ⟨fX1_22, rfl, pI⟩ dX1_forgetFirst_63 rfl ?_
  refine g_vret rfl dX1_forgetFirst_66 ?_
  exact eV rfl

theorem c_note (l : Launch) {S : Shp} {I : MI} {L : ML} {R : MR} (hg : HG S R) {d : Nat} (hd : I (18, 0) 4 = nI d) (hd40 : d ≤ 40) (w s a b : Int32) : Ct l mX1_note 3 0 0 [.inr (.inr (some (18, 0))), .inl w, .inl s, .inl a, .inl b] S I L R (PVm S L R (fun J => J = noteI I d w s a b)) := by
  refine Ct.of [some (.inr (.inr (some (18, 0)))), some (.inl w), some (.inl s), some (.inl a), some (.inl b)] (by decide) rfl (Nat.le_of_ble_eq_true rfl) ?_
  refine g_ild3 (pc' := 1) dX1_note_0 rfl ?_
  refine g_ild4 (pc' := 3) dX1_note_1 rfl ?_
  refine g_icmpne (pc' := 6) (tgt := 7) dX1_note_3 (by decide) rfl (fun h3 => ?_) (fun h3 => ?_)
  · refine g_ald0 (pc' := 8) dX1_note_7 rfl ?_
    refine g_getI (pc' := 11) hg.s18 (by decide) fX1_22 hd dX1_note_8 rfl ?_
    refine g_bipush (pc' := 13) (v := nI 40) dX1_note_11 rfl (by decide) ?_
    refine g_icmpltN (pc' := 16) (by omega) (by omega) (tgt := 20) dX1_note_13 (by decide) rfl (fun h13 => ?_) (fun h13 => ?_)
    · refine g_ald0 (pc' := 21) dX1_note_20 rfl ?_
      refine g_getR (pc' := 24) hg.s18 (by decide) fX1_9 hg.r18_0 dX1_note_21 rfl ?_
      refine g_ald0 (pc' := 25) dX1_note_24 rfl ?_
      refine g_getI (pc' := 28) hg.s18 (by decide) fX1_22 hd dX1_note_25 rfl ?_
      refine g_ild1 (pc' := 29) dX1_note_28 rfl ?_
      refine g_iast (pc' := 30) (j := d) hg.s19 rfl (by omega) (by decide) dX1_note_29 rfl ?_
      refine g_ald0 (pc' := 31) dX1_note_30 rfl ?_
      refine g_getR (pc' := 34) hg.s18 (by decide) fX1_13 hg.r18_1 dX1_note_31 rfl ?_
      refine g_ald0 (pc' := 35) dX1_note_34 rfl ?_
      refine g_getI (pc' := 38) hg.s18 (by decide) fX1_22 (v := nI d) (by simp [upM, hd]) dX1_note_35 rfl ?_
      refine g_ild2 (pc' := 39) dX1_note_38 rfl ?_
      refine g_iast (pc' := 40) (j := d) hg.s20 rfl (by omega) (by decide) dX1_note_39 rfl ?_
      refine g_ald0 (pc' := 41) dX1_note_40 rfl ?_
      refine g_getR (pc' := 44) hg.s18 (by decide) fX1_16 hg.r18_2 dX1_note_41 rfl ?_
      refine g_ald0 (pc' := 45) dX1_note_44 rfl ?_
      refine g_getI (pc' := 48) hg.s18 (by decide) fX1_22 (v := nI d) (by simp [upM, hd]) dX1_note_45 rfl ?_
      refine g_ild3 (pc' := 49) dX1_note_48 rfl ?_
      refine g_iast (pc' := 50) (j := d) hg.s21 rfl (by omega) (by decide) dX1_note_49 rfl ?_
      refine g_ald0 (pc' := 51) dX1_note_50 rfl ?_
      refine g_getR (pc' := 54) hg.s18 (by decide) fX1_19 hg.r18_3 dX1_note_51 rfl ?_
      refine g_ald0 (pc' := 55) dX1_note_54 rfl ?_
      refine g_getI (pc' := 58) hg.s18 (by decide) fX1_22 (v := nI d) (by simp [upM, hd]) dX1_note_55 rfl ?_
      refine g_ild4 (pc' := 60) dX1_note_58 rfl ?_
      refine g_iast (pc' := 61) (j := d) hg.s22 rfl (by omega) (by decide) dX1_note_60 rfl ?_
      refine g_ald0 (pc' := 62) dX1_note_61 rfl ?_
      refine g_dupR (pc' := 63) dX1_note_62 rfl ?_
      refine g_getI (pc' := 66) hg.s18 (by decide) fX1_22 (v := nI d) (by simp [upM, hd]) dX1_note_63 rfl ?_
      refine g_iconst (pc' := 67) (v := nI 1) dX1_note_66 rfl (by decide) ?_
      refine g_iaddN (pc' := 68) dX1_note_67 rfl ?_
      refine g_putI (pc' := 71) hg.s18 (by decide) ⟨fX1_22, rfl, pI⟩ dX1_note_68 rfl ?_
      refine g_ald0 (pc' := 72) dX1_note_71 rfl ?_
      refine g_ald0 (pc' := 73) dX1_note_72 rfl ?_
      refine g_getI (pc' := 76) hg.s18 (by decide) fX1_22 (v := nI (d + 1)) (by simp [upM]) dX1_note_73 rfl ?_
      refine g_putI (pc' := 79) hg.s18 (by decide) ⟨fX1_29, rfl, pI⟩ dX1_note_76 rfl ?_
      refine g_vret rfl dX1_note_79 ?_
      exact eV (by unfold noteI; rw [if_neg h3, if_pos (by omega)]; rfl)
    · refine g_ald0 (pc' := 17) dX1_note_16 rfl ?_
      refine g_callV (pc' := 20) (c_forget l hg) hg.s18 (by decide) wX1_forgetFirst lX1_26 rfl rfl (Nat.le_of_ble_eq_true rfl) ⟨Nat.le_of_ble_eq_true rfl, Nat.le_of_ble_eq_true rfl⟩ ⟨Nat.le_of_ble_eq_true rfl, Nat.le_of_ble_eq_true rfl⟩ dX1_note_17 rfl (kV (fun J hJ => ?_))
      have hd39 : J (18, 0) 4 = nI 39 := by rw [hJ]; simp [fgI, upM]
      refine g_ald0 (pc' := 21) dX1_note_20 rfl ?_
      refine g_getR (pc' := 24) hg.s18 (by decide) fX1_9 hg.r18_0 dX1_note_21 rfl ?_
      refine g_ald0 (pc' := 25) dX1_note_24 rfl ?_
      refine g_getI (pc' := 28) hg.s18 (by decide) fX1_22 hd39 dX1_note_25 rfl ?_
      refine g_ild1 (pc' := 29) dX1_note_28 rfl ?_
      refine g_iast (pc' := 30) (j := 39) hg.s19 rfl (by omega) (by decide) dX1_note_29 rfl ?_
      refine g_ald0 (pc' := 31) dX1_note_30 rfl ?_
      refine g_getR (pc' := 34) hg.s18 (by decide) fX1_13 hg.r18_1 dX1_note_31 rfl ?_
      refine g_ald0 (pc' := 35) dX1_note_34 rfl ?_
      refine g_getI (pc' := 38) hg.s18 (by decide) fX1_22 (v := nI 39) (by simp [upM, hd39]) dX1_note_35 rfl ?_
      refine g_ild2 (pc' := 39) dX1_note_38 rfl ?_
      refine g_iast (pc' := 40) (j := 39) hg.s20 rfl (by omega) (by decide) dX1_note_39 rfl ?_
      refine g_ald0 (pc' := 41) dX1_note_40 rfl ?_
      refine g_getR (pc' := 44) hg.s18 (by decide) fX1_16 hg.r18_2 dX1_note_41 rfl ?_
      refine g_ald0 (pc' := 45) dX1_note_44 rfl ?_
      refine g_getI (pc' := 48) hg.s18 (by decide) fX1_22 (v := nI 39) (by simp [upM, hd39]) dX1_note_45 rfl ?_
      refine g_ild3 (pc' := 49) dX1_note_48 rfl ?_
      refine g_iast (pc' := 50) (j := 39) hg.s21 rfl (by omega) (by decide) dX1_note_49 rfl ?_
      refine g_ald0 (pc' := 51) dX1_note_50 rfl ?_
      refine g_getR (pc' := 54) hg.s18 (by decide) fX1_19 hg.r18_3 dX1_note_51 rfl ?_
      refine g_ald0 (pc' := 55) dX1_note_54 rfl ?_
      refine g_getI (pc' := 58) hg.s18 (by decide) fX1_22 (v := nI 39) (by simp [upM, hd39]) dX1_note_55 rfl ?_
      refine g_ild4 (pc' := 60) dX1_note_58 rfl ?_
      refine g_iast (pc' := 61) (j := 39) hg.s22 rfl (by omega) (by decide) dX1_note_60 rfl ?_
      refine g_ald0 (pc' := 62) dX1_note_61 rfl ?_
      refine g_dupR (pc' := 63) dX1_note_62 rfl ?_
      refine g_getI (pc' := 66) hg.s18 (by decide) fX1_22 (v := nI 39) (by simp [upM, hd39]) dX1_note_63 rfl ?_
      refine g_iconst (pc' := 67) (v := nI 1) dX1_note_66 rfl (by decide) ?_
      refine g_iaddN (pc' := 68) dX1_note_67 rfl ?_
      refine g_putI (pc' := 71) hg.s18 (by decide) ⟨fX1_22, rfl, pI⟩ dX1_note_68 rfl ?_
      refine g_ald0 (pc' := 72) dX1_note_71 rfl ?_
      refine g_ald0 (pc' := 73) dX1_note_72 rfl ?_
      refine g_getI (pc' := 76) hg.s18 (by decide) fX1_22 (v := nI (39 + 1)) (by simp [upM]) dX1_note_73 rfl ?_
      refine g_putI (pc' := 79) hg.s18 (by decide) ⟨fX1_29, rfl, pI⟩ dX1_note_76 rfl ?_
      refine g_vret rfl dX1_note_79 ?_
      exact eV (by unfold noteI; rw [if_neg h3, if_neg (by omega), ← hJ]; rfl)
  · refine g_vret rfl dX1_note_6 ?_
    exact eV (by unfold noteI; rw [if_pos h3])

theorem c_sHas (l : Launch) {S : Shp} {I : MI} {L : ML} {R : MR} {d : Nat} (dg : DG d S R) {n : Nat} (hn : I (27, d) 3 = nI n) (hN : n ≤ 60) (x : Int32) : Ct l mX4_has 1 0 0 [.inr (.inr (some (27, d))), .inl x] S I L R (PIp S I L R (bI (inb x n))) := by
  refine Ct.of [some (.inr (.inr (some (27, d)))), some (.inl x)] (by decide) rfl (Nat.le_of_ble_eq_true rfl) ?_
  refine g_ild1 (pc' := 1) dX4_has_0 rfl ?_
  refine g_iflt (pc' := 4) (tgt := 22) dX4_has_1 (by decide) rfl (fun h1 => ?_) (fun h1 => ?_)
  · refine g_iconst (pc' := 23) (v := nI 0) dX4_has_22 rfl (by decide) ?_
    refine g_zret (ty := .boolean) rfl (by decide) dX4_has_23 ?_
    exact eIp (hasLM hN (by decide) (by simp [*]))
  · refine g_ild1 (pc' := 5) dX4_has_4 rfl ?_
    refine g_ald0 (pc' := 6) dX4_has_5 rfl ?_
    refine g_getI (pc' := 9) dg.s27 (by decide) fX4_15 hn dX4_has_6 rfl ?_
    refine g_icmpge (pc' := 12) (tgt := 22) dX4_has_9 (by decide) rfl (fun h9 => ?_) (fun h9 => ?_)
    · refine g_iconst (pc' := 23) (v := nI 0) dX4_has_22 rfl (by decide) ?_
      refine g_zret (ty := .boolean) rfl (by decide) dX4_has_23 ?_
      exact eIp (hasLM hN (by decide) (by simp [*]))
    · refine g_ild1 (pc' := 13) dX4_has_12 rfl ?_
      refine g_bipush (pc' := 15) (v := nI 60) dX4_has_13 rfl (by decide) ?_
      refine g_icmpge (pc' := 18) (tgt := 22) dX4_has_15 (by decide) rfl (fun h15 => ?_) (fun h15 => ?_)
      · refine g_iconst (pc' := 23) (v := nI 0) dX4_has_22 rfl (by decide) ?_
        refine g_zret (ty := .boolean) rfl (by decide) dX4_has_23 ?_
        exact eIp (hasLM hN (by decide) (by simp [*]))
      · refine g_iconst (pc' := 19) (v := nI 1) dX4_has_18 rfl (by decide) ?_
        refine g_goto (tgt := 23) dX4_has_19 (by decide) ?_
        refine g_zret (ty := .boolean) rfl (by decide) dX4_has_23 ?_
        exact eIp (hasLM hN (by decide) (by simp [*]))

def runB (x y : Int32) (n : Nat) : Bool := decide (¬ x < 0) && decide (¬ y < 0) && decide (¬ nI n < x) && decide (¬ nI n - x < y)
theorem c_sHasRun (l : Launch) {S : Shp} {I : MI} {L : ML} {R : MR} {d : Nat} (dg : DG d S R) {n : Nat} (hn : I (27, d) 3 = nI n) (x y : Int32) : Ct l mX4_hasRun 1 0 0 [.inr (.inr (some (27, d))), .inl x, .inl y] S I L R (PIp S I L R (bI (runB x y n))) := by
  refine Ct.of [some (.inr (.inr (some (27, d)))), some (.inl x), some (.inl y)] (by decide) rfl (Nat.le_of_ble_eq_true rfl) ?_
  refine g_ild1 (pc' := 1) dX4_hasRun_0 rfl ?_
  refine g_iflt (pc' := 4) (tgt := 30) dX4_hasRun_1 (by decide) rfl (fun h1 => ?_) (fun h1 => ?_)
  · refine g_iconst (pc' := 31) (v := nI 0) dX4_hasRun_30 rfl (by decide) ?_
    refine g_zret (ty := .boolean) rfl (by decide) dX4_hasRun_31 ?_
    exact eIp (by unfold runB; simp [*, bI])
  · refine g_ild2 (pc' := 5) dX4_hasRun_4 rfl ?_
    refine g_iflt (pc' := 8) (tgt := 30) dX4_hasRun_5 (by decide) rfl (fun h5 => ?_) (fun h5 => ?_)
    · refine g_iconst (pc' := 31) (v := nI 0) dX4_hasRun_30 rfl (by decide) ?_
      refine g_zret (ty := .boolean) rfl (by decide) dX4_hasRun_31 ?_
      exact eIp (by unfold runB; simp [*, bI])
    · refine g_ild1 (pc' := 9) dX4_hasRun_8 rfl ?_
      refine g_ald0 (pc' := 10) dX4_hasRun_9 rfl ?_
      refine g_getI (pc' := 13) dg.s27 (by decide) fX4_15 hn dX4_hasRun_10 rfl ?_
      refine g_icmpgt (pc' := 16) (tgt := 30) dX4_hasRun_13 (by decide) rfl (fun h13 => ?_) (fun h13 => ?_)
      · refine g_iconst (pc' := 31) (v := nI 0) dX4_hasRun_30 rfl (by decide) ?_
        refine g_zret (ty := .boolean) rfl (by decide) dX4_hasRun_31 ?_
        exact eIp (by unfold runB; simp [*, bI])
      · refine g_ild2 (pc' := 17) dX4_hasRun_16 rfl ?_
        refine g_ald0 (pc' := 18) dX4_hasRun_17 rfl ?_
        refine g_getI (pc' := 21) dg.s27 (by decide) fX4_15 hn dX4_hasRun_18 rfl ?_
        refine g_ild1 (pc' := 22) dX4_hasRun_21 rfl ?_
        refine g_isub (pc' := 23) dX4_hasRun_22 rfl ?_
        refine g_topi (v := nI n - x) (rfl) ?_
        refine g_icmpgt (pc' := 26) (tgt := 30) dX4_hasRun_23 (by decide) rfl (fun h23 => ?_) (fun h23 => ?_)
        · refine g_iconst (pc' := 31) (v := nI 0) dX4_hasRun_30 rfl (by decide) ?_
          refine g_zret (ty := .boolean) rfl (by decide) dX4_hasRun_31 ?_
          exact eIp (by unfold runB; simp [*, bI])
        · refine g_iconst (pc' := 27) (v := nI 1) dX4_hasRun_26 rfl (by decide) ?_
          refine g_goto (tgt := 31) dX4_hasRun_27 (by decide) ?_
          refine g_zret (ty := .boolean) rfl (by decide) dX4_hasRun_31 ?_
          exact eIp (by unfold runB; simp [*, bI])

def lowI (s : Nat) (v : Int64) : Int64 := if s = 0 then v.toInt32.toInt8.toInt32.toInt64 else if s = 1 then v.toInt32.toInt16.toInt32.toInt64 else if s = 2 then v.toInt32.toInt64 else if s = 3 then v else if v = 0 then 0 else 1
theorem lgc_0 {v : Int64} : lg_cmp v 0 = 0 ↔ v = 0 := by
  unfold lg_cmp
  constructor
  · intro h
    by_cases h1 : v = 0
    · exact h1
    · exfalso
      revert h
      simp only [h1]
      split <;> first | decide | (split <;> decide)
  · rintro rfl
    decide
theorem c_lowest (l : Launch) {S : Shp} {I : MI} {L : ML} {R : MR} {d : Nat} (dg : DG d S R) {s : Nat} (hs : I (27, d) 2 = nI s) (hs4 : s ≤ 4) (v : Int64) : Ct l mX4_lowest 1 0 0 [.inr (.inr (some (27, d))), .inr (.inl v)] S I L R (PJp S I L R (lowI s v)) := by
  refine Ct.of [some (.inr (.inr (some (27, d)))), some (.inr (.inl v)), none] (by decide) rfl (Nat.le_of_ble_eq_true rfl) ?_
  refine g_ald0 (pc' := 1) dX4_lowest_0 rfl ?_
  refine g_getI (pc' := 4) dg.s27 (by decide) fX4_19 hs dX4_lowest_1 rfl ?_
  rcases (show s = 0 ∨ s = 1 ∨ s = 2 ∨ s = 3 ∨ s = 4 by omega) with rfl | rfl | rfl | rfl | rfl
  · refine g_tin (off := 32) (tgt := 36) dX4_lowest_4 (by decide) (by decide) (by decide) (by decide) ?_
    refine g_lld1 (pc' := 37) dX4_lowest_36 rfl ?_
    refine g_l2i (pc' := 38) dX4_lowest_37 rfl ?_
    refine g_i2b (pc' := 39) dX4_lowest_38 rfl ?_
    refine g_i2l (pc' := 40) dX4_lowest_39 rfl ?_
    refine g_lret rfl dX4_lowest_40 ?_
    exact eJp rfl
  · refine g_tin (off := 37) (tgt := 41) dX4_lowest_4 (by decide) (by decide) (by decide) (by decide) ?_
    refine g_lld1 (pc' := 42) dX4_lowest_41 rfl ?_
    refine g_l2i (pc' := 43) dX4_lowest_42 rfl ?_
    refine g_i2s (pc' := 44) dX4_lowest_43 rfl ?_
    refine g_i2l (pc' := 45) dX4_lowest_44 rfl ?_
    refine g_lret rfl dX4_lowest_45 ?_
    exact eJp rfl
  · refine g_tin (off := 42) (tgt := 46) dX4_lowest_4 (by decide) (by decide) (by decide) (by decide) ?_
    refine g_lld1 (pc' := 47) dX4_lowest_46 rfl ?_
    refine g_l2i (pc' := 48) dX4_lowest_47 rfl ?_
    refine g_i2l (pc' := 49) dX4_lowest_48 rfl ?_
    refine g_lret rfl dX4_lowest_49 ?_
    exact eJp rfl
  · refine g_tin (off := 46) (tgt := 50) dX4_lowest_4 (by decide) (by decide) (by decide) (by decide) ?_
    refine g_lld1 (pc' := 51) dX4_lowest_50 rfl ?_
    refine g_lret rfl dX4_lowest_51 ?_
    exact eJp rfl
  · refine g_tout (tgt := 52) dX4_lowest_4 (by decide) (by decide) ?_
    refine g_lld1 (pc' := 53) dX4_lowest_52 rfl ?_
    refine g_lconst (pc' := 54) (v := 0) dX4_lowest_53 rfl (by decide) ?_
    refine g_lcmp (pc' := 55) dX4_lowest_54 rfl ?_
    refine g_ifeq (pc' := 58) (tgt := 62) dX4_lowest_55 (by decide) rfl (fun h55 => ?_) (fun h55 => ?_)
    · refine g_lconst (pc' := 63) (v := 0) dX4_lowest_62 rfl (by decide) ?_
      refine g_lret rfl dX4_lowest_63 ?_
      exact eJp (by unfold lowI; simp only [show ¬ (4 : Nat) = 0 by decide, show ¬ (4 : Nat) = 1 by decide, show ¬ (4 : Nat) = 2 by decide, show ¬ (4 : Nat) = 3 by decide, if_false]; simp only [lgc_0] at h55; simp [h55])
    · refine g_lconst (pc' := 59) (v := 1) dX4_lowest_58 rfl (by decide) ?_
      refine g_goto (tgt := 63) dX4_lowest_59 (by decide) ?_
      refine g_lret rfl dX4_lowest_63 ?_
      exact eJp (by unfold lowI; simp only [show ¬ (4 : Nat) = 0 by decide, show ¬ (4 : Nat) = 1 by decide, show ¬ (4 : Nat) = 2 by decide, show ¬ (4 : Nat) = 3 by decide, if_false]; simp only [lgc_0] at h55; simp [h55])

theorem c_aHas (l : Launch) {S : Shp} {I : MI} {L : ML} {R : MR} (ag : AG S R) {n : Nat} (hn : I (23, 0) 1 = nI n) (hN : n ≤ 50) (x : Int32) : Ct l mX0_has 1 0 0 [.inr (.inr (some (23, 0))), .inl x] S I L R (PIp S I L R (bI (inb x n))) := by
  refine Ct.of [some (.inr (.inr (some (23, 0)))), some (.inl x)] (by decide) rfl (Nat.le_of_ble_eq_true rfl) ?_
  refine g_ild1 (pc' := 1) dX0_has_0 rfl ?_
  refine g_iflt (pc' := 4) (tgt := 22) dX0_has_1 (by decide) rfl (fun h1 => ?_) (fun h1 => ?_)
  · refine g_iconst (pc' := 23) (v := nI 0) dX0_has_22 rfl (by decide) ?_
    refine g_zret (ty := .boolean) rfl (by decide) dX0_has_23 ?_
    exact eIp (hasLM hN (by decide) (by simp [*]))
  · refine g_ild1 (pc' := 5) dX0_has_4 rfl ?_
    refine g_ald0 (pc' := 6) dX0_has_5 rfl ?_
    refine g_getI (pc' := 9) ag.s23 (by decide) fX0_16 hn dX0_has_6 rfl ?_
    refine g_icmpge (pc' := 12) (tgt := 22) dX0_has_9 (by decide) rfl (fun h9 => ?_) (fun h9 => ?_)
    · refine g_iconst (pc' := 23) (v := nI 0) dX0_has_22 rfl (by decide) ?_
      refine g_zret (ty := .boolean) rfl (by decide) dX0_has_23 ?_
      exact eIp (hasLM hN (by decide) (by simp [*]))
    · refine g_ild1 (pc' := 13) dX0_has_12 rfl ?_
      refine g_bipush (pc' := 15) (v := nI 50) dX0_has_13 rfl (by decide) ?_
      refine g_icmpge (pc' := 18) (tgt := 22) dX0_has_15 (by decide) rfl (fun h15 => ?_) (fun h15 => ?_)
      · refine g_iconst (pc' := 23) (v := nI 0) dX0_has_22 rfl (by decide) ?_
        refine g_zret (ty := .boolean) rfl (by decide) dX0_has_23 ?_
        exact eIp (hasLM hN (by decide) (by simp [*]))
      · refine g_iconst (pc' := 19) (v := nI 1) dX0_has_18 rfl (by decide) ?_
        refine g_goto (tgt := 23) dX0_has_19 (by decide) ?_
        refine g_zret (ty := .boolean) rfl (by decide) dX0_has_23 ?_
        exact eIp (hasLM hN (by decide) (by simp [*]))
