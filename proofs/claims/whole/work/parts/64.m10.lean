/-! the model: an act -/
def maP2 (t : Tok) (i : Nat) : Prop := maP t i ∨ (t = (40, 0) ∧ (i = 39 ∨ i = 40))
def actM (num kd a : Nat) (x : Int32) : Int32 × List Nat := if a = 0 then tM num kd x else if a = 1 then kM num kd kd x else if a = 2 then cM num kd kd x else eM num kd kd x
theorem c_mActN (l : Launch) {S : Shp} {I : MI} {L : ML} {R : MR} (mg : MG S R) {b : Nat} (hb : I (40, 0) 35 = nI b) (hb5 : b ≤ 50) {x : Int32} (hx : inb x b = false) (y z : Int32) : Ct l mX9_act 10 0 0 [.inr (.inr (some (40, 0))), .inl x, .inl y, .inl z] S I L R (PIm S L R (fun v J => v = nI 0 ∧ J (40, 0) 38 = nI 0 ∧ Fr maP2 I J)) := by
  refine Ct.of [some (.inr (.inr (some (40, 0)))), some (.inl x), some (.inl y), some (.inl z)] (by decide) rfl (Nat.le_of_ble_eq_true rfl) ?_
  refine g_ald0 (pc' := 1) dX9_act_0 rfl ?_
  refine g_iconst (pc' := 2) (v := nI 0) dX9_act_1 rfl (by decide) ?_
  refine g_putI (pc' := 5) mg.s40 (by decide) ⟨fX9_321, rfl, pI⟩ dX9_act_2 rfl ?_
  refine g_ald0 (pc' := 6) dX9_act_5 rfl ?_
  refine g_ild1 (pc' := 7) dX9_act_6 rfl ?_
  refine g_callV (pc' := 10) (c_misBody l mg (by simp [upM, hb]) hb5 x) mg.s40 (by decide) wX9_isBody lX9_345 rfl rfl (Nat.le_of_ble_eq_true rfl) ⟨Nat.le_of_ble_eq_true rfl, Nat.le_of_ble_eq_true rfl⟩ ⟨Nat.le_of_ble_eq_true rfl, Nat.le_of_ble_eq_true rfl⟩ dX9_act_7 rfl (kIp ?_)
  refine g_ifneB (pc' := 13) (tgt := 15) dX9_act_10 (by decide) rfl (fun h10 => (by first | exact absurd h10 (Bool.eq_false_iff.mp hx) | exact absurd (Bool.eq_false_iff.mp hx) h10)) (fun h10 => ?_)
  refine g_iconst (pc' := 14) (v := nI 0) dX9_act_13 rfl (by decide) ?_
  refine g_iret rfl dX9_act_14 ?_
  exact eI ⟨rfl, by rw [upM_s], Fr.rf.up (by simp [maP2, maP])⟩

theorem c_mActB (l : Launch) {S : Shp} {I : MI} {L : ML} {R : MR} (mg : MG S R) {b : Nat} (hb : I (40, 0) 35 = nI b) (hb5 : b ≤ 50) {num kd : Nat} (hnum : num < b) (hkn : I (86, 0) num = nI kd) {y : Int32} (hy : y < 0 ∨ ¬ y < nI 4) (x : Int32) : Ct l mX9_act 10 0 0 [.inr (.inr (some (40, 0))), .inl (nI num), .inl y, .inl x] S I L R (PIm S L R (fun v J => v = nI 0 ∧ J (40, 0) 38 = nI 0 ∧ Fr maP2 I J)) := by
  refine Ct.of [some (.inr (.inr (some (40, 0)))), some (.inl (nI num)), some (.inl y), some (.inl x)] (by decide) rfl (Nat.le_of_ble_eq_true rfl) ?_
  refine g_ald0 (pc' := 1) dX9_act_0 rfl ?_
  refine g_iconst (pc' := 2) (v := nI 0) dX9_act_1 rfl (by decide) ?_
  refine g_putI (pc' := 5) mg.s40 (by decide) ⟨fX9_321, rfl, pI⟩ dX9_act_2 rfl ?_
  refine g_ald0 (pc' := 6) dX9_act_5 rfl ?_
  refine g_ild1 (pc' := 7) dX9_act_6 rfl ?_
  refine g_callV (pc' := 10) (c_misBody l mg (by simp [upM, hb]) hb5 (nI num)) mg.s40 (by decide) wX9_isBody lX9_345 rfl rfl (Nat.le_of_ble_eq_true rfl) ⟨Nat.le_of_ble_eq_true rfl, Nat.le_of_ble_eq_true rfl⟩ ⟨Nat.le_of_ble_eq_true rfl, Nat.le_of_ble_eq_true rfl⟩ dX9_act_7 rfl (kIp ?_)
  refine g_ifneB (pc' := 13) (tgt := 15) dX9_act_10 (by decide) rfl (fun h10 => ?_) (fun h10 => (by first | exact absurd h10 (by rw [inb_nI (by omega) (by omega)]; simp [hnum]) | exact absurd (by rw [inb_nI (by omega) (by omega)]; simp [hnum]) h10))
  refine g_ald0 (pc' := 16) dX9_act_15 rfl ?_
  refine g_ald0 (pc' := 17) dX9_act_16 rfl ?_
  refine g_getR (pc' := 20) mg.s40 (by decide) fX9_73 mg.r40_36 dX9_act_17 rfl ?_
  refine g_ild1 (pc' := 21) dX9_act_20 rfl ?_
  refine g_iald (pc' := 22) (j := num) mg.s86 rfl (by omega) (by decide) (v := nI kd) (by rw [upM_n _ (by simp)]; exact hkn) dX9_act_21 rfl ?_
  refine g_putI (pc' := 25) mg.s40 (by decide) ⟨fX9_336, rfl, pI⟩ dX9_act_22 rfl ?_
  refine g_ald0 (pc' := 26) dX9_act_25 rfl ?_
  refine g_ild1 (pc' := 27) dX9_act_26 rfl ?_
  refine g_putI (pc' := 30) mg.s40 (by decide) ⟨fX9_330, rfl, pI⟩ dX9_act_27 rfl ?_
  refine g_ild2 (pc' := 31) dX9_act_30 rfl ?_
  have hout : y.toInt < 0 ∨ 3 < y.toInt := by
    rcases hy with h | h
    · exact Or.inl (Int32.lt_iff_toInt_lt.mp h)
    · refine Or.inr ?_
      rw [Int32.lt_iff_toInt_lt] at h
      have e : (nI 4).toInt = 4 := by decide
      rw [e] at h
      omega
  refine g_tout (tgt := 100) dX9_act_31 hout (by decide) ?_
  refine g_iconst (pc' := 101) (v := nI 0) dX9_act_100 rfl (by decide) ?_
  refine g_iret rfl dX9_act_101 ?_
  exact eI ⟨rfl, by rw [upM_k _ _ (by decide), upM_k _ _ (by decide), upM_s], ((Fr.rf.up (by simp [maP2, maP])).up (by simp [maP2, maP])).up (by simp [maP2, maP])⟩

theorem c_mActS (l : Launch) {S : Shp} {I : MI} {L : ML} {R : MR} (mg : MG S R) {b : Nat} (hb : I (40, 0) 35 = nI b) (hb5 : b ≤ 50) {num kd : Nat} (hnum : num < b) (hkn : I (86, 0) num = nI kd) (hkd : kd < 8) {a : Nat} (ha : a < 4) (x : Int32) : Ct l mX9_act 10 0 0 [.inr (.inr (some (40, 0))), .inl (nI num), .inl (nI a), .inl x] S I L R (PIm S L R (fun v J => v = (actM num kd a x).1 ∧ MA J (actM num kd a x).2 ∧ Fr maP2 I J)) := by
  refine Ct.of [some (.inr (.inr (some (40, 0)))), some (.inl (nI num)), some (.inl (nI a)), some (.inl x)] (by decide) rfl (Nat.le_of_ble_eq_true rfl) ?_
  refine g_ald0 (pc' := 1) dX9_act_0 rfl ?_
  refine g_iconst (pc' := 2) (v := nI 0) dX9_act_1 rfl (by decide) ?_
  refine g_putI (pc' := 5) mg.s40 (by decide) ⟨fX9_321, rfl, pI⟩ dX9_act_2 rfl ?_
  refine g_ald0 (pc' := 6) dX9_act_5 rfl ?_
  refine g_ild1 (pc' := 7) dX9_act_6 rfl ?_
  refine g_callV (pc' := 10) (c_misBody l mg (by simp [upM, hb]) hb5 (nI num)) mg.s40 (by decide) wX9_isBody lX9_345 rfl rfl (Nat.le_of_ble_eq_true rfl) ⟨Nat.le_of_ble_eq_true rfl, Nat.le_of_ble_eq_true rfl⟩ ⟨Nat.le_of_ble_eq_true rfl, Nat.le_of_ble_eq_true rfl⟩ dX9_act_7 rfl (kIp ?_)
  refine g_ifneB (pc' := 13) (tgt := 15) dX9_act_10 (by decide) rfl (fun h10 => ?_) (fun h10 => (by first | exact absurd h10 (by rw [inb_nI (by omega) (by omega)]; simp [hnum]) | exact absurd (by rw [inb_nI (by omega) (by omega)]; simp [hnum]) h10))
  refine g_ald0 (pc' := 16) dX9_act_15 rfl ?_
  refine g_ald0 (pc' := 17) dX9_act_16 rfl ?_
  refine g_getR (pc' := 20) mg.s40 (by decide) fX9_73 mg.r40_36 dX9_act_17 rfl ?_
  refine g_ild1 (pc' := 21) dX9_act_20 rfl ?_
  refine g_iald (pc' := 22) (j := num) mg.s86 rfl (by omega) (by decide) (v := nI kd) (by rw [upM_n _ (by simp)]; exact hkn) dX9_act_21 rfl ?_
  refine g_putI (pc' := 25) mg.s40 (by decide) ⟨fX9_336, rfl, pI⟩ dX9_act_22 rfl ?_
  refine g_ald0 (pc' := 26) dX9_act_25 rfl ?_
  refine g_ild1 (pc' := 27) dX9_act_26 rfl ?_
  refine g_putI (pc' := 30) mg.s40 (by decide) ⟨fX9_330, rfl, pI⟩ dX9_act_27 rfl ?_
  refine g_ild2 (pc' := 31) dX9_act_30 rfl ?_
  refine g_name (fun J0 hJ0 => ?_)
  have hfr0 : Fr maP2 I J0 := by rw [hJ0]; exact ((Fr.rf.up (by simp [maP2, maP])).up (by simp [maP2, maP])).up (by simp [maP2, maP])
  have hk0 : J0 (40, 0) 39 = nI kd := by rw [hJ0, upM_k _ _ (by decide), upM_s]
  have hn0 : J0 (40, 0) 40 = nI num := by rw [hJ0, upM_s]
  have hm0 : MA J0 [] := ⟨by decide, by rw [hJ0, upM_k _ _ (by decide), upM_k _ _ (by decide), upM_s]; rfl, fun i hi => absurd hi (by simp)⟩
  rcases (show a = 0 ∨ a = 1 ∨ a = 2 ∨ a = 3 by omega) with rfl | rfl | rfl | rfl
  · refine g_tin (off := 29) (tgt := 60) dX9_act_31 (by decide) (by decide) (by decide) (by decide) ?_
    refine g_ald0 (pc' := 61) dX9_act_60 rfl ?_
    refine g_ald0 (pc' := 62) dX9_act_61 rfl ?_
    refine g_getI (pc' := 65) mg.s40 (by decide) fX9_336 hk0 dX9_act_62 rfl ?_
    refine g_ild3 (pc' := 66) dX9_act_65 rfl ?_
    refine g_callV (pc' := 69) (c_mT l mg hk0 hn0 hm0 (by simp) hkd x) mg.s40 (by decide) wX9_triesAs lX9_327 rfl rfl (Nat.le_of_ble_eq_true rfl) ⟨Nat.le_of_ble_eq_true rfl, Nat.le_of_ble_eq_true rfl⟩ ⟨Nat.le_of_ble_eq_true rfl, Nat.le_of_ble_eq_true rfl⟩ dX9_act_66 rfl (kI (fun v J hq => ?_))
    refine g_iret rfl dX9_act_69 ?_
    exact eI ⟨hq.1, hq.2.1, hfr0.tr (hq.2.2.le (fun t i q => Or.inl q))⟩
  · refine g_tin (off := 39) (tgt := 70) dX9_act_31 (by decide) (by decide) (by decide) (by decide) ?_
    refine g_ald0 (pc' := 71) dX9_act_70 rfl ?_
    refine g_ald0 (pc' := 72) dX9_act_71 rfl ?_
    refine g_getI (pc' := 75) mg.s40 (by decide) fX9_336 hk0 dX9_act_72 rfl ?_
    refine g_ild3 (pc' := 76) dX9_act_75 rfl ?_
    refine g_callV (pc' := 79) (c_mK l mg hk0 hn0 hm0 (by simp) hkd hkd x) mg.s40 (by decide) wX9_keepsAs lX9_333 rfl rfl (Nat.le_of_ble_eq_true rfl) ⟨Nat.le_of_ble_eq_true rfl, Nat.le_of_ble_eq_true rfl⟩ ⟨Nat.le_of_ble_eq_true rfl, Nat.le_of_ble_eq_true rfl⟩ dX9_act_76 rfl (kI (fun v J hq => ?_))
    refine g_iret rfl dX9_act_79 ?_
    exact eI ⟨hq.1, hq.2.1, hfr0.tr (hq.2.2.le (fun t i q => Or.inl q))⟩
  · refine g_tin (off := 49) (tgt := 80) dX9_act_31 (by decide) (by decide) (by decide) (by decide) ?_
    refine g_ald0 (pc' := 81) dX9_act_80 rfl ?_
    refine g_ald0 (pc' := 82) dX9_act_81 rfl ?_
    refine g_getI (pc' := 85) mg.s40 (by decide) fX9_336 hk0 dX9_act_82 rfl ?_
    refine g_ild3 (pc' := 86) dX9_act_85 rfl ?_
    refine g_callV (pc' := 89) (c_mC l mg hk0 hn0 hm0 (by simp) hkd hkd x) mg.s40 (by decide) wX9_countsAs lX9_339 rfl rfl (Nat.le_of_ble_eq_true rfl) ⟨Nat.le_of_ble_eq_true rfl, Nat.le_of_ble_eq_true rfl⟩ ⟨Nat.le_of_ble_eq_true rfl, Nat.le_of_ble_eq_true rfl⟩ dX9_act_86 rfl (kI (fun v J hq => ?_))
    refine g_iret rfl dX9_act_89 ?_
    exact eI ⟨hq.1, hq.2.1, hfr0.tr (hq.2.2.le (fun t i q => Or.inl q))⟩
  · refine g_tin (off := 59) (tgt := 90) dX9_act_31 (by decide) (by decide) (by decide) (by decide) ?_
    refine g_ald0 (pc' := 91) dX9_act_90 rfl ?_
    refine g_ald0 (pc' := 92) dX9_act_91 rfl ?_
    refine g_getI (pc' := 95) mg.s40 (by decide) fX9_336 hk0 dX9_act_92 rfl ?_
    refine g_ild3 (pc' := 96) dX9_act_95 rfl ?_
    refine g_callV (pc' := 99) (c_mE l mg hk0 hn0 hm0 (by simp) hkd hkd x) mg.s40 (by decide) wX9_tellsAs lX9_342 rfl rfl (Nat.le_of_ble_eq_true rfl) ⟨Nat.le_of_ble_eq_true rfl, Nat.le_of_ble_eq_true rfl⟩ ⟨Nat.le_of_ble_eq_true rfl, Nat.le_of_ble_eq_true rfl⟩ dX9_act_96 rfl (kI (fun v J hq => ?_))
    refine g_iret rfl dX9_act_99 ?_
    exact eI ⟨hq.1, hq.2.1, hfr0.tr (hq.2.2.le (fun t i q => Or.inl q))⟩

def cntM (I : MI) (w : Nat) : Int32 := if w = 0 then I (40, 0) 6 else if w = 1 then I (40, 0) 9 else if w = 2 then I (40, 0) 18 else if w = 3 then I (40, 0) 8 else if w = 4 then I (40, 0) 5 else if w = 5 then I (40, 0) 35 else if w = 6 then I (40, 0) 38 else -1
theorem c_mCountS (l : Launch) {S : Shp} {I : MI} {L : ML} {R : MR} (mg : MG S R) {w : Nat} (hw : w < 7) : Ct l mX9_count 1 0 0 [.inr (.inr (some (40, 0))), .inl (nI w)] S I L R (PIp S I L R (cntM I w)) := by
  refine Ct.of [some (.inr (.inr (some (40, 0)))), some (.inl (nI w))] (by decide) rfl (Nat.le_of_ble_eq_true rfl) ?_
  refine g_ild1 (pc' := 1) dX9_count_0 rfl ?_
  rcases (show w = 0 ∨ w = 1 ∨ w = 2 ∨ w = 3 ∨ w = 4 ∨ w = 5 ∨ w = 6 by omega) with rfl | rfl | rfl | rfl | rfl | rfl | rfl
  · refine g_tin (off := 43) (tgt := 44) dX9_count_1 (by decide) (by decide) (by decide) (by decide) ?_
    refine g_ald0 (pc' := 45) dX9_count_44 rfl ?_
    refine g_getI (pc' := 48) mg.s40 (by decide) fX9_99 rfl dX9_count_45 rfl ?_
    refine g_iret rfl dX9_count_48 ?_
    exact eIp (by unfold cntM; simp)
  · refine g_tin (off := 48) (tgt := 49) dX9_count_1 (by decide) (by decide) (by decide) (by decide) ?_
    refine g_ald0 (pc' := 50) dX9_count_49 rfl ?_
    refine g_getI (pc' := 53) mg.s40 (by decide) fX9_106 rfl dX9_count_50 rfl ?_
    refine g_iret rfl dX9_count_53 ?_
    exact eIp (by unfold cntM; simp)
  · refine g_tin (off := 53) (tgt := 54) dX9_count_1 (by decide) (by decide) (by decide) (by decide) ?_
    refine g_ald0 (pc' := 55) dX9_count_54 rfl ?_
    refine g_getI (pc' := 58) mg.s40 (by decide) fX9_174 rfl dX9_count_55 rfl ?_
    refine g_iret rfl dX9_count_58 ?_
    exact eIp (by unfold cntM; simp)
  · refine g_tin (off := 58) (tgt := 59) dX9_count_1 (by decide) (by decide) (by decide) (by decide) ?_
    refine g_ald0 (pc' := 60) dX9_count_59 rfl ?_
    refine g_getI (pc' := 63) mg.s40 (by decide) fX9_121 rfl dX9_count_60 rfl ?_
    refine g_iret rfl dX9_count_63 ?_
    exact eIp (by unfold cntM; simp)
  · refine g_tin (off := 63) (tgt := 64) dX9_count_1 (by decide) (by decide) (by decide) (by decide) ?_
    refine g_ald0 (pc' := 65) dX9_count_64 rfl ?_
    refine g_getI (pc' := 68) mg.s40 (by decide) fX9_92 rfl dX9_count_65 rfl ?_
    refine g_iret rfl dX9_count_68 ?_
    exact eIp (by unfold cntM; simp)
  · refine g_tin (off := 68) (tgt := 69) dX9_count_1 (by decide) (by decide) (by decide) (by decide) ?_
    refine g_ald0 (pc' := 70) dX9_count_69 rfl ?_
    refine g_getI (pc' := 73) mg.s40 (by decide) fX9_316 rfl dX9_count_70 rfl ?_
    refine g_iret rfl dX9_count_73 ?_
    exact eIp (by unfold cntM; simp)
  · refine g_tin (off := 73) (tgt := 74) dX9_count_1 (by decide) (by decide) (by decide) (by decide) ?_
    refine g_ald0 (pc' := 75) dX9_count_74 rfl ?_
    refine g_getI (pc' := 78) mg.s40 (by decide) fX9_321 rfl dX9_count_75 rfl ?_
    refine g_iret rfl dX9_count_78 ?_
    exact eIp (by unfold cntM; simp)

theorem c_mCountN (l : Launch) {S : Shp} {I : MI} {L : ML} {R : MR} {x : Int32} (hx : x.toInt < 0 ∨ 6 < x.toInt) : Ct l mX9_count 1 0 0 [.inr (.inr (some (40, 0))), .inl x] S I L R (PIp S I L R (-1)) := by
  refine Ct.of [some (.inr (.inr (some (40, 0)))), some (.inl x)] (by decide) rfl (Nat.le_of_ble_eq_true rfl) ?_
  refine g_ild1 (pc' := 1) dX9_count_0 rfl ?_
  refine g_tout (tgt := 79) dX9_count_1 hx (by decide) ?_
  refine g_iconst (pc' := 80) (v := (-1)) dX9_count_79 rfl (by decide) ?_
  refine g_iret rfl dX9_count_80 ?_
  exact eIp rfl

/-! the model: shelves -/
theorem c_mKeepN (l : Launch) {S : Shp} {I : MI} {L : ML} {R : MR} (mg : MG S R) {x : Int32} (hx : inb x 6 = false) (y : Int32) : Ct l mX9_keep 3 0 0 [.inr (.inr (some (40, 0))), .inl x, .inl y] S I L R (PIp S I L R (-1)) := by
  refine Ct.of [some (.inr (.inr (some (40, 0)))), some (.inl x), some (.inl y)] (by decide) rfl (Nat.le_of_ble_eq_true rfl) ?_
  refine g_ild1 (pc' := 1) dX9_keep_0 rfl ?_
  refine g_callS (pc' := 4) (c_mIsShelf l x) wX9_isShelf lX9_239 rfl rfl (Nat.le_of_ble_eq_true rfl) ⟨Nat.le_of_ble_eq_true rfl, Nat.le_of_ble_eq_true rfl⟩ ⟨Nat.le_of_ble_eq_true rfl, Nat.le_of_ble_eq_true rfl⟩ dX9_keep_1 rfl (kIp ?_)
  refine g_ifeqB (pc' := 7) (tgt := 20) dX9_keep_4 (by decide) rfl (fun h4 => ?_) (fun h4 => (by first | exact absurd h4 (Bool.eq_false_iff.mp hx) | exact absurd (Bool.eq_false_iff.mp hx) h4))
  refine g_iconst (pc' := 21) (v := (-1)) dX9_keep_20 rfl (by decide) ?_
  refine g_iret rfl dX9_keep_21 ?_
  exact eIp rfl

theorem c_mKeepB (l : Launch) {S : Shp} {I : MI} {L : ML} {R : MR} (mg : MG S R) {b : Nat} (hb : I (40, 0) 35 = nI b) (hb5 : b ≤ 50) {d : Nat} (hd : d < 6) {y : Int32} (hy : ¬ y = -1) (hi : inb y b = false) : Ct l mX9_keep 3 0 0 [.inr (.inr (some (40, 0))), .inl (nI d), .inl y] S I L R (PIp S I L R (-1)) := by
  refine Ct.of [some (.inr (.inr (some (40, 0)))), some (.inl (nI d)), some (.inl y)] (by decide) rfl (Nat.le_of_ble_eq_true rfl) ?_
  refine g_ild1 (pc' := 1) dX9_keep_0 rfl ?_
  refine g_callS (pc' := 4) (c_mIsShelf l (nI d)) wX9_isShelf lX9_239 rfl rfl (Nat.le_of_ble_eq_true rfl) ⟨Nat.le_of_ble_eq_true rfl, Nat.le_of_ble_eq_true rfl⟩ ⟨Nat.le_of_ble_eq_true rfl, Nat.le_of_ble_eq_true rfl⟩ dX9_keep_1 rfl (kIp ?_)
  refine g_ifeqB (pc' := 7) (tgt := 20) dX9_keep_4 (by decide) rfl (fun h4 => (by first | exact absurd h4 (by rw [inb_nI (by omega) (by omega)]; simp [hd]) | exact absurd (by rw [inb_nI (by omega) (by omega)]; simp [hd]) h4)) (fun h4 => ?_)
  refine g_ild2 (pc' := 8) dX9_keep_7 rfl ?_
  refine g_iconst (pc' := 9) (v := (-1)) dX9_keep_8 rfl (by decide) ?_
  refine g_icmpeq (pc' := 12) (tgt := 22) dX9_keep_9 (by decide) rfl (fun h9 => (by first | exact absurd h9 hy | exact absurd hy h9)) (fun h9 => ?_)
  refine g_ald0 (pc' := 13) dX9_keep_12 rfl ?_
  refine g_ild2 (pc' := 14) dX9_keep_13 rfl ?_
  refine g_callV (pc' := 17) (c_misBody l mg hb hb5 y) mg.s40 (by decide) wX9_isBody lX9_345 rfl rfl (Nat.le_of_ble_eq_true rfl) ⟨Nat.le_of_ble_eq_true rfl, Nat.le_of_ble_eq_true rfl⟩ ⟨Nat.le_of_ble_eq_true rfl, Nat.le_of_ble_eq_true rfl⟩ dX9_keep_14 rfl (kIp ?_)
  refine g_ifneB (pc' := 20) (tgt := 22) dX9_keep_17 (by decide) rfl (fun h17 => (by first | exact absurd h17 (Bool.eq_false_iff.mp hi) | exact absurd (Bool.eq_false_iff.mp hi) h17)) (fun h17 => ?_)
  refine g_iconst (pc' := 21) (v := (-1)) dX9_keep_20 rfl (by decide) ?_
  refine g_iret rfl dX9_keep_21 ?_
  exact eIp rfl

theorem c_mKeepS (l : Launch) {S : Shp} {I : MI} {L : ML} {R : MR} (mg : MG S R) {b : Nat} (hb : I (40, 0) 35 = nI b) (hb5 : b ≤ 50) {d : Nat} (hd : d < 6) {y : Int32} (hy : y = -1 ∨ inb y b = true) : Ct l mX9_keep 3 0 0 [.inr (.inr (some (40, 0))), .inl (nI d), .inl y] S I L R (PIm S L R (fun r J => r = nI 1 ∧ J = upM (upM I (91, 0) d y) (92, 0) d (nI 0))) := by
  refine Ct.of [some (.inr (.inr (some (40, 0)))), some (.inl (nI d)), some (.inl y)] (by decide) rfl (Nat.le_of_ble_eq_true rfl) ?_
  refine g_ild1 (pc' := 1) dX9_keep_0 rfl ?_
  refine g_callS (pc' := 4) (c_mIsShelf l (nI d)) wX9_isShelf lX9_239 rfl rfl (Nat.le_of_ble_eq_true rfl) ⟨Nat.le_of_ble_eq_true rfl, Nat.le_of_ble_eq_true rfl⟩ ⟨Nat.le_of_ble_eq_true rfl, Nat.le_of_ble_eq_true rfl⟩ dX9_keep_1 rfl (kIp ?_)
  refine g_ifeqB (pc' := 7) (tgt := 20) dX9_keep_4 (by decide) rfl (fun h4 => (by first | exact absurd h4 (by rw [inb_nI (by omega) (by omega)]; simp [hd]) | exact absurd (by rw [inb_nI (by omega) (by omega)]; simp [hd]) h4)) (fun h4 => ?_)
  refine g_ild2 (pc' := 8) dX9_keep_7 rfl ?_
  refine g_iconst (pc' := 9) (v := (-1)) dX9_keep_8 rfl (by decide) ?_
  refine g_icmpeq (pc' := 12) (tgt := 22) dX9_keep_9 (by decide) rfl (fun h9 => ?_) (fun h9 => ?_)
  · refine g_ald0 (pc' := 23) dX9_keep_22 rfl ?_
    refine g_getR (pc' := 26) mg.s40 (by decide) fX9_79 mg.r40_41 dX9_keep_23 rfl ?_
    refine g_ild1 (pc' := 27) dX9_keep_26 rfl ?_
    refine g_ild2 (pc' := 28) dX9_keep_27 rfl ?_
    refine g_iast (pc' := 29) (j := d) mg.s91 rfl (by omega) (by decide) dX9_keep_28 rfl ?_
    refine g_ald0 (pc' := 30) dX9_keep_29 rfl ?_
    refine g_getR (pc' := 33) mg.s40 (by decide) fX9_82 mg.r40_42 dX9_keep_30 rfl ?_
    refine g_ild1 (pc' := 34) dX9_keep_33 rfl ?_
    refine g_iconst (pc' := 35) (v := nI 0) dX9_keep_34 rfl (by decide) ?_
    refine g_iast (pc' := 36) (j := d) mg.s92 rfl (by omega) (by decide) dX9_keep_35 rfl ?_
    refine g_iconst (pc' := 37) (v := nI 1) dX9_keep_36 rfl (by decide) ?_
    refine g_iret rfl dX9_keep_37 ?_
    exact eI ⟨rfl, rfl⟩
  · refine g_ald0 (pc' := 13) dX9_keep_12 rfl ?_
    refine g_ild2 (pc' := 14) dX9_keep_13 rfl ?_
    refine g_callV (pc' := 17) (c_misBody l mg hb hb5 y) mg.s40 (by decide) wX9_isBody lX9_345 rfl rfl (Nat.le_of_ble_eq_true rfl) ⟨Nat.le_of_ble_eq_true rfl, Nat.le_of_ble_eq_true rfl⟩ ⟨Nat.le_of_ble_eq_true rfl, Nat.le_of_ble_eq_true rfl⟩ dX9_keep_14 rfl (kIp ?_)
    refine g_ifneB (pc' := 20) (tgt := 22) dX9_keep_17 (by decide) rfl (fun h17 => ?_) (fun h17 => ?_)
    · refine g_ald0 (pc' := 23) dX9_keep_22 rfl ?_
      refine g_getR (pc' := 26) mg.s40 (by decide) fX9_79 mg.r40_41 dX9_keep_23 rfl ?_
      refine g_ild1 (pc' := 27) dX9_keep_26 rfl ?_
      refine g_ild2 (pc' := 28) dX9_keep_27 rfl ?_
      refine g_iast (pc' := 29) (j := d) mg.s91 rfl (by omega) (by decide) dX9_keep_28 rfl ?_
      refine g_ald0 (pc' := 30) dX9_keep_29 rfl ?_
      refine g_getR (pc' := 33) mg.s40 (by decide) fX9_82 mg.r40_42 dX9_keep_30 rfl ?_
      refine g_ild1 (pc' := 34) dX9_keep_33 rfl ?_
      refine g_iconst (pc' := 35) (v := nI 0) dX9_keep_34 rfl (by decide) ?_
      refine g_iast (pc' := 36) (j := d) mg.s92 rfl (by omega) (by decide) dX9_keep_35 rfl ?_
      refine g_iconst (pc' := 37) (v := nI 1) dX9_keep_36 rfl (by decide) ?_
      refine g_iret rfl dX9_keep_37 ?_
      exact eI ⟨rfl, rfl⟩
    · exact (hy.elim h9 (fun q => by rw [q] at h17; cases h17)).elim

theorem c_mRowB (l : Launch) {S : Shp} {I : MI} {L : ML} {R : MR} (mg : MG S R) {x y z : Int32} (hb : inb x 6 = false ∨ (y < nI 0 ∨ nI 4 < y) ∨ nI 60 < z) : Ct l mX9_row 3 0 0 [.inr (.inr (some (40, 0))), .inl x, .inl y, .inl z] S I L R (PIp S I L R (-1)) := by
  refine Ct.of [some (.inr (.inr (some (40, 0)))), some (.inl x), some (.inl y), some (.inl z), none] (by decide) rfl (Nat.le_of_ble_eq_true rfl) ?_
  refine g_ild1 (pc' := 1) dX9_row_0 rfl ?_
  refine g_callS (pc' := 4) (c_mIsShelf l x) wX9_isShelf lX9_239 rfl rfl (Nat.le_of_ble_eq_true rfl) ⟨Nat.le_of_ble_eq_true rfl, Nat.le_of_ble_eq_true rfl⟩ ⟨Nat.le_of_ble_eq_true rfl, Nat.le_of_ble_eq_true rfl⟩ dX9_row_1 rfl (kIp ?_)
  refine g_ifeqB (pc' := 7) (tgt := 25) dX9_row_4 (by decide) rfl (fun h4 => ?_) (fun h4 => ?_)
  · refine g_iconst (pc' := 26) (v := (-1)) dX9_row_25 rfl (by decide) ?_
    refine g_iret rfl dX9_row_26 ?_
    exact eIp rfl
  · refine g_ild2 (pc' := 8) dX9_row_7 rfl ?_
    refine g_i2l (pc' := 9) dX9_row_8 rfl ?_
    refine g_lconst (pc' := 10) (v := 0) dX9_row_9 rfl (by decide) ?_
    refine g_ldc2 (pc' := 13) dX9_row_10 rfl kX9_119 ?_
    refine g_callS (pc' := 16) (c_mWI l y (nI 0) (nI 4) (A := 0) (B := 4) (by decide) (by decide)) wX9_within lX9_102 rfl rfl (Nat.le_of_ble_eq_true rfl) ⟨Nat.le_of_ble_eq_true rfl, Nat.le_of_ble_eq_true rfl⟩ ⟨Nat.le_of_ble_eq_true rfl, Nat.le_of_ble_eq_true rfl⟩ dX9_row_13 rfl (kIp ?_)
    refine g_ifeqB (pc' := 19) (tgt := 25) dX9_row_16 (by decide) rfl (fun h16 => ?_) (fun h16 => ?_)
    · refine g_iconst (pc' := 26) (v := (-1)) dX9_row_25 rfl (by decide) ?_
      refine g_iret rfl dX9_row_26 ?_
      exact eIp rfl
    · refine g_ild3 (pc' := 20) dX9_row_19 rfl ?_
      refine g_bipush (pc' := 22) (v := nI 60) dX9_row_20 rfl (by decide) ?_
      refine g_icmple (pc' := 25) (tgt := 27) dX9_row_22 (by decide) rfl (fun h22 => ?_) (fun h22 => ?_)
      · exfalso
        rcases hb with h | h | h
        · rw [h] at h4; cases h4
        · exact wi_no h h16
        · exact absurd h22 (Int32.not_le.mpr h)
      · refine g_iconst (pc' := 26) (v := (-1)) dX9_row_25 rfl (by decide) ?_
        refine g_iret rfl dX9_row_26 ?_
        exact eIp rfl

theorem c_mRowM (l : Launch) {S : Shp} {I : MI} {L : ML} {R : MR} (mg : MG S R) {d : Nat} (hd : d < 6) {s : Nat} (hs : s ≤ 4) {z : Int32} (hz : z < 0) : Ct l mX9_row 3 0 0 [.inr (.inr (some (40, 0))), .inl (nI d), .inl (nI s), .inl z] S I L R (PIp S I L R (-14)) := by
  refine Ct.of [some (.inr (.inr (some (40, 0)))), some (.inl (nI d)), some (.inl (nI s)), some (.inl z), none] (by decide) rfl (Nat.le_of_ble_eq_true rfl) ?_
  refine g_ild1 (pc' := 1) dX9_row_0 rfl ?_
  refine g_callS (pc' := 4) (c_mIsShelf l (nI d)) wX9_isShelf lX9_239 rfl rfl (Nat.le_of_ble_eq_true rfl) ⟨Nat.le_of_ble_eq_true rfl, Nat.le_of_ble_eq_true rfl⟩ ⟨Nat.le_of_ble_eq_true rfl, Nat.le_of_ble_eq_true rfl⟩ dX9_row_1 rfl (kIp ?_)
  refine g_ifeqB (pc' := 7) (tgt := 25) dX9_row_4 (by decide) rfl (fun h4 => (by first | exact absurd h4 (by rw [inb_nI (by omega) (by omega)]; simp [hd]) | exact absurd (by rw [inb_nI (by omega) (by omega)]; simp [hd]) h4)) (fun h4 => ?_)
  refine g_ild2 (pc' := 8) dX9_row_7 rfl ?_
  refine g_i2l (pc' := 9) dX9_row_8 rfl ?_
  refine g_lconst (pc' := 10) (v := 0) dX9_row_9 rfl (by decide) ?_
  refine g_ldc2 (pc' := 13) dX9_row_10 rfl kX9_119 ?_
  refine g_callS (pc' := 16) (c_mWI l (nI s) (nI 0) (nI 4) (A := 0) (B := 4) (by decide) (by decide)) wX9_within lX9_102 rfl rfl (Nat.le_of_ble_eq_true rfl) ⟨Nat.le_of_ble_eq_true rfl, Nat.le_of_ble_eq_true rfl⟩ ⟨Nat.le_of_ble_eq_true rfl, Nat.le_of_ble_eq_true rfl⟩ dX9_row_13 rfl (kIp ?_)
  refine g_ifeqB (pc' := 19) (tgt := 25) dX9_row_16 (by decide) rfl (fun h16 => (by first | exact absurd h16 (wi_yesN (by omega) (by decide)) | exact absurd (wi_yesN (by omega) (by decide)) h16)) (fun h16 => ?_)
  refine g_ild3 (pc' := 20) dX9_row_19 rfl ?_
  refine g_bipush (pc' := 22) (v := nI 60) dX9_row_20 rfl (by decide) ?_
  refine g_icmple (pc' := 25) (tgt := 27) dX9_row_22 (by decide) rfl (fun h22 => ?_) (fun h22 => (by first | exact absurd h22 (Int32.le_of_lt (Int32.lt_of_lt_of_le hz (by decide))) | exact absurd (Int32.le_of_lt (Int32.lt_of_lt_of_le hz (by decide))) h22))
  refine g_ild3 (pc' := 28) dX9_row_27 rfl ?_
  refine g_ifge (pc' := 31) (tgt := 34) dX9_row_28 (by decide) rfl (fun h28 => (by first | exact absurd h28 (Int32.not_le.mpr hz) | exact absurd (Int32.not_le.mpr hz) h28)) (fun h28 => ?_)
  refine g_bipush (pc' := 33) (v := (-14)) dX9_row_31 rfl (by decide) ?_
  refine g_iret rfl dX9_row_33 ?_
  exact eIp rfl

def zrL (L : ML) (d k : Nat) : ML := upT L (93, 0) (fun j => if 60 * d ≤ j ∧ j < 60 * d + k then 0 else L (93, 0) j)
theorem zrL_0 (L : ML) (d : Nat) : L = zrL L d 0 := by
  unfold zrL
  rw [show (fun j => if 60 * d ≤ j ∧ j < 60 * d + 0 then (0 : Int64) else L (93, 0) j) = L (93, 0) from funext fun j => if_neg (by omega)]
  exact upT_self.symm
theorem zrL_s (L : ML) (d k : Nat) : upM (zrL L d k) (93, 0) (60 * d + k) 0 = zrL L d (k + 1) := by
  unfold zrL
  funext t j
  by_cases h : t = (93, 0)
  · subst h
    rw [upM_r, upT_s, upT_s]
    simp only
    by_cases e : j = 60 * d + k
    · rw [if_pos e, if_pos (by omega)]
    · rw [if_neg e]
      by_cases e2 : 60 * d ≤ j ∧ j < 60 * d + k
      · rw [if_pos e2, if_pos (by omega)]
      · rw [if_neg e2, if_neg (by omega)]
  · rw [upM_n _ h, upT_n _ h, upT_n _ h]
theorem c_mRowS (l : Launch) {S : Shp} {I : MI} {L : ML} {R : MR} (mg : MG S R) {d : Nat} (hd : d < 6) {s q : Nat} (hs : s ≤ 4) (hq : q ≤ 60) : Ct l mX9_row 3 0 0 [.inr (.inr (some (40, 0))), .inl (nI d), .inl (nI s), .inl (nI q)] S I L R (PIl S R (fun r J L2 => r = nI 1 ∧ J = (upM (upM I (91, 0) d (nI (50 + s))) (92, 0) d (nI q)) ∧ L2 = zrL L d 60)) := by
  refine Ct.of [some (.inr (.inr (some (40, 0)))), some (.inl (nI d)), some (.inl (nI s)), some (.inl (nI q)), none] (by decide) rfl (Nat.le_of_ble_eq_true rfl) ?_
  refine g_ild1 (pc' := 1) dX9_row_0 rfl ?_
  refine g_callS (pc' := 4) (c_mIsShelf l (nI d)) wX9_isShelf lX9_239 rfl rfl (Nat.le_of_ble_eq_true rfl) ⟨Nat.le_of_ble_eq_true rfl, Nat.le_of_ble_eq_true rfl⟩ ⟨Nat.le_of_ble_eq_true rfl, Nat.le_of_ble_eq_true rfl⟩ dX9_row_1 rfl (kIp ?_)
  refine g_ifeqB (pc' := 7) (tgt := 25) dX9_row_4 (by decide) rfl (fun h4 => (by first | exact absurd h4 (by rw [inb_nI (by omega) (by omega)]; simp [hd]) | exact absurd (by rw [inb_nI (by omega) (by omega)]; simp [hd]) h4)) (fun h4 => ?_)
  refine g_ild2 (pc' := 8) dX9_row_7 rfl ?_
  refine g_i2l (pc' := 9) dX9_row_8 rfl ?_
  refine g_lconst (pc' := 10) (v := 0) dX9_row_9 rfl (by decide) ?_
  refine g_ldc2 (pc' := 13) dX9_row_10 rfl kX9_119 ?_
  refine g_callS (pc' := 16) (c_mWI l (nI s) (nI 0) (nI 4) (A := 0) (B := 4) (by decide) (by decide)) wX9_within lX9_102 rfl rfl (Nat.le_of_ble_eq_true rfl) ⟨Nat.le_of_ble_eq_true rfl, Nat.le_of_ble_eq_true rfl⟩ ⟨Nat.le_of_ble_eq_true rfl, Nat.le_of_ble_eq_true rfl⟩ dX9_row_13 rfl (kIp ?_)
  refine g_ifeqB (pc' := 19) (tgt := 25) dX9_row_16 (by decide) rfl (fun h16 => (by first | exact absurd h16 (wi_yesN (by omega) (by decide)) | exact absurd (wi_yesN (by omega) (by decide)) h16)) (fun h16 => ?_)
  refine g_ild3 (pc' := 20) dX9_row_19 rfl ?_
  refine g_bipush (pc' := 22) (v := nI 60) dX9_row_20 rfl (by decide) ?_
  refine g_icmpleN (pc' := 25) (by omega) (by omega) (tgt := 27) dX9_row_22 (by decide) rfl (fun h22 => ?_) (fun h22 => ?_)
  · refine g_ild3 (pc' := 28) dX9_row_27 rfl ?_
    refine g_ifgeN (by omega) (tgt := 34) dX9_row_28 (by decide) ?_
    refine g_ald0 (pc' := 35) dX9_row_34 rfl ?_
    refine g_getR (pc' := 38) mg.s40 (by decide) fX9_79 mg.r40_41 dX9_row_35 rfl ?_
    refine g_ild1 (pc' := 39) dX9_row_38 rfl ?_
    refine g_bipush (pc' := 41) (v := nI 50) dX9_row_39 rfl (by decide) ?_
    refine g_ild2 (pc' := 42) dX9_row_41 rfl ?_
    refine g_iaddN (pc' := 43) dX9_row_42 rfl ?_
    refine g_iast (pc' := 44) (j := d) mg.s91 rfl (by omega) (by decide) dX9_row_43 rfl ?_
    refine g_ald0 (pc' := 45) dX9_row_44 rfl ?_
    refine g_getR (pc' := 48) mg.s40 (by decide) fX9_82 mg.r40_42 dX9_row_45 rfl ?_
    refine g_ild1 (pc' := 49) dX9_row_48 rfl ?_
    refine g_ild3 (pc' := 50) dX9_row_49 rfl ?_
    refine g_iast (pc' := 51) (j := d) mg.s92 rfl (by omega) (by decide) dX9_row_50 rfl ?_
    refine g_bipush (pc' := 53) (v := nI 60) dX9_row_51 rfl (by decide) ?_
    refine g_ild1 (pc' := 54) dX9_row_53 rfl ?_
    refine g_imulN (pc' := 55) dX9_row_54 rfl ?_
    refine g_ist4 (pc' := 57) rfl (by decide) dX9_row_55 rfl ?_
    refine g_memL (zrL_0 L d) ?_
    refine g_loopL (σ := Unit) (fun _ _ => True) (fun k _ => [some (.inr (.inr (some (40, 0)))), some (.inl (nI d)), some (.inl (nI s)), some (.inl (nI q)), some (.inl (nI (60 * d + k)))]) (fun _ _ => (upM (upM I (91, 0) d (nI (50 + s))) (92, 0) d (nI q))) (fun k _ => zrL L d k) 60 0 () (by omega) trivial ?_ ?_
    · intro k _ hi hP ih
      refine g_ild4 (pc' := 59) dX9_row_57 rfl ?_
      refine g_bipush (pc' := 61) (v := nI 60) dX9_row_59 rfl (by decide) ?_
      refine g_ild1 (pc' := 62) dX9_row_61 rfl ?_
      refine g_imulN (pc' := 63) dX9_row_62 rfl ?_
      refine g_bipush (pc' := 65) (v := nI 60) dX9_row_63 rfl (by decide) ?_
      refine g_iaddN (pc' := 66) dX9_row_65 rfl ?_
      refine g_icmpgeN (pc' := 69) (by omega) (by omega) (tgt := 83) dX9_row_66 (by decide) rfl (fun h66 => ?_) (fun h66 => ?_)
      · exact absurd h66 (by omega)
      · refine g_ald0 (pc' := 70) dX9_row_69 rfl ?_
        refine g_getR (pc' := 73) mg.s40 (by decide) fX9_85 mg.r40_43 dX9_row_70 rfl ?_
        refine g_ild4 (pc' := 75) dX9_row_73 rfl ?_
        refine g_lconst (pc' := 76) (v := 0) dX9_row_75 rfl (by decide) ?_
        refine g_last (pc' := 77) (j := 60 * d + k) mg.s93 rfl (by omega) (by decide) dX9_row_76 rfl ?_
        refine g_inc4 (pc' := 80) rfl (by decide) (v := nI (60 * d + k + 1)) (nI_1 _) dX9_row_77 rfl ?_
        refine g_goto (tgt := 57) dX9_row_80 (by decide) ?_
        rw [zrL_s]
        exact ih () trivial
    · intro _ hP
      refine g_ild4 (pc' := 59) dX9_row_57 rfl ?_
      refine g_bipush (pc' := 61) (v := nI 60) dX9_row_59 rfl (by decide) ?_
      refine g_ild1 (pc' := 62) dX9_row_61 rfl ?_
      refine g_imulN (pc' := 63) dX9_row_62 rfl ?_
      refine g_bipush (pc' := 65) (v := nI 60) dX9_row_63 rfl (by decide) ?_
      refine g_iaddN (pc' := 66) dX9_row_65 rfl ?_
      refine g_icmpgeN (pc' := 69) (by omega) (by omega) (tgt := 83) dX9_row_66 (by decide) rfl (fun h66 => ?_) (fun h66 => ?_)
      · refine g_iconst (pc' := 84) (v := nI 1) dX9_row_83 rfl (by decide) ?_
        refine g_iret rfl dX9_row_84 ?_
        exact eIl ⟨rfl, rfl, rfl⟩
      · exact absurd h66 (by omega)
  · exact absurd h22 (by omega)

theorem c_mRefN (l : Launch) {S : Shp} {I : MI} {L : ML} {R : MR} (mg : MG S R) {x : Int32} (hx : inb x 6 = false) (y : Int32) : Ct l mX9_refusal 3 0 0 [.inr (.inr (some (40, 0))), .inl x, .inl y] S I L R (PIp S I L R (-1)) := by
  refine Ct.of [some (.inr (.inr (some (40, 0)))), some (.inl x), some (.inl y)] (by decide) rfl (Nat.le_of_ble_eq_true rfl) ?_
  refine g_ild1 (pc' := 1) dX9_refusal_0 rfl ?_
  refine g_callS (pc' := 4) (c_mIsShelf l x) wX9_isShelf lX9_239 rfl rfl (Nat.le_of_ble_eq_true rfl) ⟨Nat.le_of_ble_eq_true rfl, Nat.le_of_ble_eq_true rfl⟩ ⟨Nat.le_of_ble_eq_true rfl, Nat.le_of_ble_eq_true rfl⟩ dX9_refusal_1 rfl (kIp ?_)
  refine g_ifneB (pc' := 7) (tgt := 9) dX9_refusal_4 (by decide) rfl (fun h4 => (by first | exact absurd h4 (Bool.eq_false_iff.mp hx) | exact absurd (Bool.eq_false_iff.mp hx) h4)) (fun h4 => ?_)
  refine g_iconst (pc' := 8) (v := (-1)) dX9_refusal_7 rfl (by decide) ?_
  refine g_iret rfl dX9_refusal_8 ?_
  exact eIp rfl

def ShM (I : MI) (d h s z : Nat) (bd : Int32) : Prop := h < 3 ∧ (h = 0 → I (91, 0) d = -1) ∧ (h = 1 → ∃ b, b < 50 ∧ bd = nI b ∧ I (91, 0) d = nI b) ∧ (h = 2 → I (91, 0) d = nI (50 + s) ∧ I (92, 0) d = nI z)
theorem c_mRef0 (l : Launch) {S : Shp} {I : MI} {L : ML} {R : MR} (mg : MG S R) {d : Nat} (hd : d < 6) (h91 : I (91, 0) d = -1) (y : Int32) : Ct l mX9_refusal 3 0 0 [.inr (.inr (some (40, 0))), .inl (nI d), .inl y] S I L R (PIp S I L R (-11)) := by
  refine Ct.of [some (.inr (.inr (some (40, 0)))), some (.inl (nI d)), some (.inl y)] (by decide) rfl (Nat.le_of_ble_eq_true rfl) ?_
  refine g_ild1 (pc' := 1) dX9_refusal_0 rfl ?_
  refine g_callS (pc' := 4) (c_mIsShelf l (nI d)) wX9_isShelf lX9_239 rfl rfl (Nat.le_of_ble_eq_true rfl) ⟨Nat.le_of_ble_eq_true rfl, Nat.le_of_ble_eq_true rfl⟩ ⟨Nat.le_of_ble_eq_true rfl, Nat.le_of_ble_eq_true rfl⟩ dX9_refusal_1 rfl (kIp ?_)
  refine g_ifneB (pc' := 7) (tgt := 9) dX9_refusal_4 (by decide) rfl (fun h4 => ?_) (fun h4 => (by first | exact absurd h4 (by rw [inb_nI (by omega) (by omega)]; simp [hd]) | exact absurd (by rw [inb_nI (by omega) (by omega)]; simp [hd]) h4))
  refine g_ald0 (pc' := 10) dX9_refusal_9 rfl ?_
  refine g_getR (pc' := 13) mg.s40 (by decide) fX9_79 mg.r40_41 dX9_refusal_10 rfl ?_
  refine g_ild1 (pc' := 14) dX9_refusal_13 rfl ?_
  refine g_iald (pc' := 15) (j := d) mg.s91 rfl (by omega) (by decide) h91 dX9_refusal_14 rfl ?_
  refine g_ifge (pc' := 18) (tgt := 21) dX9_refusal_15 (by decide) rfl (fun h15 => (by first | exact absurd h15 (by decide : ¬ (0 : Int32) ≤ -1) | exact absurd (by decide : ¬ (0 : Int32) ≤ -1) h15)) (fun h15 => ?_)
  refine g_bipush (pc' := 20) (v := (-11)) dX9_refusal_18 rfl (by decide) ?_
  refine g_iret rfl dX9_refusal_20 ?_
  exact eIp rfl

theorem c_mRef1 (l : Launch) {S : Shp} {I : MI} {L : ML} {R : MR} (mg : MG S R) {d : Nat} (hd : d < 6) {b : Nat} (hb : b < 50) (h91 : I (91, 0) d = nI b) (y : Int32) : Ct l mX9_refusal 3 0 0 [.inr (.inr (some (40, 0))), .inl (nI d), .inl y] S I L R (PIp S I L R (-12)) := by
  refine Ct.of [some (.inr (.inr (some (40, 0)))), some (.inl (nI d)), some (.inl y)] (by decide) rfl (Nat.le_of_ble_eq_true rfl) ?_
  refine g_ild1 (pc' := 1) dX9_refusal_0 rfl ?_
  refine g_callS (pc' := 4) (c_mIsShelf l (nI d)) wX9_isShelf lX9_239 rfl rfl (Nat.le_of_ble_eq_true rfl) ⟨Nat.le_of_ble_eq_true rfl, Nat.le_of_ble_eq_true rfl⟩ ⟨Nat.le_of_ble_eq_true rfl, Nat.le_of_ble_eq_true rfl⟩ dX9_refusal_1 rfl (kIp ?_)
  refine g_ifneB (pc' := 7) (tgt := 9) dX9_refusal_4 (by decide) rfl (fun h4 => ?_) (fun h4 => (by first | exact absurd h4 (by rw [inb_nI (by omega) (by omega)]; simp [hd]) | exact absurd (by rw [inb_nI (by omega) (by omega)]; simp [hd]) h4))
  refine g_ald0 (pc' := 10) dX9_refusal_9 rfl ?_
  refine g_getR (pc' := 13) mg.s40 (by decide) fX9_79 mg.r40_41 dX9_refusal_10 rfl ?_
  refine g_ild1 (pc' := 14) dX9_refusal_13 rfl ?_
  refine g_iald (pc' := 15) (j := d) mg.s91 rfl (by omega) (by decide) h91 dX9_refusal_14 rfl ?_
  refine g_ifgeN (by omega) (tgt := 21) dX9_refusal_15 (by decide) ?_
  refine g_ald0 (pc' := 22) dX9_refusal_21 rfl ?_
  refine g_getR (pc' := 25) mg.s40 (by decide) fX9_79 mg.r40_41 dX9_refusal_22 rfl ?_
  refine g_ild1 (pc' := 26) dX9_refusal_25 rfl ?_
  refine g_iald (pc' := 27) (j := d) mg.s91 rfl (by omega) (by decide) h91 dX9_refusal_26 rfl ?_
  refine g_bipush (pc' := 29) (v := nI 50) dX9_refusal_27 rfl (by decide) ?_
  refine g_icmpgeN (pc' := 32) (by omega) (by omega) (tgt := 35) dX9_refusal_29 (by decide) rfl (fun h29 => ?_) (fun h29 => ?_)
  · exact absurd h29 (by omega)
  · refine g_bipush (pc' := 34) (v := (-12)) dX9_refusal_32 rfl (by decide) ?_
    refine g_iret rfl dX9_refusal_34 ?_
    exact eIp rfl

theorem c_mRef2 (l : Launch) {S : Shp} {I : MI} {L : ML} {R : MR} (mg : MG S R) {d : Nat} (hd : d < 6) {s z : Nat} (hs : s ≤ 4) (hz6 : z ≤ 60) (h91 : I (91, 0) d = nI (50 + s)) (h92 : I (92, 0) d = nI z) (y : Int32) : Ct l mX9_refusal 3 0 0 [.inr (.inr (some (40, 0))), .inl (nI d), .inl y] S I L R (PIp S I L R (if inb y z = true then 0 else -13)) := by
  refine Ct.of [some (.inr (.inr (some (40, 0)))), some (.inl (nI d)), some (.inl y)] (by decide) rfl (Nat.le_of_ble_eq_true rfl) ?_
  refine g_ild1 (pc' := 1) dX9_refusal_0 rfl ?_
  refine g_callS (pc' := 4) (c_mIsShelf l (nI d)) wX9_isShelf lX9_239 rfl rfl (Nat.le_of_ble_eq_true rfl) ⟨Nat.le_of_ble_eq_true rfl, Nat.le_of_ble_eq_true rfl⟩ ⟨Nat.le_of_ble_eq_true rfl, Nat.le_of_ble_eq_true rfl⟩ dX9_refusal_1 rfl (kIp ?_)
  refine g_ifneB (pc' := 7) (tgt := 9) dX9_refusal_4 (by decide) rfl (fun h4 => ?_) (fun h4 => (by first | exact absurd h4 (by rw [inb_nI (by omega) (by omega)]; simp [hd]) | exact absurd (by rw [inb_nI (by omega) (by omega)]; simp [hd]) h4))
  refine g_ald0 (pc' := 10) dX9_refusal_9 rfl ?_
  refine g_getR (pc' := 13) mg.s40 (by decide) fX9_79 mg.r40_41 dX9_refusal_10 rfl ?_
  refine g_ild1 (pc' := 14) dX9_refusal_13 rfl ?_
  refine g_iald (pc' := 15) (j := d) mg.s91 rfl (by omega) (by decide) h91 dX9_refusal_14 rfl ?_
  refine g_ifgeN (by omega) (tgt := 21) dX9_refusal_15 (by decide) ?_
  refine g_ald0 (pc' := 22) dX9_refusal_21 rfl ?_
  refine g_getR (pc' := 25) mg.s40 (by decide) fX9_79 mg.r40_41 dX9_refusal_22 rfl ?_
  refine g_ild1 (pc' := 26) dX9_refusal_25 rfl ?_
  refine g_iald (pc' := 27) (j := d) mg.s91 rfl (by omega) (by decide) h91 dX9_refusal_26 rfl ?_
  refine g_bipush (pc' := 29) (v := nI 50) dX9_refusal_27 rfl (by decide) ?_
  refine g_icmpgeN (pc' := 32) (by omega) (by omega) (tgt := 35) dX9_refusal_29 (by decide) rfl (fun h29 => ?_) (fun h29 => ?_)
  · refine g_ild2 (pc' := 36) dX9_refusal_35 rfl ?_
    refine g_iflt (pc' := 39) (tgt := 53) dX9_refusal_36 (by decide) rfl (fun h36 => ?_) (fun h36 => ?_)
    · refine g_bipush (pc' := 55) (v := (-13)) dX9_refusal_53 rfl (by decide) ?_
      refine g_iret rfl dX9_refusal_55 ?_
      refine eIp ?_
      unfold inb
      first
        | (rw [decide_eq_false (Int32.not_le.mpr h36)]; rfl)
        | (rw [decide_eq_true (Int32.not_lt.mp h36), decide_eq_true (Int32.not_le.mp h46)]; rfl)
        | (rw [decide_eq_true (Int32.not_lt.mp h36), decide_eq_false (Int32.not_lt.mpr h46)]; rfl)
    · refine g_ild2 (pc' := 40) dX9_refusal_39 rfl ?_
      refine g_ald0 (pc' := 41) dX9_refusal_40 rfl ?_
      refine g_getR (pc' := 44) mg.s40 (by decide) fX9_82 mg.r40_42 dX9_refusal_41 rfl ?_
      refine g_ild1 (pc' := 45) dX9_refusal_44 rfl ?_
      refine g_iald (pc' := 46) (j := d) mg.s92 rfl (by omega) (by decide) h92 dX9_refusal_45 rfl ?_
      refine g_icmpge (pc' := 49) (tgt := 53) dX9_refusal_46 (by decide) rfl (fun h46 => ?_) (fun h46 => ?_)
      · refine g_bipush (pc' := 55) (v := (-13)) dX9_refusal_53 rfl (by decide) ?_
        refine g_iret rfl dX9_refusal_55 ?_
        refine eIp ?_
        unfold inb
        first
          | (rw [decide_eq_false (Int32.not_le.mpr h36)]; rfl)
          | (rw [decide_eq_true (Int32.not_lt.mp h36), decide_eq_true (Int32.not_le.mp h46)]; rfl)
          | (rw [decide_eq_true (Int32.not_lt.mp h36), decide_eq_false (Int32.not_lt.mpr h46)]; rfl)
      · refine g_iconst (pc' := 50) (v := nI 0) dX9_refusal_49 rfl (by decide) ?_
        refine g_goto (tgt := 55) dX9_refusal_50 (by decide) ?_
        refine g_iret rfl dX9_refusal_55 ?_
        refine eIp ?_
        unfold inb
        first
          | (rw [decide_eq_false (Int32.not_le.mpr h36)]; rfl)
          | (rw [decide_eq_true (Int32.not_lt.mp h36), decide_eq_true (Int32.not_le.mp h46)]; rfl)
          | (rw [decide_eq_true (Int32.not_lt.mp h36), decide_eq_false (Int32.not_lt.mpr h46)]; rfl)
  · exact absurd h29 (by omega)

theorem c_mRef (l : Launch) {S : Shp} {I : MI} {L : ML} {R : MR} (mg : MG S R) {d : Nat} (hd : d < 6) {h s z : Nat} {bd : Int32} (hm : ShM I d h s z bd) (hs : s ≤ 4) (hz6 : z ≤ 60) (y : Int32) : Ct l mX9_refusal 3 0 0 [.inr (.inr (some (40, 0))), .inl (nI d), .inl y] S I L R (PIp S I L R (rfV h z y)) := by
  obtain ⟨h3, m0, m1, m2⟩ := hm
  rcases (show h = 0 ∨ h = 1 ∨ h = 2 by omega) with rfl | rfl | rfl
  · exact c_mRef0 l mg hd (m0 rfl) y
  · obtain ⟨b, hb, -, h91⟩ := m1 rfl
    exact c_mRef1 l mg hd hb h91 y
  · exact c_mRef2 l mg hd hs hz6 (m2 rfl).1 (m2 rfl).2 y
theorem c_mAsSort (l : Launch) {S : Shp} {I : MI} {L : ML} {R : MR} {s : Nat} (hs : s ≤ 4) (v : Int64) : Ct l mX9_asSort 1 0 0 [.inl (nI s), .inr (.inl v)] S I L R (PJp S I L R (lowI s v)) := by
  refine Ct.of [some (.inl (nI s)), some (.inr (.inl v)), none] (by decide) rfl (Nat.le_of_ble_eq_true rfl) ?_
  refine g_ild0 (pc' := 1) dX9_asSort_0 rfl ?_
  refine g_ifneN (pc' := 4) (by omega) (tgt := 11) dX9_asSort_1 (by decide) rfl (fun h1 => ?_) (fun h1 => ?_)
  · refine g_ild0 (pc' := 12) dX9_asSort_11 rfl ?_
    refine g_iconst (pc' := 13) (v := nI 1) dX9_asSort_12 rfl (by decide) ?_
    refine g_icmpneN (pc' := 16) (by omega) (by omega) (tgt := 23) dX9_asSort_13 (by decide) rfl (fun h13 => ?_) (fun h13 => ?_)
    · refine g_ild0 (pc' := 24) dX9_asSort_23 rfl ?_
      refine g_iconst (pc' := 25) (v := nI 2) dX9_asSort_24 rfl (by decide) ?_
      refine g_icmpneN (pc' := 28) (by omega) (by omega) (tgt := 34) dX9_asSort_25 (by decide) rfl (fun h25 => ?_) (fun h25 => ?_)
      · refine g_ild0 (pc' := 35) dX9_asSort_34 rfl ?_
        refine g_iconst (pc' := 36) (v := nI 4) dX9_asSort_35 rfl (by decide) ?_
        refine g_icmpneN (pc' := 39) (by omega) (by omega) (tgt := 53) dX9_asSort_36 (by decide) rfl (fun h36 => ?_) (fun h36 => ?_)
        · refine g_lld1 (pc' := 54) dX9_asSort_53 rfl ?_
          refine g_lret rfl dX9_asSort_54 ?_
          refine eJp ?_
          unfold lowI
          first
            | (rw [if_pos (by omega)]; done)
            | (rw [if_neg (by omega), if_pos (by omega)]; done)
            | (rw [if_neg (by omega), if_neg (by omega), if_pos (by omega)]; done)
            | (rw [if_neg (by omega), if_neg (by omega), if_neg (by omega), if_pos (by omega)]; done)
            | (rw [if_neg (by omega), if_neg (by omega), if_neg (by omega), if_neg (by omega), if_pos ((lg_cmp_eq _ _).mp h42)]; done)
            | (rw [if_neg (by omega), if_neg (by omega), if_neg (by omega), if_neg (by omega), if_neg (fun q => h42 ((lg_cmp_eq _ _).mpr q))])
        · refine g_lld1 (pc' := 40) dX9_asSort_39 rfl ?_
          refine g_lconst (pc' := 41) (v := 0) dX9_asSort_40 rfl (by decide) ?_
          refine g_lcmp (pc' := 42) dX9_asSort_41 rfl ?_
          refine g_ifeq (pc' := 45) (tgt := 49) dX9_asSort_42 (by decide) rfl (fun h42 => ?_) (fun h42 => ?_)
          · refine g_lconst (pc' := 50) (v := 0) dX9_asSort_49 rfl (by decide) ?_
            refine g_goto (tgt := 54) dX9_asSort_50 (by decide) ?_
            refine g_lret rfl dX9_asSort_54 ?_
            refine eJp ?_
            unfold lowI
            first
              | (rw [if_pos (by omega)]; done)
              | (rw [if_neg (by omega), if_pos (by omega)]; done)
              | (rw [if_neg (by omega), if_neg (by omega), if_pos (by omega)]; done)
              | (rw [if_neg (by omega), if_neg (by omega), if_neg (by omega), if_pos (by omega)]; done)
              | (rw [if_neg (by omega), if_neg (by omega), if_neg (by omega), if_neg (by omega), if_pos ((lg_cmp_eq _ _).mp h42)]; done)
              | (rw [if_neg (by omega), if_neg (by omega), if_neg (by omega), if_neg (by omega), if_neg (fun q => h42 ((lg_cmp_eq _ _).mpr q))])
          · refine g_lconst (pc' := 46) (v := 1) dX9_asSort_45 rfl (by decide) ?_
            refine g_goto (tgt := 54) dX9_asSort_46 (by decide) ?_
            refine g_lret rfl dX9_asSort_54 ?_
            refine eJp ?_
            unfold lowI
            first
              | (rw [if_pos (by omega)]; done)
              | (rw [if_neg (by omega), if_pos (by omega)]; done)
              | (rw [if_neg (by omega), if_neg (by omega), if_pos (by omega)]; done)
              | (rw [if_neg (by omega), if_neg (by omega), if_neg (by omega), if_pos (by omega)]; done)
              | (rw [if_neg (by omega), if_neg (by omega), if_neg (by omega), if_neg (by omega), if_pos ((lg_cmp_eq _ _).mp h42)]; done)
              | (rw [if_neg (by omega), if_neg (by omega), if_neg (by omega), if_neg (by omega), if_neg (fun q => h42 ((lg_cmp_eq _ _).mpr q))])
      · refine g_lld1 (pc' := 29) dX9_asSort_28 rfl ?_
        refine g_l2i (pc' := 30) dX9_asSort_29 rfl ?_
        refine g_i2l (pc' := 31) dX9_asSort_30 rfl ?_
        refine g_goto (tgt := 54) dX9_asSort_31 (by decide) ?_
        refine g_lret rfl dX9_asSort_54 ?_
        refine eJp ?_
        unfold lowI
        first
          | (rw [if_pos (by omega)]; done)
          | (rw [if_neg (by omega), if_pos (by omega)]; done)
          | (rw [if_neg (by omega), if_neg (by omega), if_pos (by omega)]; done)
          | (rw [if_neg (by omega), if_neg (by omega), if_neg (by omega), if_pos (by omega)]; done)
          | (rw [if_neg (by omega), if_neg (by omega), if_neg (by omega), if_neg (by omega), if_pos ((lg_cmp_eq _ _).mp h42)]; done)
          | (rw [if_neg (by omega), if_neg (by omega), if_neg (by omega), if_neg (by omega), if_neg (fun q => h42 ((lg_cmp_eq _ _).mpr q))])
    · refine g_lld1 (pc' := 17) dX9_asSort_16 rfl ?_
      refine g_l2i (pc' := 18) dX9_asSort_17 rfl ?_
      refine g_i2s (pc' := 19) dX9_asSort_18 rfl ?_
      refine g_i2l (pc' := 20) dX9_asSort_19 rfl ?_
      refine g_goto (tgt := 54) dX9_asSort_20 (by decide) ?_
      refine g_lret rfl dX9_asSort_54 ?_
      refine eJp ?_
      unfold lowI
      first
        | (rw [if_pos (by omega)]; done)
        | (rw [if_neg (by omega), if_pos (by omega)]; done)
        | (rw [if_neg (by omega), if_neg (by omega), if_pos (by omega)]; done)
        | (rw [if_neg (by omega), if_neg (by omega), if_neg (by omega), if_pos (by omega)]; done)
        | (rw [if_neg (by omega), if_neg (by omega), if_neg (by omega), if_neg (by omega), if_pos ((lg_cmp_eq _ _).mp h42)]; done)
        | (rw [if_neg (by omega), if_neg (by omega), if_neg (by omega), if_neg (by omega), if_neg (fun q => h42 ((lg_cmp_eq _ _).mpr q))])
  · refine g_lld1 (pc' := 5) dX9_asSort_4 rfl ?_
    refine g_l2i (pc' := 6) dX9_asSort_5 rfl ?_
    refine g_i2b (pc' := 7) dX9_asSort_6 rfl ?_
    refine g_i2l (pc' := 8) dX9_asSort_7 rfl ?_
    refine g_goto (tgt := 54) dX9_asSort_8 (by decide) ?_
    refine g_lret rfl dX9_asSort_54 ?_
    refine eJp ?_
    unfold lowI
    first
      | (rw [if_pos (by omega)]; done)
      | (rw [if_neg (by omega), if_pos (by omega)]; done)
      | (rw [if_neg (by omega), if_neg (by omega), if_pos (by omega)]; done)
      | (rw [if_neg (by omega), if_neg (by omega), if_neg (by omega), if_pos (by omega)]; done)
      | (rw [if_neg (by omega), if_neg (by omega), if_neg (by omega), if_neg (by omega), if_pos ((lg_cmp_eq _ _).mp h42)]; done)
      | (rw [if_neg (by omega), if_neg (by omega), if_neg (by omega), if_neg (by omega), if_neg (fun q => h42 ((lg_cmp_eq _ _).mpr q))])

theorem c_mPutN (l : Launch) {S : Shp} {I : MI} {L : ML} {R : MR} (mg : MG S R) {x : Int32} (hx : inb x 6 = false) (y : Int32) (v : Int64) : Ct l mX9_put 4 0 0 [.inr (.inr (some (40, 0))), .inl x, .inl y, .inr (.inl v)] S I L R (PIp S I L R (-1)) := by
  refine Ct.of [some (.inr (.inr (some (40, 0)))), some (.inl x), some (.inl y), some (.inr (.inl v)), none, none] (by decide) rfl (Nat.le_of_ble_eq_true rfl) ?_
  refine g_ald0 (pc' := 1) dX9_put_0 rfl ?_
  refine g_ild1 (pc' := 2) dX9_put_1 rfl ?_
  refine g_ild2 (pc' := 3) dX9_put_2 rfl ?_
  refine g_callV (pc' := 6) (c_mRefN l mg hx y) mg.s40 (by decide) wX9_refusal lX9_350 rfl rfl (Nat.le_of_ble_eq_true rfl) ⟨Nat.le_of_ble_eq_true rfl, Nat.le_of_ble_eq_true rfl⟩ ⟨Nat.le_of_ble_eq_true rfl, Nat.le_of_ble_eq_true rfl⟩ dX9_put_3 rfl (kIp ?_)
  refine g_ist5 (pc' := 8) rfl (by decide) dX9_put_6 rfl ?_
  refine g_ild5 (pc' := 10) dX9_put_8 rfl ?_
  refine g_ifne (pc' := 13) (tgt := 37) dX9_put_10 (by decide) rfl (fun h10 => ?_) (fun h10 => (by first | exact absurd h10 (by decide : ¬ (-1 : Int32) = 0) | exact absurd (by decide : ¬ (-1 : Int32) = 0) h10))
  refine g_ild5 (pc' := 39) dX9_put_37 rfl ?_
  refine g_ifne (pc' := 42) (tgt := 46) dX9_put_39 (by decide) rfl (fun h39 => ?_) (fun h39 => (by first | exact absurd h39 (by decide : ¬ (-1 : Int32) = 0) | exact absurd (by decide : ¬ (-1 : Int32) = 0) h39))
  refine g_ild5 (pc' := 48) dX9_put_46 rfl ?_
  refine g_iret rfl dX9_put_48 ?_
  exact eIp rfl

theorem c_mPutR (l : Launch) {S : Shp} {I : MI} {L : ML} {R : MR} (mg : MG S R) {d : Nat} (hd : d < 6) {h s z : Nat} {bd : Int32} (hm : ShM I d h s z bd) (hs : s ≤ 4) (hz6 : z ≤ 60) {y : Int32} (v : Int64) (hr : ¬ rfV h z y = 0) : Ct l mX9_put 4 0 0 [.inr (.inr (some (40, 0))), .inl (nI d), .inl y, .inr (.inl v)] S I L R (PIp S I L R (rfV h z y)) := by
  refine Ct.of [some (.inr (.inr (some (40, 0)))), some (.inl (nI d)), some (.inl y), some (.inr (.inl v)), none, none] (by decide) rfl (Nat.le_of_ble_eq_true rfl) ?_
  refine g_ald0 (pc' := 1) dX9_put_0 rfl ?_
  refine g_ild1 (pc' := 2) dX9_put_1 rfl ?_
  refine g_ild2 (pc' := 3) dX9_put_2 rfl ?_
  refine g_callV (pc' := 6) (c_mRef l mg hd hm hs hz6 y) mg.s40 (by decide) wX9_refusal lX9_350 rfl rfl (Nat.le_of_ble_eq_true rfl) ⟨Nat.le_of_ble_eq_true rfl, Nat.le_of_ble_eq_true rfl⟩ ⟨Nat.le_of_ble_eq_true rfl, Nat.le_of_ble_eq_true rfl⟩ dX9_put_3 rfl (kIp ?_)
  refine g_ist5 (pc' := 8) rfl (by decide) dX9_put_6 rfl ?_
  refine g_ild5 (pc' := 10) dX9_put_8 rfl ?_
  refine g_ifne (pc' := 13) (tgt := 37) dX9_put_10 (by decide) rfl (fun h10 => ?_) (fun h10 => (by first | exact absurd h10 hr | exact absurd hr h10))
  refine g_ild5 (pc' := 39) dX9_put_37 rfl ?_
  refine g_ifne (pc' := 42) (tgt := 46) dX9_put_39 (by decide) rfl (fun h39 => ?_) (fun h39 => (by first | exact absurd h39 hr | exact absurd hr h39))
  refine g_ild5 (pc' := 48) dX9_put_46 rfl ?_
  refine g_iret rfl dX9_put_48 ?_
  exact eIp rfl

theorem c_mPutS (l : Launch) {S : Shp} {I : MI} {L : ML} {R : MR} (mg : MG S R) {d : Nat} (hd : d < 6) {s z t : Nat} (h91 : I (91, 0) d = nI (50 + s)) (h92 : I (92, 0) d = nI z) (hs : s ≤ 4) (hz6 : z ≤ 60) (ht : t < z) (v : Int64) : Ct l mX9_put 4 0 0 [.inr (.inr (some (40, 0))), .inl (nI d), .inl (nI t), .inr (.inl v)] S I L R (PIl S R (fun r J L2 => r = nI 1 ∧ J = I ∧ L2 = upM L (93, 0) (60 * d + t) (lowI s v))) := by
  have hr0 : (if inb (nI t) z = true then (0 : Int32) else -13) = 0 := by rw [inb_nI (by omega) (by omega), if_pos (by simp [ht])]
  refine Ct.of [some (.inr (.inr (some (40, 0)))), some (.inl (nI d)), some (.inl (nI t)), some (.inr (.inl v)), none, none] (by decide) rfl (Nat.le_of_ble_eq_true rfl) ?_
  refine g_ald0 (pc' := 1) dX9_put_0 rfl ?_
  refine g_ild1 (pc' := 2) dX9_put_1 rfl ?_
  refine g_ild2 (pc' := 3) dX9_put_2 rfl ?_
  refine g_callV (pc' := 6) (c_mRef2 l mg hd hs hz6 h91 h92 (nI t)) mg.s40 (by decide) wX9_refusal lX9_350 rfl rfl (Nat.le_of_ble_eq_true rfl) ⟨Nat.le_of_ble_eq_true rfl, Nat.le_of_ble_eq_true rfl⟩ ⟨Nat.le_of_ble_eq_true rfl, Nat.le_of_ble_eq_true rfl⟩ dX9_put_3 rfl (kIp ?_)
  refine g_topi (v := 0) hr0 ?_
  refine g_ist5 (pc' := 8) rfl (by decide) dX9_put_6 rfl ?_
  refine g_ild5 (pc' := 10) dX9_put_8 rfl ?_
  refine g_ifne (pc' := 13) (tgt := 37) dX9_put_10 (by decide) rfl (fun h10 => (by first | exact absurd h10 (rfl : (0 : Int32) = 0) | exact absurd (rfl : (0 : Int32) = 0) h10)) (fun h10 => ?_)
  refine g_ald0 (pc' := 14) dX9_put_13 rfl ?_
  refine g_getR (pc' := 17) mg.s40 (by decide) fX9_85 mg.r40_43 dX9_put_14 rfl ?_
  refine g_bipush (pc' := 19) (v := nI 60) dX9_put_17 rfl (by decide) ?_
  refine g_ild1 (pc' := 20) dX9_put_19 rfl ?_
  refine g_imulN (pc' := 21) dX9_put_20 rfl ?_
  refine g_ild2 (pc' := 22) dX9_put_21 rfl ?_
  refine g_iaddN (pc' := 23) dX9_put_22 rfl ?_
  refine g_ald0 (pc' := 24) dX9_put_23 rfl ?_
  refine g_getR (pc' := 27) mg.s40 (by decide) fX9_79 mg.r40_41 dX9_put_24 rfl ?_
  refine g_ild1 (pc' := 28) dX9_put_27 rfl ?_
  refine g_iald (pc' := 29) (j := d) mg.s91 rfl (by omega) (by decide) h91 dX9_put_28 rfl ?_
  refine g_bipush (pc' := 31) (v := nI 50) dX9_put_29 rfl (by decide) ?_
  refine g_isub (pc' := 32) dX9_put_31 rfl ?_
  refine g_topi (v := nI s) (by rw [pk_sub (by omega), Nat.add_sub_cancel_left]) ?_
  refine g_lld3 (pc' := 33) dX9_put_32 rfl ?_
  refine g_callS (pc' := 36) (c_mAsSort l hs v) wX9_asSort lX9_353 rfl rfl (Nat.le_of_ble_eq_true rfl) ⟨Nat.le_of_ble_eq_true rfl, Nat.le_of_ble_eq_true rfl⟩ ⟨Nat.le_of_ble_eq_true rfl, Nat.le_of_ble_eq_true rfl⟩ dX9_put_33 rfl (kJp ?_)
  refine g_last (pc' := 37) (j := (60 * d) + t) mg.s93 rfl (by omega) (by decide) dX9_put_36 rfl ?_
  refine g_ild5 (pc' := 39) dX9_put_37 rfl ?_
  refine g_ifne (pc' := 42) (tgt := 46) dX9_put_39 (by decide) rfl (fun h39 => (by first | exact absurd h39 (rfl : (0 : Int32) = 0) | exact absurd (rfl : (0 : Int32) = 0) h39)) (fun h39 => ?_)
  refine g_iconst (pc' := 43) (v := nI 1) dX9_put_42 rfl (by decide) ?_
  refine g_goto (tgt := 48) dX9_put_43 (by decide) ?_
  refine g_iret rfl dX9_put_48 ?_
  exact eIl ⟨rfl, rfl, rfl⟩

theorem c_mElN (l : Launch) {S : Shp} {I : MI} {L : ML} {R : MR} (mg : MG S R) {x : Int32} (hx : inb x 6 = false) (y : Int32) : Ct l mX9_element 4 0 0 [.inr (.inr (some (40, 0))), .inl x, .inl y] S I L R (PJp S I L R (-9223372036854775808)) := by
  refine Ct.of [some (.inr (.inr (some (40, 0)))), some (.inl x), some (.inl y)] (by decide) rfl (Nat.le_of_ble_eq_true rfl) ?_
  refine g_ald0 (pc' := 1) dX9_element_0 rfl ?_
  refine g_ild1 (pc' := 2) dX9_element_1 rfl ?_
  refine g_ild2 (pc' := 3) dX9_element_2 rfl ?_
  refine g_callV (pc' := 6) (c_mRefN l mg hx y) mg.s40 (by decide) wX9_refusal lX9_350 rfl rfl (Nat.le_of_ble_eq_true rfl) ⟨Nat.le_of_ble_eq_true rfl, Nat.le_of_ble_eq_true rfl⟩ ⟨Nat.le_of_ble_eq_true rfl, Nat.le_of_ble_eq_true rfl⟩ dX9_element_3 rfl (kIp ?_)
  refine g_ifeq (pc' := 9) (tgt := 15) dX9_element_6 (by decide) rfl (fun h6 => (by first | exact absurd h6 (by decide : ¬ (-1 : Int32) = 0) | exact absurd (by decide : ¬ (-1 : Int32) = 0) h6)) (fun h6 => ?_)
  refine g_ldc2 (pc' := 12) dX9_element_9 rfl kX9_359 ?_
  refine g_goto (tgt := 26) dX9_element_12 (by decide) ?_
  refine g_lret rfl dX9_element_26 ?_
  exact eJp rfl

theorem c_mElR (l : Launch) {S : Shp} {I : MI} {L : ML} {R : MR} (mg : MG S R) {d : Nat} (hd : d < 6) {h s z : Nat} {bd : Int32} (hm : ShM I d h s z bd) (hs : s ≤ 4) (hz6 : z ≤ 60) {y : Int32} (hr : ¬ rfV h z y = 0) : Ct l mX9_element 4 0 0 [.inr (.inr (some (40, 0))), .inl (nI d), .inl y] S I L R (PJp S I L R (-9223372036854775808)) := by
  refine Ct.of [some (.inr (.inr (some (40, 0)))), some (.inl (nI d)), some (.inl y)] (by decide) rfl (Nat.le_of_ble_eq_true rfl) ?_
  refine g_ald0 (pc' := 1) dX9_element_0 rfl ?_
  refine g_ild1 (pc' := 2) dX9_element_1 rfl ?_
  refine g_ild2 (pc' := 3) dX9_element_2 rfl ?_
  refine g_callV (pc' := 6) (c_mRef l mg hd hm hs hz6 y) mg.s40 (by decide) wX9_refusal lX9_350 rfl rfl (Nat.le_of_ble_eq_true rfl) ⟨Nat.le_of_ble_eq_true rfl, Nat.le_of_ble_eq_true rfl⟩ ⟨Nat.le_of_ble_eq_true rfl, Nat.le_of_ble_eq_true rfl⟩ dX9_element_3 rfl (kIp ?_)
  refine g_ifeq (pc' := 9) (tgt := 15) dX9_element_6 (by decide) rfl (fun h6 => (by first | exact absurd h6 hr | exact absurd hr h6)) (fun h6 => ?_)
  refine g_ldc2 (pc' := 12) dX9_element_9 rfl kX9_359 ?_
  refine g_goto (tgt := 26) dX9_element_12 (by decide) ?_
  refine g_lret rfl dX9_element_26 ?_
  exact eJp rfl

theorem c_mElS (l : Launch) {S : Shp} {I : MI} {L : ML} {R : MR} (mg : MG S R) {d : Nat} (hd : d < 6) {s z t : Nat} (h91 : I (91, 0) d = nI (50 + s)) (h92 : I (92, 0) d = nI z) (hs : s ≤ 4) (hz6 : z ≤ 60) (ht : t < z) : Ct l mX9_element 4 0 0 [.inr (.inr (some (40, 0))), .inl (nI d), .inl (nI t)] S I L R (PJp S I L R (L (93, 0) (60 * d + t))) := by
  have hr0 : (if inb (nI t) z = true then (0 : Int32) else -13) = 0 := by rw [inb_nI (by omega) (by omega), if_pos (by simp [ht])]
  refine Ct.of [some (.inr (.inr (some (40, 0)))), some (.inl (nI d)), some (.inl (nI t))] (by decide) rfl (Nat.le_of_ble_eq_true rfl) ?_
  refine g_ald0 (pc' := 1) dX9_element_0 rfl ?_
  refine g_ild1 (pc' := 2) dX9_element_1 rfl ?_
  refine g_ild2 (pc' := 3) dX9_element_2 rfl ?_
  refine g_callV (pc' := 6) (c_mRef2 l mg hd hs hz6 h91 h92 (nI t)) mg.s40 (by decide) wX9_refusal lX9_350 rfl rfl (Nat.le_of_ble_eq_true rfl) ⟨Nat.le_of_ble_eq_true rfl, Nat.le_of_ble_eq_true rfl⟩ ⟨Nat.le_of_ble_eq_true rfl, Nat.le_of_ble_eq_true rfl⟩ dX9_element_3 rfl (kIp ?_)
  refine g_topi (v := 0) hr0 ?_
  refine g_ifeq (pc' := 9) (tgt := 15) dX9_element_6 (by decide) rfl (fun h6 => ?_) (fun h6 => (by first | exact absurd h6 (rfl : (0 : Int32) = 0) | exact absurd (rfl : (0 : Int32) = 0) h6))
  refine g_ald0 (pc' := 16) dX9_element_15 rfl ?_
  refine g_getR (pc' := 19) mg.s40 (by decide) fX9_85 mg.r40_43 dX9_element_16 rfl ?_
  refine g_bipush (pc' := 21) (v := nI 60) dX9_element_19 rfl (by decide) ?_
  refine g_ild1 (pc' := 22) dX9_element_21 rfl ?_
  refine g_imulN (pc' := 23) dX9_element_22 rfl ?_
  refine g_ild2 (pc' := 24) dX9_element_23 rfl ?_
  refine g_iaddN (pc' := 25) dX9_element_24 rfl ?_
  refine g_lald (pc' := 26) (j := (60 * d) + t) mg.s93 rfl (by omega) (by decide) rfl dX9_element_25 rfl ?_
  refine g_lret rfl dX9_element_26 ?_
  exact eJp rfl
