/-! the model: weights, coming -/
def TL (B : Nat → Nat) (len lj : Nat) (I : MI) : Prop := lj < 6 ∧ len ≤ 120 ∧ (∀ i, i < len → B i < 256) ∧ I (61, 0) lj = nI len ∧ (∀ i, i < len → I (60, 0) (120 * lj + i) = nI (B i)) ∧ (cText B len).2.1 = none
theorem TL.to {B : Nat → Nat} {len lj : Nat} {I J : MI} (h : TL B len lj I) (h1 : ∀ i, J (61, 0) i = I (61, 0) i) (h2 : ∀ i, J (60, 0) i = I (60, 0) i) : TL B len lj J := ⟨h.1, h.2.1, h.2.2.1, (h1 _).trans h.2.2.2.1, fun i hi => (h2 _).trans (h.2.2.2.2.1 i hi), h.2.2.2.2.2⟩
def wgP (t : Tok) (i : Nat) : Prop := woP t i ∨ t = (67, 0)
def wtX (B : Nat → Nat) (len : Nat) (seen : Nat → Int32) : Int32 := clampI ((textV B len seen).getD (nI 0))
theorem clamp_v (v : Int32) : clampI v = if v < 0 then nI 0 else if v ≤ nI 9999 then v else nI 9999 := by
  unfold clampI maxI minI
  by_cases h9 : nI 9999 < v
  · rw [if_pos h9, if_pos (by decide), if_neg (fun h => absurd (Int32.lt_trans h9 h) (by decide)), if_neg (Int32.not_le.mpr h9)]
  · rw [if_neg h9]
    by_cases h0 : v < 0
    · rw [if_pos h0, if_neg (fun h => absurd (Int32.lt_trans (show nI 0 < v from h) h0) (by decide))]
    · rw [if_neg h0, if_pos (Int32.not_lt.mp h9)]
      by_cases h : nI 0 < v
      · rw [if_pos h]
      · rw [if_neg h]
        exact Int32.le_antisymm (Int32.not_lt.mp h0) (Int32.not_lt.mp h) 
theorem clamp_bd (v : Int32) : ∃ q, q ≤ 9999 ∧ clampI v = nI q := by
  rw [clamp_v]
  split
  · exact ⟨0, by omega, rfl⟩
  · rename_i h
    split
    · rename_i h2
      obtain ⟨j, hj, rfl⟩ := nI_of h
      rw [nI_leI hj (by omega)] at h2
      exact ⟨j, h2, rfl⟩
    · exact ⟨9999, Nat.le_refl _, rfl⟩
theorem c_mWeighs (l : Launch) {S : Shp} {I : MI} {L : ML} {R : MR} (mg : MG S R) {n : Nat} (hn : I (40, 0) 6 = nI n) (hN : n ≤ 12) {B : Nat → Nat} {len lj : Nat} (tl : TL B len lj I) {s : Nat} (hs : s < 12) (c p t k : Int32) : Ct l mX9_weighs 47 0 0 [.inr (.inr (some (40, 0))), .inl (nI lj), .inl (nI s), .inl c, .inl p, .inl t, .inl k] S I L R (PIm S L R (fun v J => v = wtX B len (seenV (I (50, 0) s) c p n t k s) ∧ Fr wgP I J)) := by
  refine Ct.of [some (.inr (.inr (some (40, 0)))), some (.inl (nI lj)), some (.inl (nI s)), some (.inl c), some (.inl p), some (.inl t), some (.inl k), none] (by decide) rfl (Nat.le_of_ble_eq_true rfl) ?_
  refine g_ald0 (pc' := 1) dX9_weighs_0 rfl ?_
  refine g_getR (pc' := 4) mg.s40 (by decide) fX9_31 mg.r40_17 dX9_weighs_1 rfl ?_
  refine g_iconst (pc' := 5) (v := nI 0) dX9_weighs_4 rfl (by decide) ?_
  refine g_ald0 (pc' := 6) dX9_weighs_5 rfl ?_
  refine g_getR (pc' := 9) mg.s40 (by decide) fX9_9 mg.r40_0 dX9_weighs_6 rfl ?_
  refine g_ild2 (pc' := 10) dX9_weighs_9 rfl ?_
  refine g_iald (pc' := 11) (j := s) mg.s50 rfl (by omega) (by decide) (v := I (50, 0) s) (by rfl) dX9_weighs_10 rfl ?_
  refine g_iast (pc' := 12) (j := 0) mg.s67 rfl (by omega) (by decide) dX9_weighs_11 rfl ?_
  refine g_ald0 (pc' := 13) dX9_weighs_12 rfl ?_
  refine g_getR (pc' := 16) mg.s40 (by decide) fX9_31 mg.r40_17 dX9_weighs_13 rfl ?_
  refine g_iconst (pc' := 17) (v := nI 1) dX9_weighs_16 rfl (by decide) ?_
  refine g_ild3 (pc' := 18) dX9_weighs_17 rfl ?_
  refine g_iast (pc' := 19) (j := 1) mg.s67 rfl (by omega) (by decide) dX9_weighs_18 rfl ?_
  refine g_ald0 (pc' := 20) dX9_weighs_19 rfl ?_
  refine g_getR (pc' := 23) mg.s40 (by decide) fX9_31 mg.r40_17 dX9_weighs_20 rfl ?_
  refine g_iconst (pc' := 24) (v := nI 2) dX9_weighs_23 rfl (by decide) ?_
  refine g_ild4 (pc' := 26) dX9_weighs_24 rfl ?_
  refine g_iast (pc' := 27) (j := 2) mg.s67 rfl (by omega) (by decide) dX9_weighs_26 rfl ?_
  refine g_ald0 (pc' := 28) dX9_weighs_27 rfl ?_
  refine g_getR (pc' := 31) mg.s40 (by decide) fX9_31 mg.r40_17 dX9_weighs_28 rfl ?_
  refine g_iconst (pc' := 32) (v := nI 3) dX9_weighs_31 rfl (by decide) ?_
  refine g_ald0 (pc' := 33) dX9_weighs_32 rfl ?_
  refine g_getI (pc' := 36) mg.s40 (by decide) fX9_99 (v := nI n) (by simp [upM, hn]) dX9_weighs_33 rfl ?_
  refine g_iast (pc' := 37) (j := 3) mg.s67 rfl (by omega) (by decide) dX9_weighs_36 rfl ?_
  refine g_ald0 (pc' := 38) dX9_weighs_37 rfl ?_
  refine g_getR (pc' := 41) mg.s40 (by decide) fX9_31 mg.r40_17 dX9_weighs_38 rfl ?_
  refine g_iconst (pc' := 42) (v := nI 4) dX9_weighs_41 rfl (by decide) ?_
  refine g_ild5 (pc' := 44) dX9_weighs_42 rfl ?_
  refine g_iast (pc' := 45) (j := 4) mg.s67 rfl (by omega) (by decide) dX9_weighs_44 rfl ?_
  refine g_ald0 (pc' := 46) dX9_weighs_45 rfl ?_
  refine g_getR (pc' := 49) mg.s40 (by decide) fX9_31 mg.r40_17 dX9_weighs_46 rfl ?_
  refine g_iconst (pc' := 50) (v := nI 5) dX9_weighs_49 rfl (by decide) ?_
  refine g_ild6 (pc' := 52) dX9_weighs_50 rfl ?_
  refine g_iast (pc' := 53) (j := 5) mg.s67 rfl (by omega) (by decide) dX9_weighs_52 rfl ?_
  refine g_ald0 (pc' := 54) dX9_weighs_53 rfl ?_
  refine g_getR (pc' := 57) mg.s40 (by decide) fX9_31 mg.r40_17 dX9_weighs_54 rfl ?_
  refine g_bipush (pc' := 59) (v := nI 6) dX9_weighs_57 rfl (by decide) ?_
  refine g_ild2 (pc' := 60) dX9_weighs_59 rfl ?_
  refine g_iast (pc' := 61) (j := 6) mg.s67 rfl (by omega) (by decide) dX9_weighs_60 rfl ?_
  refine g_name (fun J0 hJ0 => ?_)
  have hnm : ∀ q, q < 7 → J0 (67, 0) q = (seenV (I (50, 0) s) c p n t k s) q := by
    intro q hq
    rw [hJ0]
    rcases (show q = 0 ∨ q = 1 ∨ q = 2 ∨ q = 3 ∨ q = 4 ∨ q = 5 ∨ q = 6 by omega) with rfl | rfl | rfl | rfl | rfl | rfl | rfl <;> simp [upM, seenV]
  have hfr0 : Fr wgP I J0 := by
    rw [hJ0]
    refine Fr.up (Fr.up (Fr.up (Fr.up (Fr.up (Fr.up (Fr.up Fr.rf ?_) ?_) ?_) ?_) ?_) ?_) ?_ <;> simp [wgP]
  have hl61 : J0 (61, 0) lj = nI len := (hfr0 _ _ (by simp [wgP, woP])).trans tl.2.2.2.1
  have hlj6 := tl.1
  refine g_ald0 (pc' := 62) dX9_weighs_61 rfl ?_
  refine g_bipush (pc' := 64) (v := nI 120) dX9_weighs_62 rfl (by decide) ?_
  refine g_ild1 (pc' := 65) dX9_weighs_64 rfl ?_
  refine g_imulN (pc' := 66) dX9_weighs_65 rfl ?_
  refine g_ald0 (pc' := 67) dX9_weighs_66 rfl ?_
  refine g_getR (pc' := 70) mg.s40 (by decide) fX9_28 mg.r40_11 dX9_weighs_67 rfl ?_
  refine g_ild1 (pc' := 71) dX9_weighs_70 rfl ?_
  refine g_iald (pc' := 72) (j := lj) mg.s61 rfl (by omega) (by decide) hl61 dX9_weighs_71 rfl ?_
  refine g_callV (pc' := 75) (c_mWork l mg (I0 := J0) tl.2.1 tl.2.2.1 (Or.inr ⟨120 * lj, by have := tl.1; omega, rfl, fun i hi => by rw [hJ0]; simp [upM]; exact tl.2.2.2.2.1 i hi⟩) hnm) mg.s40 (by decide) wX9_workOut lX9_171 rfl rfl (Nat.le_of_ble_eq_true rfl) ⟨Nat.le_of_ble_eq_true rfl, Nat.le_of_ble_eq_true rfl⟩ ⟨Nat.le_of_ble_eq_true rfl, Nat.le_of_ble_eq_true rfl⟩ dX9_weighs_72 rfl (kI (fun v J hq => ?_))
  obtain ⟨h15, hfrJ, hvv⟩ := hq
  have hvv := hvv tl.2.2.2.2.2
  have hcl := clamp_v v
  rw [hvv] at hcl
  have hfr2 : Fr wgP I J := hfr0.tr (hfrJ.le (fun t i q => Or.inl q))
  refine g_ist7 (pc' := 77) rfl (by decide) dX9_weighs_75 rfl ?_
  refine g_ild7 (pc' := 79) dX9_weighs_77 rfl ?_
  refine g_ifge (pc' := 82) (tgt := 86) dX9_weighs_79 (by decide) rfl (fun h79 => ?_) (fun h79 => ?_)
  · refine g_ild7 (pc' := 88) dX9_weighs_86 rfl ?_
    refine g_sipush (pc' := 91) (v := nI 9999) dX9_weighs_88 rfl (by decide) ?_
    refine g_icmple (pc' := 94) (tgt := 100) dX9_weighs_91 (by decide) rfl (fun h91 => ?_) (fun h91 => ?_)
    · refine g_ild7 (pc' := 102) dX9_weighs_100 rfl ?_
      refine g_iret rfl dX9_weighs_102 ?_
      refine eI ⟨?_, hfr2⟩
      unfold wtX
      rw [hcl, ← hvv]
      first | (rw [if_pos (Int32.not_le.mp h79)]; done) | (rw [if_neg (Int32.not_lt.mpr h79), if_pos h91]; done) | (rw [if_neg (Int32.not_lt.mpr h79), if_neg h91]; done)
    · refine g_sipush (pc' := 97) (v := nI 9999) dX9_weighs_94 rfl (by decide) ?_
      refine g_goto (tgt := 102) dX9_weighs_97 (by decide) ?_
      refine g_iret rfl dX9_weighs_102 ?_
      refine eI ⟨?_, hfr2⟩
      unfold wtX
      rw [hcl, ← hvv]
      first | (rw [if_pos (Int32.not_le.mp h79)]; done) | (rw [if_neg (Int32.not_lt.mpr h79), if_pos h91]; done) | (rw [if_neg (Int32.not_lt.mpr h79), if_neg h91]; done)
  · refine g_iconst (pc' := 83) (v := nI 0) dX9_weighs_82 rfl (by decide) ?_
    refine g_goto (tgt := 102) dX9_weighs_83 (by decide) ?_
    refine g_iret rfl dX9_weighs_102 ?_
    refine eI ⟨?_, hfr2⟩
    unfold wtX
    rw [hcl, ← hvv]
    first | (rw [if_pos (Int32.not_le.mp h79)]; done) | (rw [if_neg (Int32.not_lt.mpr h79), if_pos h91]; done) | (rw [if_neg (Int32.not_lt.mpr h79), if_neg h91]; done)

def cnM (I : MI) (w o : Nat) : Int32 := I (50, 0) (23 + 12 * w + o)
def wtMi (B : Nat → Nat) (len : Nat) (I : MI) (w n s : Nat) : Int32 := wtX B len (seenV (I (50, 0) s) (if I (70, 0) w = 0 then nI 0 else cnM I w s) (psI (I (70, 0) w) (I (73, 0) w) (I (71, 0) w) n (nI (plc (cnM I w) n s))) n (I (73, 0) w) (I (74, 0) w) s)
theorem wtMi_bd (B : Nat → Nat) (len : Nat) (I : MI) (w n s : Nat) : ∃ q, q ≤ 9999 ∧ wtMi B len I w n s = nI q := clamp_bd _
def fwP (t : Tok) (i : Nat) : Prop := wgP t i ∨ t = (76, 0)
theorem wtMi_fr {B : Nat → Nat} {len : Nat} {I J : MI} {w n s : Nat} (h : Fr fwP I J) : wtMi B len J w n s = wtMi B len I w n s := by
  have e : cnM J w = cnM I w := funext fun o => h _ _ (by simp [fwP, wgP, woP])
  unfold wtMi
  rw [e, h (50, 0) s (by simp [fwP, wgP, woP]), h (70, 0) w (by simp [fwP, wgP, woP]), h (73, 0) w (by simp [fwP, wgP, woP]), h (71, 0) w (by simp [fwP, wgP, woP]), h (74, 0) w (by simp [fwP, wgP, woP])]
theorem c_mWeightOf (l : Launch) {S : Shp} {I : MI} {L : ML} {R : MR} (mg : MG S R) {n : Nat} (hn : I (40, 0) 6 = nI n) (hN : n ≤ 12) {w : Nat} (hw : w < 11) {B : Nat → Nat} {len lj : Nat} (tl : TL B len lj I) (hlw : I (69, 0) w = nI lj) {s : Nat} (hs : s < n) : Ct l mX9_weightOf 48 0 0 [.inr (.inr (some (40, 0))), .inl (nI w), .inl (nI s)] S I L R (PIm S L R (fun v J => v = wtMi B len I w n s ∧ Fr wgP I J)) := by
  refine Ct.of [some (.inr (.inr (some (40, 0)))), some (.inl (nI w)), some (.inl (nI s))] (by decide) rfl (Nat.le_of_ble_eq_true rfl) ?_
  refine g_ald0 (pc' := 1) dX9_weightOf_0 rfl ?_
  refine g_ald0 (pc' := 2) dX9_weightOf_1 rfl ?_
  refine g_getR (pc' := 5) mg.s40 (by decide) fX9_34 mg.r40_19 dX9_weightOf_2 rfl ?_
  refine g_ild1 (pc' := 6) dX9_weightOf_5 rfl ?_
  refine g_iald (pc' := 7) (j := w) mg.s69 rfl (by omega) (by decide) hlw dX9_weightOf_6 rfl ?_
  refine g_ild2 (pc' := 8) dX9_weightOf_7 rfl ?_
  refine g_ald0 (pc' := 9) dX9_weightOf_8 rfl ?_
  refine g_getR (pc' := 12) mg.s40 (by decide) fX9_37 mg.r40_20 dX9_weightOf_9 rfl ?_
  refine g_ild1 (pc' := 13) dX9_weightOf_12 rfl ?_
  refine g_iald (pc' := 14) (j := w) mg.s70 rfl (by omega) (by decide) rfl dX9_weightOf_13 rfl ?_
  refine g_ifne (pc' := 17) (tgt := 21) dX9_weightOf_14 (by decide) rfl (fun h14 => ?_) (fun h14 => ?_)
  · refine g_ald0 (pc' := 22) dX9_weightOf_21 rfl ?_
    refine g_ild1 (pc' := 23) dX9_weightOf_22 rfl ?_
    refine g_ild2 (pc' := 24) dX9_weightOf_23 rfl ?_
    refine g_callV (pc' := 27) (c_mCount l mg hw (s := s) (by omega) rfl) mg.s40 (by decide) wX9_countOf lX9_191 rfl rfl (Nat.le_of_ble_eq_true rfl) ⟨Nat.le_of_ble_eq_true rfl, Nat.le_of_ble_eq_true rfl⟩ ⟨Nat.le_of_ble_eq_true rfl, Nat.le_of_ble_eq_true rfl⟩ dX9_weightOf_24 rfl (kIp ?_)
    refine g_ald0 (pc' := 28) dX9_weightOf_27 rfl ?_
    refine g_ild1 (pc' := 29) dX9_weightOf_28 rfl ?_
    refine g_ild2 (pc' := 30) dX9_weightOf_29 rfl ?_
    refine g_callV (pc' := 33) (c_mSeen l mg hn hN hw (f := cnM I w) (fun _ _ => rfl) hs rfl rfl rfl) mg.s40 (by decide) wX9_seenPlace lX9_197 rfl rfl (Nat.le_of_ble_eq_true rfl) ⟨Nat.le_of_ble_eq_true rfl, Nat.le_of_ble_eq_true rfl⟩ ⟨Nat.le_of_ble_eq_true rfl, Nat.le_of_ble_eq_true rfl⟩ dX9_weightOf_30 rfl (kIp ?_)
    refine g_ald0 (pc' := 34) dX9_weightOf_33 rfl ?_
    refine g_getR (pc' := 37) mg.s40 (by decide) fX9_46 mg.r40_23 dX9_weightOf_34 rfl ?_
    refine g_ild1 (pc' := 38) dX9_weightOf_37 rfl ?_
    refine g_iald (pc' := 39) (j := w) mg.s73 rfl (by omega) (by decide) rfl dX9_weightOf_38 rfl ?_
    refine g_ald0 (pc' := 40) dX9_weightOf_39 rfl ?_
    refine g_getR (pc' := 43) mg.s40 (by decide) fX9_49 mg.r40_24 dX9_weightOf_40 rfl ?_
    refine g_ild1 (pc' := 44) dX9_weightOf_43 rfl ?_
    refine g_iald (pc' := 45) (j := w) mg.s74 rfl (by omega) (by decide) rfl dX9_weightOf_44 rfl ?_
    refine g_callV (pc' := 48) (c_mWeighs l mg hn hN tl (by omega) _ _ _ _) mg.s40 (by decide) wX9_weighs lX9_200 rfl rfl (Nat.le_of_ble_eq_true rfl) ⟨Nat.le_of_ble_eq_true rfl, Nat.le_of_ble_eq_true rfl⟩ ⟨Nat.le_of_ble_eq_true rfl, Nat.le_of_ble_eq_true rfl⟩ dX9_weightOf_45 rfl (kI (fun v J hq => ?_))
    refine g_iret rfl dX9_weightOf_48 ?_
    refine eI ⟨?_, hq.2⟩
    rw [hq.1]
    unfold wtMi
    first | rw [if_pos (by assumption)] | (rw [if_neg (by assumption)]; rfl)
  · refine g_iconst (pc' := 18) (v := nI 0) dX9_weightOf_17 rfl (by decide) ?_
    refine g_goto (tgt := 27) dX9_weightOf_18 (by decide) ?_
    refine g_ald0 (pc' := 28) dX9_weightOf_27 rfl ?_
    refine g_ild1 (pc' := 29) dX9_weightOf_28 rfl ?_
    refine g_ild2 (pc' := 30) dX9_weightOf_29 rfl ?_
    refine g_callV (pc' := 33) (c_mSeen l mg hn hN hw (f := cnM I w) (fun _ _ => rfl) hs rfl rfl rfl) mg.s40 (by decide) wX9_seenPlace lX9_197 rfl rfl (Nat.le_of_ble_eq_true rfl) ⟨Nat.le_of_ble_eq_true rfl, Nat.le_of_ble_eq_true rfl⟩ ⟨Nat.le_of_ble_eq_true rfl, Nat.le_of_ble_eq_true rfl⟩ dX9_weightOf_30 rfl (kIp ?_)
    refine g_ald0 (pc' := 34) dX9_weightOf_33 rfl ?_
    refine g_getR (pc' := 37) mg.s40 (by decide) fX9_46 mg.r40_23 dX9_weightOf_34 rfl ?_
    refine g_ild1 (pc' := 38) dX9_weightOf_37 rfl ?_
    refine g_iald (pc' := 39) (j := w) mg.s73 rfl (by omega) (by decide) rfl dX9_weightOf_38 rfl ?_
    refine g_ald0 (pc' := 40) dX9_weightOf_39 rfl ?_
    refine g_getR (pc' := 43) mg.s40 (by decide) fX9_49 mg.r40_24 dX9_weightOf_40 rfl ?_
    refine g_ild1 (pc' := 44) dX9_weightOf_43 rfl ?_
    refine g_iald (pc' := 45) (j := w) mg.s74 rfl (by omega) (by decide) rfl dX9_weightOf_44 rfl ?_
    refine g_callV (pc' := 48) (c_mWeighs l mg hn hN tl (by omega) _ _ _ _) mg.s40 (by decide) wX9_weighs lX9_200 rfl rfl (Nat.le_of_ble_eq_true rfl) ⟨Nat.le_of_ble_eq_true rfl, Nat.le_of_ble_eq_true rfl⟩ ⟨Nat.le_of_ble_eq_true rfl, Nat.le_of_ble_eq_true rfl⟩ dX9_weightOf_45 rfl (kI (fun v J hq => ?_))
    refine g_iret rfl dX9_weightOf_48 ?_
    refine eI ⟨?_, hq.2⟩
    rw [hq.1]
    unfold wtMi
    first | rw [if_pos (by assumption)] | (rw [if_neg (by assumption)]; rfl)

theorem c_mWeightN (l : Launch) {S : Shp} {I : MI} {L : ML} {R : MR} (mg : MG S R) {n : Nat} (hn : I (40, 0) 6 = nI n) (hN : n ≤ 12) {m : Nat} (hm : I (40, 0) 18 = nI m) (hM : m ≤ 9) {x y : Int32} (hb : inb x m = false ∨ inb y n = false) : Ct l mX9_weight 3 0 0 [.inr (.inr (some (40, 0))), .inl x, .inl y] S I L R (PIp S I L R (-1)) := by
  refine Ct.of [some (.inr (.inr (some (40, 0)))), some (.inl x), some (.inl y)] (by decide) rfl (Nat.le_of_ble_eq_true rfl) ?_
  refine g_ald0 (pc' := 1) dX9_weight_0 rfl ?_
  refine g_ild1 (pc' := 2) dX9_weight_1 rfl ?_
  refine g_callV (pc' := 5) (c_misWorld l mg hm hM x) mg.s40 (by decide) wX9_isWorld lX9_186 rfl rfl (Nat.le_of_ble_eq_true rfl) ⟨Nat.le_of_ble_eq_true rfl, Nat.le_of_ble_eq_true rfl⟩ ⟨Nat.le_of_ble_eq_true rfl, Nat.le_of_ble_eq_true rfl⟩ dX9_weight_2 rfl (kIp ?_)
  refine g_ifeqB (pc' := 8) (tgt := 25) dX9_weight_5 (by decide) rfl (fun h5 => ?_) (fun h5 => ?_)
  · refine g_iconst (pc' := 26) (v := (-1)) dX9_weight_25 rfl (by decide) ?_
    refine g_iret rfl dX9_weight_26 ?_
    exact eIp rfl
  · refine g_ald0 (pc' := 9) dX9_weight_8 rfl ?_
    refine g_ild2 (pc' := 10) dX9_weight_9 rfl ?_
    refine g_callV (pc' := 13) (c_misSong l mg hn hN y) mg.s40 (by decide) wX9_isSong lX9_111 rfl rfl (Nat.le_of_ble_eq_true rfl) ⟨Nat.le_of_ble_eq_true rfl, Nat.le_of_ble_eq_true rfl⟩ ⟨Nat.le_of_ble_eq_true rfl, Nat.le_of_ble_eq_true rfl⟩ dX9_weight_10 rfl (kIp ?_)
    refine g_ifeqB (pc' := 16) (tgt := 25) dX9_weight_13 (by decide) rfl (fun h13 => ?_) (fun h13 => ?_)
    · refine g_iconst (pc' := 26) (v := (-1)) dX9_weight_25 rfl (by decide) ?_
      refine g_iret rfl dX9_weight_26 ?_
      exact eIp rfl
    · exfalso
      rcases hb with h | h
      · rw [h] at h5; cases h5
      · rw [h] at h13; cases h13

theorem c_mWeightS (l : Launch) {S : Shp} {I : MI} {L : ML} {R : MR} (mg : MG S R) {n : Nat} (hn : I (40, 0) 6 = nI n) (hN : n ≤ 12) {m : Nat} (hm : I (40, 0) 18 = nI m) (hM : m ≤ 9) {w : Nat} (hwm : w < m) {B : Nat → Nat} {len lj : Nat} (tl : TL B len lj I) (hlw : I (69, 0) w = nI lj) {s : Nat} (hs : s < n) : Ct l mX9_weight 49 0 0 [.inr (.inr (some (40, 0))), .inl (nI w), .inl (nI s)] S I L R (PIm S L R (fun v J => v = wtMi B len I w n s ∧ Fr wgP I J)) := by
  refine Ct.of [some (.inr (.inr (some (40, 0)))), some (.inl (nI w)), some (.inl (nI s))] (by decide) rfl (Nat.le_of_ble_eq_true rfl) ?_
  refine g_ald0 (pc' := 1) dX9_weight_0 rfl ?_
  refine g_ild1 (pc' := 2) dX9_weight_1 rfl ?_
  refine g_callV (pc' := 5) (c_misWorld l mg hm hM (nI w)) mg.s40 (by decide) wX9_isWorld lX9_186 rfl rfl (Nat.le_of_ble_eq_true rfl) ⟨Nat.le_of_ble_eq_true rfl, Nat.le_of_ble_eq_true rfl⟩ ⟨Nat.le_of_ble_eq_true rfl, Nat.le_of_ble_eq_true rfl⟩ dX9_weight_2 rfl (kIp ?_)
  refine g_ifeqB (pc' := 8) (tgt := 25) dX9_weight_5 (by decide) rfl (fun h5 => (by first | exact absurd h5 (by rw [inb_nI (by omega) (by omega)]; simp [hwm]) | exact absurd (by rw [inb_nI (by omega) (by omega)]; simp [hwm]) h5)) (fun h5 => ?_)
  refine g_ald0 (pc' := 9) dX9_weight_8 rfl ?_
  refine g_ild2 (pc' := 10) dX9_weight_9 rfl ?_
  refine g_callV (pc' := 13) (c_misSong l mg hn hN (nI s)) mg.s40 (by decide) wX9_isSong lX9_111 rfl rfl (Nat.le_of_ble_eq_true rfl) ⟨Nat.le_of_ble_eq_true rfl, Nat.le_of_ble_eq_true rfl⟩ ⟨Nat.le_of_ble_eq_true rfl, Nat.le_of_ble_eq_true rfl⟩ dX9_weight_10 rfl (kIp ?_)
  refine g_ifeqB (pc' := 16) (tgt := 25) dX9_weight_13 (by decide) rfl (fun h13 => (by first | exact absurd h13 (by rw [inb_nI (by omega) (by omega)]; simp [hs]) | exact absurd (by rw [inb_nI (by omega) (by omega)]; simp [hs]) h13)) (fun h13 => ?_)
  refine g_ald0 (pc' := 17) dX9_weight_16 rfl ?_
  refine g_ild1 (pc' := 18) dX9_weight_17 rfl ?_
  refine g_ild2 (pc' := 19) dX9_weight_18 rfl ?_
  refine g_callV (pc' := 22) (c_mWeightOf l mg hn hN (w := w) (by omega) tl hlw hs) mg.s40 (by decide) wX9_weightOf lX9_219 rfl rfl (Nat.le_of_ble_eq_true rfl) ⟨Nat.le_of_ble_eq_true rfl, Nat.le_of_ble_eq_true rfl⟩ ⟨Nat.le_of_ble_eq_true rfl, Nat.le_of_ble_eq_true rfl⟩ dX9_weight_19 rfl (kI (fun v J hq => ?_))
  refine g_goto (tgt := 26) dX9_weight_22 (by decide) ?_
  refine g_iret rfl dX9_weight_26 ?_
  exact eI hq

theorem c_mFindW (l : Launch) {S : Shp} {I : MI} {L : ML} {R : MR} (mg : MG S R) {n : Nat} (hn : I (40, 0) 6 = nI n) (hN : n ≤ 12) {w : Nat} (hw : w < 11) {B : Nat → Nat} {len lj : Nat} (tl : TL B len lj I) (hlw : I (69, 0) w = nI lj) : Ct l mX9_findWeights 49 0 0 [.inr (.inr (some (40, 0))), .inl (nI w)] S I L R (PIm S L R (fun v J => v = sumF (I (50, 0) (12 + w)) (wtMi B len I w n) n ∧ Fr fwP I J ∧ ∀ s, s < n → J (76, 0) s = wtMi B len I w n s)) := by
  refine Ct.of [some (.inr (.inr (some (40, 0)))), some (.inl (nI w)), none, none] (by decide) rfl (Nat.le_of_ble_eq_true rfl) ?_
  refine g_ald0 (pc' := 1) dX9_findWeights_0 rfl ?_
  refine g_getR (pc' := 4) mg.s40 (by decide) fX9_9 mg.r40_0 dX9_findWeights_1 rfl ?_
  refine g_bipush (pc' := 6) (v := nI 12) dX9_findWeights_4 rfl (by decide) ?_
  refine g_ild1 (pc' := 7) dX9_findWeights_6 rfl ?_
  refine g_iaddN (pc' := 8) dX9_findWeights_7 rfl ?_
  refine g_iald (pc' := 9) (j := 12 + w) mg.s50 rfl (by omega) (by decide) (v := I (50, 0) (12 + w)) (rfl) dX9_findWeights_8 rfl ?_
  refine g_ist2 (pc' := 10) rfl (by decide) dX9_findWeights_9 rfl ?_
  refine g_iconst (pc' := 11) (v := nI 0) dX9_findWeights_10 rfl (by decide) ?_
  refine g_ist3 (pc' := 12) rfl (by decide) dX9_findWeights_11 rfl ?_
  refine g_loop (σ := MI) (fun i (J : MI) => Fr fwP I J ∧ ∀ s, s < i → J (76, 0) s = wtMi B len I w n s) (fun i J => [some (.inr (.inr (some (40, 0)))), some (.inl (nI w)), some (.inl (sumF (I (50, 0) (12 + w)) (wtMi B len I w n) i)), some (.inl (nI i))]) (fun i J => J) n 0 I (by omega) ⟨Fr.rf, fun s hs => absurd hs (by omega)⟩ ?_ ?_
  · intro i J hi hP ih
    have hnJ : J (40, 0) 6 = nI n := (hP.1 _ _ (by simp [fwP, wgP, woP])).trans hn
    have hlwJ : J (69, 0) w = nI lj := (hP.1 _ _ (by simp [fwP, wgP, woP])).trans hlw
    have tlJ : TL B len lj J := tl.to (fun i => hP.1 _ _ (by simp [fwP, wgP, woP])) (fun i => hP.1 _ _ (by simp [fwP, wgP, woP]))
    refine g_ild3 (pc' := 13) dX9_findWeights_12 rfl ?_
    refine g_ald0 (pc' := 14) dX9_findWeights_13 rfl ?_
    refine g_getI (pc' := 17) mg.s40 (by decide) fX9_99 hnJ dX9_findWeights_14 rfl ?_
    refine g_icmpgeN (pc' := 20) (by omega) (by omega) (tgt := 47) dX9_findWeights_17 (by decide) rfl (fun h17 => ?_) (fun h17 => ?_)
    · exact absurd h17 (by omega)
    · refine g_ald0 (pc' := 21) dX9_findWeights_20 rfl ?_
      refine g_getR (pc' := 24) mg.s40 (by decide) fX9_55 mg.r40_26 dX9_findWeights_21 rfl ?_
      refine g_ild3 (pc' := 25) dX9_findWeights_24 rfl ?_
      refine g_ald0 (pc' := 26) dX9_findWeights_25 rfl ?_
      refine g_ild1 (pc' := 27) dX9_findWeights_26 rfl ?_
      refine g_ild3 (pc' := 28) dX9_findWeights_27 rfl ?_
      refine g_callV (pc' := 31) (c_mWeightOf l mg hnJ hN hw tlJ hlwJ hi) mg.s40 (by decide) wX9_weightOf lX9_219 rfl rfl (Nat.le_of_ble_eq_true rfl) ⟨Nat.le_of_ble_eq_true rfl, Nat.le_of_ble_eq_true rfl⟩ ⟨Nat.le_of_ble_eq_true rfl, Nat.le_of_ble_eq_true rfl⟩ dX9_findWeights_28 rfl (kI (fun v J2 hq => ?_))
      obtain ⟨hv0, hf2⟩ := hq
      rw [hv0, wtMi_fr hP.1]
      have hF2 : Fr fwP J J2 := hf2.le (fun t i q => Or.inl q)
      refine g_iast (pc' := 32) (j := i) mg.s76 rfl (by omega) (by decide) dX9_findWeights_31 rfl ?_
      refine g_ild2 (pc' := 33) dX9_findWeights_32 rfl ?_
      refine g_ald0 (pc' := 34) dX9_findWeights_33 rfl ?_
      refine g_getR (pc' := 37) mg.s40 (by decide) fX9_55 mg.r40_26 dX9_findWeights_34 rfl ?_
      refine g_ild3 (pc' := 38) dX9_findWeights_37 rfl ?_
      refine g_iald (pc' := 39) (j := i) mg.s76 rfl (by omega) (by decide) (v := wtMi B len I w n i) (by rw [upM_s]) dX9_findWeights_38 rfl ?_
      refine g_iadd (pc' := 40) dX9_findWeights_39 rfl ?_
      refine g_ist2 (pc' := 41) rfl (by decide) dX9_findWeights_40 rfl ?_
      refine g_inc3 (pc' := 44) rfl (by decide) (v := nI (i + 1)) (nI_1 _) dX9_findWeights_41 rfl ?_
      refine g_goto (tgt := 12) dX9_findWeights_44 (by decide) ?_
      refine ih _ ⟨(hP.1.tr hF2).up (by simp [fwP]), fun s hs => ?_⟩
      by_cases e : s = i
      · rw [e, upM_s]
      · rw [upM_k _ _ e]
        exact (hf2 _ _ (by simp [wgP, woP])).trans (hP.2 s (by omega))
  · intro J hP
    have hnJ : J (40, 0) 6 = nI n := (hP.1 _ _ (by simp [fwP, wgP, woP])).trans hn
    have hlwJ : J (69, 0) w = nI lj := (hP.1 _ _ (by simp [fwP, wgP, woP])).trans hlw
    have tlJ : TL B len lj J := tl.to (fun i => hP.1 _ _ (by simp [fwP, wgP, woP])) (fun i => hP.1 _ _ (by simp [fwP, wgP, woP]))
    refine g_ild3 (pc' := 13) dX9_findWeights_12 rfl ?_
    refine g_ald0 (pc' := 14) dX9_findWeights_13 rfl ?_
    refine g_getI (pc' := 17) mg.s40 (by decide) fX9_99 hnJ dX9_findWeights_14 rfl ?_
    refine g_icmpgeN (pc' := 20) (by omega) (by omega) (tgt := 47) dX9_findWeights_17 (by decide) rfl (fun h17 => ?_) (fun h17 => ?_)
    · refine g_ild2 (pc' := 48) dX9_findWeights_47 rfl ?_
      refine g_iret rfl dX9_findWeights_48 ?_
      exact eI ⟨rfl, hP.1, hP.2⟩
    · exact absurd h17 (by omega)
