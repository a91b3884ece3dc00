/-! the model: worlds, feeding, asking -/
def zc (I : MI) (w k : Nat) : MI := upT I (50, 0) (fun j => if 23 + 12 * w ≤ j ∧ j < 23 + 12 * w + k then nI 0 else I (50, 0) j)
theorem zc_0 (I : MI) (w : Nat) : zc I w 0 = I := by
  unfold zc
  rw [show (fun j => if 23 + 12 * w ≤ j ∧ j < 23 + 12 * w + 0 then nI 0 else I (50, 0) j) = I (50, 0) from funext fun j => if_neg (by omega)]
  exact upT_self
theorem zc_s (I : MI) (w k : Nat) : upM (zc I w k) (50, 0) (23 + 12 * w + k) (nI 0) = zc I w (k + 1) := by
  unfold zc
  funext t j
  by_cases h : t = (50, 0)
  · subst h
    rw [upM_r, upT_s, upT_s]
    simp only
    by_cases e : j = 23 + 12 * w + k
    · rw [if_pos e, if_pos (by omega)]
    · rw [if_neg e]
      by_cases e2 : 23 + 12 * w ≤ j ∧ j < 23 + 12 * w + k
      · rw [if_pos e2, if_pos (by omega)]
      · rw [if_neg e2, if_neg (by omega)]
  · rw [upM_n _ h, upT_n _ h, upT_n _ h]
def bgA (I : MI) (w : Nat) (a b c d e : Int32) : MI := upM (upM (upM (upM (upM (upM (upM I (69, 0) w a) (70, 0) w b) (71, 0) w c) (50, 0) (12 + w) d) (72, 0) w e) (73, 0) w (nI 0)) (74, 0) w (nI 0)
def bgnI (I : MI) (w : Nat) (a b c d e : Int32) : MI := zc (bgA I w a b c d e) w 12
theorem c_mBegins (l : Launch) {S : Shp} {I : MI} {L : ML} {R : MR} (mg : MG S R) {w : Nat} (hw : w < 11) (a b c d e : Int32) : Ct l mX9_begins 1 0 0 [.inr (.inr (some (40, 0))), .inl (nI w), .inl a, .inl b, .inl c, .inl d, .inl e] S I L R (PVm S L R (fun J => J = bgnI I w a b c d e)) := by
  refine Ct.of [some (.inr (.inr (some (40, 0)))), some (.inl (nI w)), some (.inl a), some (.inl b), some (.inl c), some (.inl d), some (.inl e), none] (by decide) rfl (Nat.le_of_ble_eq_true rfl) ?_
  refine g_ald0 (pc' := 1) dX9_begins_0 rfl ?_
  refine g_getR (pc' := 4) mg.s40 (by decide) fX9_34 mg.r40_19 dX9_begins_1 rfl ?_
  refine g_ild1 (pc' := 5) dX9_begins_4 rfl ?_
  refine g_ild2 (pc' := 6) dX9_begins_5 rfl ?_
  refine g_iast (pc' := 7) (j := w) mg.s69 rfl (by omega) (by decide) dX9_begins_6 rfl ?_
  refine g_ald0 (pc' := 8) dX9_begins_7 rfl ?_
  refine g_getR (pc' := 11) mg.s40 (by decide) fX9_37 mg.r40_20 dX9_begins_8 rfl ?_
  refine g_ild1 (pc' := 12) dX9_begins_11 rfl ?_
  refine g_ild3 (pc' := 13) dX9_begins_12 rfl ?_
  refine g_iast (pc' := 14) (j := w) mg.s70 rfl (by omega) (by decide) dX9_begins_13 rfl ?_
  refine g_ald0 (pc' := 15) dX9_begins_14 rfl ?_
  refine g_getR (pc' := 18) mg.s40 (by decide) fX9_40 mg.r40_21 dX9_begins_15 rfl ?_
  refine g_ild1 (pc' := 19) dX9_begins_18 rfl ?_
  refine g_ild4 (pc' := 21) dX9_begins_19 rfl ?_
  refine g_iast (pc' := 22) (j := w) mg.s71 rfl (by omega) (by decide) dX9_begins_21 rfl ?_
  refine g_ald0 (pc' := 23) dX9_begins_22 rfl ?_
  refine g_getR (pc' := 26) mg.s40 (by decide) fX9_9 mg.r40_0 dX9_begins_23 rfl ?_
  refine g_bipush (pc' := 28) (v := nI 12) dX9_begins_26 rfl (by decide) ?_
  refine g_ild1 (pc' := 29) dX9_begins_28 rfl ?_
  refine g_iaddN (pc' := 30) dX9_begins_29 rfl ?_
  refine g_ild5 (pc' := 32) dX9_begins_30 rfl ?_
  refine g_iast (pc' := 33) (j := 12 + w) mg.s50 rfl (by omega) (by decide) dX9_begins_32 rfl ?_
  refine g_ald0 (pc' := 34) dX9_begins_33 rfl ?_
  refine g_getR (pc' := 37) mg.s40 (by decide) fX9_43 mg.r40_22 dX9_begins_34 rfl ?_
  refine g_ild1 (pc' := 38) dX9_begins_37 rfl ?_
  refine g_ild6 (pc' := 40) dX9_begins_38 rfl ?_
  refine g_iast (pc' := 41) (j := w) mg.s72 rfl (by omega) (by decide) dX9_begins_40 rfl ?_
  refine g_ald0 (pc' := 42) dX9_begins_41 rfl ?_
  refine g_getR (pc' := 45) mg.s40 (by decide) fX9_46 mg.r40_23 dX9_begins_42 rfl ?_
  refine g_ild1 (pc' := 46) dX9_begins_45 rfl ?_
  refine g_iconst (pc' := 47) (v := nI 0) dX9_begins_46 rfl (by decide) ?_
  refine g_iast (pc' := 48) (j := w) mg.s73 rfl (by omega) (by decide) dX9_begins_47 rfl ?_
  refine g_ald0 (pc' := 49) dX9_begins_48 rfl ?_
  refine g_getR (pc' := 52) mg.s40 (by decide) fX9_49 mg.r40_24 dX9_begins_49 rfl ?_
  refine g_ild1 (pc' := 53) dX9_begins_52 rfl ?_
  refine g_iconst (pc' := 54) (v := nI 0) dX9_begins_53 rfl (by decide) ?_
  refine g_iast (pc' := 55) (j := w) mg.s74 rfl (by omega) (by decide) dX9_begins_54 rfl ?_
  refine g_iconst (pc' := 56) (v := nI 0) dX9_begins_55 rfl (by decide) ?_
  refine g_ist7 (pc' := 58) rfl (by decide) dX9_begins_56 rfl ?_
  refine g_mem (zc_0 (bgA I w a b c d e) w).symm ?_
  refine g_loop (σ := Unit) (fun _ _ => True) (fun k _ => [some (.inr (.inr (some (40, 0)))), some (.inl (nI w)), some (.inl a), some (.inl b), some (.inl c), some (.inl d), some (.inl e), some (.inl (nI k))]) (fun k _ => zc (bgA I w a b c d e) w k) 12 0 () (by omega) trivial ?_ ?_
  · intro k _ hi hP ih
    refine g_ild7 (pc' := 60) dX9_begins_58 rfl ?_
    refine g_bipush (pc' := 62) (v := nI 12) dX9_begins_60 rfl (by decide) ?_
    refine g_icmpgeN (pc' := 65) (by omega) (by omega) (tgt := 87) dX9_begins_62 (by decide) rfl (fun h62 => ?_) (fun h62 => ?_)
    · exact absurd h62 (by omega)
    · refine g_ald0 (pc' := 66) dX9_begins_65 rfl ?_
      refine g_getR (pc' := 69) mg.s40 (by decide) fX9_9 mg.r40_0 dX9_begins_66 rfl ?_
      refine g_bipush (pc' := 71) (v := nI 23) dX9_begins_69 rfl (by decide) ?_
      refine g_bipush (pc' := 73) (v := nI 12) dX9_begins_71 rfl (by decide) ?_
      refine g_ild1 (pc' := 74) dX9_begins_73 rfl ?_
      refine g_imulN (pc' := 75) dX9_begins_74 rfl ?_
      refine g_iaddN (pc' := 76) dX9_begins_75 rfl ?_
      refine g_ild7 (pc' := 78) dX9_begins_76 rfl ?_
      refine g_iaddN (pc' := 79) dX9_begins_78 rfl ?_
      refine g_iconst (pc' := 80) (v := nI 0) dX9_begins_79 rfl (by decide) ?_
      refine g_iast (pc' := 81) (j := (23 + (12 * w)) + k) mg.s50 rfl (by omega) (by decide) dX9_begins_80 rfl ?_
      refine g_inc7 (pc' := 84) rfl (by decide) (v := nI (k + 1)) (nI_1 _) dX9_begins_81 rfl ?_
      refine g_goto (tgt := 58) dX9_begins_84 (by decide) ?_
      rw [zc_s]
      exact ih () trivial
  · intro _ hP
    refine g_ild7 (pc' := 60) dX9_begins_58 rfl ?_
    refine g_bipush (pc' := 62) (v := nI 12) dX9_begins_60 rfl (by decide) ?_
    refine g_icmpgeN (pc' := 65) (by omega) (by omega) (tgt := 87) dX9_begins_62 (by decide) rfl (fun h62 => ?_) (fun h62 => ?_)
    · refine g_vret rfl dX9_begins_87 ?_
      exact eV rfl
    · exact absurd h62 (by omega)

theorem c_mWorldB (l : Launch) {S : Shp} {I : MI} {L : ML} {R : MR} (mg : MG S R) {c : Nat} (hc : I (40, 0) 9 = nI c) (hC : c ≤ 6) {x y : Int32} (hb : x < 0 ∨ inb (x / nI 10) c = false ∨ nI 2 < x - x / nI 10 * nI 10 ∨ y < nI 0 ∨ nI 9999999 < y) (z : Int32) : Ct l mX9_world 3 0 0 [.inr (.inr (some (40, 0))), .inl x, .inl y, .inl z] S I L R (PIp S I L R (-1)) := by
  refine Ct.of [some (.inr (.inr (some (40, 0)))), some (.inl x), some (.inl y), some (.inl z)] (by decide) rfl (Nat.le_of_ble_eq_true rfl) ?_
  refine g_ild1 (pc' := 1) dX9_world_0 rfl ?_
  refine g_iflt (pc' := 4) (tgt := 35) dX9_world_1 (by decide) rfl (fun h1 => ?_) (fun h1 => ?_)
  · refine g_iconst (pc' := 36) (v := (-1)) dX9_world_35 rfl (by decide) ?_
    refine g_iret rfl dX9_world_36 ?_
    exact eIp rfl
  · refine g_ald0 (pc' := 5) dX9_world_4 rfl ?_
    refine g_ild1 (pc' := 6) dX9_world_5 rfl ?_
    refine g_bipush (pc' := 8) (v := nI 10) dX9_world_6 rfl (by decide) ?_
    refine g_idiv (pc' := 9) dX9_world_8 rfl (by decide) ?_
    refine g_callV (pc' := 12) (c_misLaw l mg hc hC (x / nI 10)) mg.s40 (by decide) wX9_isLaw lX9_177 rfl rfl (Nat.le_of_ble_eq_true rfl) ⟨Nat.le_of_ble_eq_true rfl, Nat.le_of_ble_eq_true rfl⟩ ⟨Nat.le_of_ble_eq_true rfl, Nat.le_of_ble_eq_true rfl⟩ dX9_world_9 rfl (kIp ?_)
    refine g_ifeqB (pc' := 15) (tgt := 35) dX9_world_12 (by decide) rfl (fun h12 => ?_) (fun h12 => ?_)
    · refine g_iconst (pc' := 36) (v := (-1)) dX9_world_35 rfl (by decide) ?_
      refine g_iret rfl dX9_world_36 ?_
      exact eIp rfl
    · refine g_ild1 (pc' := 16) dX9_world_15 rfl ?_
      refine g_bipush (pc' := 18) (v := nI 10) dX9_world_16 rfl (by decide) ?_
      refine g_irem (pc' := 19) dX9_world_18 rfl (by decide) ?_
      refine g_iconst (pc' := 20) (v := nI 2) dX9_world_19 rfl (by decide) ?_
      refine g_icmpgt (pc' := 23) (tgt := 35) dX9_world_20 (by decide) rfl (fun h20 => ?_) (fun h20 => ?_)
      · refine g_iconst (pc' := 36) (v := (-1)) dX9_world_35 rfl (by decide) ?_
        refine g_iret rfl dX9_world_36 ?_
        exact eIp rfl
      · refine g_ild2 (pc' := 24) dX9_world_23 rfl ?_
        refine g_i2l (pc' := 25) dX9_world_24 rfl ?_
        refine g_lconst (pc' := 26) (v := 0) dX9_world_25 rfl (by decide) ?_
        refine g_ldc2 (pc' := 29) dX9_world_26 rfl kX9_180 ?_
        refine g_callS (pc' := 32) (c_mWI l y (nI 0) (nI 9999999) (A := 0) (B := 9999999) (by decide) (by decide)) wX9_within lX9_102 rfl rfl (Nat.le_of_ble_eq_true rfl) ⟨Nat.le_of_ble_eq_true rfl, Nat.le_of_ble_eq_true rfl⟩ ⟨Nat.le_of_ble_eq_true rfl, Nat.le_of_ble_eq_true rfl⟩ dX9_world_29 rfl (kIp ?_)
        refine g_ifneB (pc' := 35) (tgt := 37) dX9_world_32 (by decide) rfl (fun h32 => ?_) (fun h32 => ?_)
        · exfalso
          rcases hb with h | h | h | h
          · exact h1 h
          · rw [h] at h12; cases h12
          · exact h20 h
          · exact wi_no h h32
        · refine g_iconst (pc' := 36) (v := (-1)) dX9_world_35 rfl (by decide) ?_
          refine g_iret rfl dX9_world_36 ?_
          exact eIp rfl

theorem c_mWorldF (l : Launch) {S : Shp} {I : MI} {L : ML} {R : MR} (mg : MG S R) {c : Nat} (hc : I (40, 0) 9 = nI c) (hC : c ≤ 6) {a u : Nat} (ha : a < 2 ^ 31) (hu : u ≤ 9999999) (hl : a / 10 < c) (h2 : a % 10 ≤ 2) (hm : I (40, 0) 18 = nI 9) (z : Int32) : Ct l mX9_world 3 0 0 [.inr (.inr (some (40, 0))), .inl (nI a), .inl (nI u), .inl z] S I L R (PIp S I L R (-3)) := by
  refine Ct.of [some (.inr (.inr (some (40, 0)))), some (.inl (nI a)), some (.inl (nI u)), some (.inl z)] (by decide) rfl (Nat.le_of_ble_eq_true rfl) ?_
  refine g_ild1 (pc' := 1) dX9_world_0 rfl ?_
  refine g_ifltN (pc' := 4) (by omega) dX9_world_1 rfl ?_
  refine g_ald0 (pc' := 5) dX9_world_4 rfl ?_
  refine g_ild1 (pc' := 6) dX9_world_5 rfl ?_
  refine g_bipush (pc' := 8) (v := nI 10) dX9_world_6 rfl (by decide) ?_
  refine g_idivN (pc' := 9) (by omega) dX9_world_8 rfl ?_
  refine g_callV (pc' := 12) (c_misLaw l mg hc hC (nI (a / 10))) mg.s40 (by decide) wX9_isLaw lX9_177 rfl rfl (Nat.le_of_ble_eq_true rfl) ⟨Nat.le_of_ble_eq_true rfl, Nat.le_of_ble_eq_true rfl⟩ ⟨Nat.le_of_ble_eq_true rfl, Nat.le_of_ble_eq_true rfl⟩ dX9_world_9 rfl (kIp ?_)
  refine g_ifeqB (pc' := 15) (tgt := 35) dX9_world_12 (by decide) rfl (fun h12 => (by first | exact absurd h12 (by rw [inb_nI (by omega) (by omega)]; simp [hl]) | exact absurd (by rw [inb_nI (by omega) (by omega)]; simp [hl]) h12)) (fun h12 => ?_)
  refine g_ild1 (pc' := 16) dX9_world_15 rfl ?_
  refine g_bipush (pc' := 18) (v := nI 10) dX9_world_16 rfl (by decide) ?_
  refine g_iremN (pc' := 19) (by omega) dX9_world_18 rfl ?_
  refine g_iconst (pc' := 20) (v := nI 2) dX9_world_19 rfl (by decide) ?_
  refine g_icmpgtN (pc' := 23) (by omega) (by omega) (tgt := 35) dX9_world_20 (by decide) rfl (fun h20 => ?_) (fun h20 => ?_)
  · exact absurd h20 (by omega)
  · refine g_ild2 (pc' := 24) dX9_world_23 rfl ?_
    refine g_i2l (pc' := 25) dX9_world_24 rfl ?_
    refine g_lconst (pc' := 26) (v := 0) dX9_world_25 rfl (by decide) ?_
    refine g_ldc2 (pc' := 29) dX9_world_26 rfl kX9_180 ?_
    refine g_callS (pc' := 32) (c_mWI l (nI u) (nI 0) (nI 9999999) (A := 0) (B := 9999999) (by decide) (by decide)) wX9_within lX9_102 rfl rfl (Nat.le_of_ble_eq_true rfl) ⟨Nat.le_of_ble_eq_true rfl, Nat.le_of_ble_eq_true rfl⟩ ⟨Nat.le_of_ble_eq_true rfl, Nat.le_of_ble_eq_true rfl⟩ dX9_world_29 rfl (kIp ?_)
    refine g_ifneB (pc' := 35) (tgt := 37) dX9_world_32 (by decide) rfl (fun h32 => ?_) (fun h32 => (by first | exact absurd h32 (wi_yesN (by omega) (by decide)) | exact absurd (wi_yesN (by omega) (by decide)) h32))
    refine g_ald0 (pc' := 38) dX9_world_37 rfl ?_
    refine g_getI (pc' := 41) mg.s40 (by decide) fX9_174 hm dX9_world_38 rfl ?_
    refine g_bipush (pc' := 43) (v := nI 9) dX9_world_41 rfl (by decide) ?_
    refine g_icmpneN (pc' := 46) (by omega) (by omega) (tgt := 49) dX9_world_43 (by decide) rfl (fun h43 => ?_) (fun h43 => ?_)
    · exact absurd h43 (by omega)
    · refine g_bipush (pc' := 48) (v := (-3)) dX9_world_46 rfl (by decide) ?_
      refine g_iret rfl dX9_world_48 ?_
      exact eIp rfl

theorem c_mWorldS (l : Launch) {S : Shp} {I : MI} {L : ML} {R : MR} (mg : MG S R) {c : Nat} (hc : I (40, 0) 9 = nI c) (hC : c ≤ 6) {a u : Nat} (ha : a < 2 ^ 31) (hu : u ≤ 9999999) (hl : a / 10 < c) (h2 : a % 10 ≤ 2) {m : Nat} (hm : I (40, 0) 18 = nI m) (hM : m < 9) (z : Int32) : Ct l mX9_world 3 0 0 [.inr (.inr (some (40, 0))), .inl (nI a), .inl (nI u), .inl z] S I L R (PIm S L R (fun v J => v = nI m ∧ J = upM (bgnI I m (nI (a / 10)) (nI (a % 10)) (nI (u / 10000)) (nI (u % 10000)) z) (40, 0) 18 (nI (m + 1)))) := by
  refine Ct.of [some (.inr (.inr (some (40, 0)))), some (.inl (nI a)), some (.inl (nI u)), some (.inl z)] (by decide) rfl (Nat.le_of_ble_eq_true rfl) ?_
  refine g_ild1 (pc' := 1) dX9_world_0 rfl ?_
  refine g_ifltN (pc' := 4) (by omega) dX9_world_1 rfl ?_
  refine g_ald0 (pc' := 5) dX9_world_4 rfl ?_
  refine g_ild1 (pc' := 6) dX9_world_5 rfl ?_
  refine g_bipush (pc' := 8) (v := nI 10) dX9_world_6 rfl (by decide) ?_
  refine g_idivN (pc' := 9) (by omega) dX9_world_8 rfl ?_
  refine g_callV (pc' := 12) (c_misLaw l mg hc hC (nI (a / 10))) mg.s40 (by decide) wX9_isLaw lX9_177 rfl rfl (Nat.le_of_ble_eq_true rfl) ⟨Nat.le_of_ble_eq_true rfl, Nat.le_of_ble_eq_true rfl⟩ ⟨Nat.le_of_ble_eq_true rfl, Nat.le_of_ble_eq_true rfl⟩ dX9_world_9 rfl (kIp ?_)
  refine g_ifeqB (pc' := 15) (tgt := 35) dX9_world_12 (by decide) rfl (fun h12 => (by first | exact absurd h12 (by rw [inb_nI (by omega) (by omega)]; simp [hl]) | exact absurd (by rw [inb_nI (by omega) (by omega)]; simp [hl]) h12)) (fun h12 => ?_)
  refine g_ild1 (pc' := 16) dX9_world_15 rfl ?_
  refine g_bipush (pc' := 18) (v := nI 10) dX9_world_16 rfl (by decide) ?_
  refine g_iremN (pc' := 19) (by omega) dX9_world_18 rfl ?_
  refine g_iconst (pc' := 20) (v := nI 2) dX9_world_19 rfl (by decide) ?_
  refine g_icmpgtN (pc' := 23) (by omega) (by omega) (tgt := 35) dX9_world_20 (by decide) rfl (fun h20 => ?_) (fun h20 => ?_)
  · exact absurd h20 (by omega)
  · refine g_ild2 (pc' := 24) dX9_world_23 rfl ?_
    refine g_i2l (pc' := 25) dX9_world_24 rfl ?_
    refine g_lconst (pc' := 26) (v := 0) dX9_world_25 rfl (by decide) ?_
    refine g_ldc2 (pc' := 29) dX9_world_26 rfl kX9_180 ?_
    refine g_callS (pc' := 32) (c_mWI l (nI u) (nI 0) (nI 9999999) (A := 0) (B := 9999999) (by decide) (by decide)) wX9_within lX9_102 rfl rfl (Nat.le_of_ble_eq_true rfl) ⟨Nat.le_of_ble_eq_true rfl, Nat.le_of_ble_eq_true rfl⟩ ⟨Nat.le_of_ble_eq_true rfl, Nat.le_of_ble_eq_true rfl⟩ dX9_world_29 rfl (kIp ?_)
    refine g_ifneB (pc' := 35) (tgt := 37) dX9_world_32 (by decide) rfl (fun h32 => ?_) (fun h32 => (by first | exact absurd h32 (wi_yesN (by omega) (by decide)) | exact absurd (wi_yesN (by omega) (by decide)) h32))
    refine g_ald0 (pc' := 38) dX9_world_37 rfl ?_
    refine g_getI (pc' := 41) mg.s40 (by decide) fX9_174 hm dX9_world_38 rfl ?_
    refine g_bipush (pc' := 43) (v := nI 9) dX9_world_41 rfl (by decide) ?_
    refine g_icmpneN (pc' := 46) (by omega) (by omega) (tgt := 49) dX9_world_43 (by decide) rfl (fun h43 => ?_) (fun h43 => ?_)
    · refine g_ald0 (pc' := 50) dX9_world_49 rfl ?_
      refine g_ald0 (pc' := 51) dX9_world_50 rfl ?_
      refine g_getI (pc' := 54) mg.s40 (by decide) fX9_174 hm dX9_world_51 rfl ?_
      refine g_ild1 (pc' := 55) dX9_world_54 rfl ?_
      refine g_bipush (pc' := 57) (v := nI 10) dX9_world_55 rfl (by decide) ?_
      refine g_idivN (pc' := 58) (by omega) dX9_world_57 rfl ?_
      refine g_ild1 (pc' := 59) dX9_world_58 rfl ?_
      refine g_bipush (pc' := 61) (v := nI 10) dX9_world_59 rfl (by decide) ?_
      refine g_iremN (pc' := 62) (by omega) dX9_world_61 rfl ?_
      refine g_ild2 (pc' := 63) dX9_world_62 rfl ?_
      refine g_sipush (pc' := 66) (v := nI 10000) dX9_world_63 rfl (by decide) ?_
      refine g_idivN (pc' := 67) (by omega) dX9_world_66 rfl ?_
      refine g_ild2 (pc' := 68) dX9_world_67 rfl ?_
      refine g_sipush (pc' := 71) (v := nI 10000) dX9_world_68 rfl (by decide) ?_
      refine g_iremN (pc' := 72) (by omega) dX9_world_71 rfl ?_
      refine g_ild3 (pc' := 73) dX9_world_72 rfl ?_
      refine g_callV (pc' := 76) (c_mBegins l mg (w := m) (by omega) (nI (a / 10)) (nI (a % 10)) (nI (u / 10000)) (nI (u % 10000)) z) mg.s40 (by decide) wX9_begins lX9_182 rfl rfl (Nat.le_of_ble_eq_true rfl) ⟨Nat.le_of_ble_eq_true rfl, Nat.le_of_ble_eq_true rfl⟩ ⟨Nat.le_of_ble_eq_true rfl, Nat.le_of_ble_eq_true rfl⟩ dX9_world_73 rfl (kV (fun J hJ => ?_))
      have hmJ : J (40, 0) 18 = nI m := by
        rw [hJ]
        simp only [bgnI, zc, bgA]
        rw [upT_n _ (by simp), upM_n _ (by simp), upM_n _ (by simp), upM_n _ (by simp), upM_n _ (by simp), upM_n _ (by simp), upM_n _ (by simp), upM_n _ (by simp)]
        exact hm
      refine g_ald0 (pc' := 77) dX9_world_76 rfl ?_
      refine g_dupR (pc' := 78) dX9_world_77 rfl ?_
      refine g_getI (pc' := 81) mg.s40 (by decide) fX9_174 hmJ dX9_world_78 rfl ?_
      refine g_iconst (pc' := 82) (v := nI 1) dX9_world_81 rfl (by decide) ?_
      refine g_iaddN (pc' := 83) dX9_world_82 rfl ?_
      refine g_putI (pc' := 86) mg.s40 (by decide) ⟨fX9_174, rfl, pI⟩ dX9_world_83 rfl ?_
      refine g_ald0 (pc' := 87) dX9_world_86 rfl ?_
      refine g_getI (pc' := 90) mg.s40 (by decide) fX9_174 (v := nI (m + 1)) (by simp [upM]) dX9_world_87 rfl ?_
      refine g_iconst (pc' := 91) (v := nI 1) dX9_world_90 rfl (by decide) ?_
      refine g_isub (pc' := 92) dX9_world_91 rfl ?_
      refine g_topi (v := nI m) (pk_sub (by omega)) ?_
      refine g_iret rfl dX9_world_92 ?_
      exact eI ⟨rfl, by rw [hJ]⟩
    · exact absurd h43 (by omega)

theorem feed_b (v : Int32) : ∀ {k : Nat}, k < 4 → (v >>> (nI (8 * k) &&& 31)) &&& nI 255 = byI v k := by
  have key : ∀ (k : Nat) (s : Int32) (u : UInt32), (s.toBitVec.smod 32).toNat = k → u.toBitVec.toNat % 32 = k → k ≤ 24 → (v >>> s) &&& nI 255 = (v.toUInt32 >>> u).toInt32 &&& nI 255 := by
    intro k s u hs hu hk
    apply Int32.toBitVec_inj.mp
    apply BitVec.eq_of_getLsbD_eq
    intro i hi
    have hm : (nI 255).toBitVec.getLsbD i = decide (i < 8) := by
      have : ∀ i, i < 32 → (nI 255).toBitVec.getLsbD i = decide (i < 8) := by decide
      exact this i hi
    rw [Int32.toBitVec_and, Int32.toBitVec_and, BitVec.getLsbD_and, BitVec.getLsbD_and, hm]
    by_cases h8 : i < 8
    · rw [decide_eq_true h8, Bool.and_true, Bool.and_true]
      have h1 : (v >>> s).toBitVec = v.toBitVec.sshiftRight k := by rw [← hs]; rfl
      have h2 : ((v.toUInt32 >>> u).toInt32).toBitVec = v.toBitVec >>> k := by
        rw [← hu]
        show v.toBitVec >>> (u.toBitVec % 32) = _
        rw [BitVec.ushiftRight_eq', BitVec.toNat_umod]
        rfl
      rw [h1, h2, BitVec.getLsbD_sshiftRight, BitVec.getLsbD_ushiftRight]
      have : k + i < 32 := by omega
      simp [this, hi]
    · rw [decide_eq_false h8, Bool.and_false, Bool.and_false]
  intro k hk
  unfold byI
  rcases (show k = 0 ∨ k = 1 ∨ k = 2 ∨ k = 3 by omega) with rfl | rfl | rfl | rfl
  · exact key 0 _ _ (by decide) (by decide) (by decide)
  · exact key 8 _ _ (by decide) (by decide) (by decide)
  · exact key 16 _ _ (by decide) (by decide) (by decide)
  · exact key 24 _ _ (by decide) (by decide) (by decide)
def mfP (t : Tok) (i : Nat) : Prop := (t = (40, 0) ∧ i = 8) ∨ t = (57, 0)
theorem c_mFeedB (l : Launch) {S : Shp} {I : MI} {L : ML} {R : MR} (mg : MG S R) {x : Int32} (hb : x < nI 1 ∨ nI 4 < x) (v : Int32) : Ct l mX9_feed 2 0 0 [.inr (.inr (some (40, 0))), .inl x, .inl v] S I L R (PIp S I L R (-1)) := by
  refine Ct.of [some (.inr (.inr (some (40, 0)))), some (.inl x), some (.inl v), none] (by decide) rfl (Nat.le_of_ble_eq_true rfl) ?_
  refine g_ild1 (pc' := 1) dX9_feed_0 rfl ?_
  refine g_i2l (pc' := 2) dX9_feed_1 rfl ?_
  refine g_lconst (pc' := 3) (v := 1) dX9_feed_2 rfl (by decide) ?_
  refine g_ldc2 (pc' := 6) dX9_feed_3 rfl kX9_119 ?_
  refine g_callS (pc' := 9) (c_mWI l x (nI 1) (nI 4) (A := 1) (B := 4) (by decide) (by decide)) wX9_within lX9_102 rfl rfl (Nat.le_of_ble_eq_true rfl) ⟨Nat.le_of_ble_eq_true rfl, Nat.le_of_ble_eq_true rfl⟩ ⟨Nat.le_of_ble_eq_true rfl, Nat.le_of_ble_eq_true rfl⟩ dX9_feed_6 rfl (kIp ?_)
  refine g_ifneB (pc' := 12) (tgt := 14) dX9_feed_9 (by decide) rfl (fun h9 => (by first | exact absurd h9 (wi_no hb) | exact absurd (wi_no hb) h9)) (fun h9 => ?_)
  refine g_iconst (pc' := 13) (v := (-1)) dX9_feed_12 rfl (by decide) ?_
  refine g_iret rfl dX9_feed_13 ?_
  exact eIp rfl

theorem c_mFeedF (l : Launch) {S : Shp} {I : MI} {L : ML} {R : MR} (mg : MG S R) {len : Nat} (hl : I (40, 0) 8 = nI len) (hlen : len ≤ 120) {a : Nat} (v : Int32) (ha : 1 ≤ a ∧ a ≤ 4) (hf : 120 < len + a) : Ct l mX9_feed 2 0 0 [.inr (.inr (some (40, 0))), .inl (nI a), .inl v] S I L R (PIp S I L R (-3)) := by
  refine Ct.of [some (.inr (.inr (some (40, 0)))), some (.inl (nI a)), some (.inl v), none] (by decide) rfl (Nat.le_of_ble_eq_true rfl) ?_
  refine g_ild1 (pc' := 1) dX9_feed_0 rfl ?_
  refine g_i2l (pc' := 2) dX9_feed_1 rfl ?_
  refine g_lconst (pc' := 3) (v := 1) dX9_feed_2 rfl (by decide) ?_
  refine g_ldc2 (pc' := 6) dX9_feed_3 rfl kX9_119 ?_
  refine g_callS (pc' := 9) (c_mWI l (nI a) (nI 1) (nI 4) (A := 1) (B := 4) (by decide) (by decide)) wX9_within lX9_102 rfl rfl (Nat.le_of_ble_eq_true rfl) ⟨Nat.le_of_ble_eq_true rfl, Nat.le_of_ble_eq_true rfl⟩ ⟨Nat.le_of_ble_eq_true rfl, Nat.le_of_ble_eq_true rfl⟩ dX9_feed_6 rfl (kIp ?_)
  refine g_ifneB (pc' := 12) (tgt := 14) dX9_feed_9 (by decide) rfl (fun h9 => ?_) (fun h9 => (by first | exact absurd h9 (wi_yesN (by omega) (by decide)) | exact absurd (wi_yesN (by omega) (by decide)) h9))
  refine g_ald0 (pc' := 15) dX9_feed_14 rfl ?_
  refine g_getI (pc' := 18) mg.s40 (by decide) fX9_121 hl dX9_feed_15 rfl ?_
  refine g_ild1 (pc' := 19) dX9_feed_18 rfl ?_
  refine g_iaddN (pc' := 20) dX9_feed_19 rfl ?_
  refine g_bipush (pc' := 22) (v := nI 120) dX9_feed_20 rfl (by decide) ?_
  refine g_icmpleN (pc' := 25) (by omega) (by omega) (tgt := 28) dX9_feed_22 (by decide) rfl (fun h22 => ?_) (fun h22 => ?_)
  · exact absurd h22 (by omega)
  · refine g_bipush (pc' := 27) (v := (-3)) dX9_feed_25 rfl (by decide) ?_
    refine g_iret rfl dX9_feed_27 ?_
    exact eIp rfl

theorem c_mFeedS (l : Launch) {S : Shp} {I : MI} {L : ML} {R : MR} (mg : MG S R) {len : Nat} (hl : I (40, 0) 8 = nI len) (hlen : len ≤ 120) {a : Nat} (v : Int32) (ha : 1 ≤ a ∧ a ≤ 4) {B : Nat → Nat} (hb : ∀ q, q < len → I (57, 0) q = nI (B q)) (hf : len + a ≤ 120) : Ct l mX9_feed 2 0 0 [.inr (.inr (some (40, 0))), .inl (nI a), .inl v] S I L R (PIm S L R (fun r J => r = nI (len + a) ∧ J (40, 0) 8 = nI (len + a) ∧ (∀ q, q < len + a → J (57, 0) q = nI (feB B len v q)) ∧ Fr mfP I J)) := by
  refine Ct.of [some (.inr (.inr (some (40, 0)))), some (.inl (nI a)), some (.inl v), none] (by decide) rfl (Nat.le_of_ble_eq_true rfl) ?_
  refine g_ild1 (pc' := 1) dX9_feed_0 rfl ?_
  refine g_i2l (pc' := 2) dX9_feed_1 rfl ?_
  refine g_lconst (pc' := 3) (v := 1) dX9_feed_2 rfl (by decide) ?_
  refine g_ldc2 (pc' := 6) dX9_feed_3 rfl kX9_119 ?_
  refine g_callS (pc' := 9) (c_mWI l (nI a) (nI 1) (nI 4) (A := 1) (B := 4) (by decide) (by decide)) wX9_within lX9_102 rfl rfl (Nat.le_of_ble_eq_true rfl) ⟨Nat.le_of_ble_eq_true rfl, Nat.le_of_ble_eq_true rfl⟩ ⟨Nat.le_of_ble_eq_true rfl, Nat.le_of_ble_eq_true rfl⟩ dX9_feed_6 rfl (kIp ?_)
  refine g_ifneB (pc' := 12) (tgt := 14) dX9_feed_9 (by decide) rfl (fun h9 => ?_) (fun h9 => (by first | exact absurd h9 (wi_yesN (by omega) (by decide)) | exact absurd (wi_yesN (by omega) (by decide)) h9))
  refine g_ald0 (pc' := 15) dX9_feed_14 rfl ?_
  refine g_getI (pc' := 18) mg.s40 (by decide) fX9_121 hl dX9_feed_15 rfl ?_
  refine g_ild1 (pc' := 19) dX9_feed_18 rfl ?_
  refine g_iaddN (pc' := 20) dX9_feed_19 rfl ?_
  refine g_bipush (pc' := 22) (v := nI 120) dX9_feed_20 rfl (by decide) ?_
  refine g_icmpleN (pc' := 25) (by omega) (by omega) (tgt := 28) dX9_feed_22 (by decide) rfl (fun h22 => ?_) (fun h22 => ?_)
  · refine g_iconst (pc' := 29) (v := nI 0) dX9_feed_28 rfl (by decide) ?_
    refine g_ist3 (pc' := 30) rfl (by decide) dX9_feed_29 rfl ?_
    refine g_loop (σ := MI) (fun k (J : MI) => J (40, 0) 8 = nI (len + k) ∧ (∀ q, q < len + k → J (57, 0) q = nI (feB B len v q)) ∧ Fr mfP I J) (fun k J => [some (.inr (.inr (some (40, 0)))), some (.inl (nI a)), some (.inl v), some (.inl (nI k))]) (fun k J => J) a 0 I (by omega) ⟨hl, fun q hq => by unfold feB; rw [if_pos (show q < len from hq)]; exact hb q hq, Fr.rf⟩ ?_ ?_
    · intro k J hi hP ih
      refine g_ild3 (pc' := 31) dX9_feed_30 rfl ?_
      refine g_ild1 (pc' := 32) dX9_feed_31 rfl ?_
      refine g_icmpgeN (pc' := 35) (by omega) (by omega) (tgt := 70) dX9_feed_32 (by decide) rfl (fun h32 => ?_) (fun h32 => ?_)
      · exact absurd h32 (by omega)
      · refine g_ald0 (pc' := 36) dX9_feed_35 rfl ?_
        refine g_getR (pc' := 39) mg.s40 (by decide) fX9_22 mg.r40_7 dX9_feed_36 rfl ?_
        refine g_ald0 (pc' := 40) dX9_feed_39 rfl ?_
        refine g_getI (pc' := 43) mg.s40 (by decide) fX9_121 hP.1 dX9_feed_40 rfl ?_
        refine g_ild2 (pc' := 44) dX9_feed_43 rfl ?_
        refine g_bipush (pc' := 46) (v := nI 8) dX9_feed_44 rfl (by decide) ?_
        refine g_ild3 (pc' := 47) dX9_feed_46 rfl ?_
        refine g_imulN (pc' := 48) dX9_feed_47 rfl ?_
        refine g_ishr (pc' := 49) dX9_feed_48 rfl ?_
        refine g_sipush (pc' := 52) (v := nI 255) dX9_feed_49 rfl (by decide) ?_
        refine g_iand (pc' := 53) dX9_feed_52 rfl ?_
        refine g_topi (v := nI (byN v k)) ((feed_b v (by omega)).trans (byN_eq v k).2) ?_
        refine g_iast (pc' := 54) (j := len + k) mg.s57 rfl (by omega) (by decide) dX9_feed_53 rfl ?_
        refine g_ald0 (pc' := 55) dX9_feed_54 rfl ?_
        refine g_dupR (pc' := 56) dX9_feed_55 rfl ?_
        refine g_getI (pc' := 59) mg.s40 (by decide) fX9_121 (v := nI (len + k)) (by rw [upM_n _ (by simp)]; exact hP.1) dX9_feed_56 rfl ?_
        refine g_iconst (pc' := 60) (v := nI 1) dX9_feed_59 rfl (by decide) ?_
        refine g_iaddN (pc' := 61) dX9_feed_60 rfl ?_
        refine g_putI (pc' := 64) mg.s40 (by decide) ⟨fX9_121, rfl, pI⟩ dX9_feed_61 rfl ?_
        refine g_inc3 (pc' := 67) rfl (by decide) (v := nI (k + 1)) (nI_1 _) dX9_feed_64 rfl ?_
        refine g_goto (tgt := 30) dX9_feed_67 (by decide) ?_
        refine ih _ ⟨by rw [upM_s, Nat.add_assoc], fun q hq => ?_, (hP.2.2.up (by simp [mfP])).up (by simp [mfP])⟩
        rw [upM_n _ (by simp)]
        by_cases e : q = len + k
        · rw [e, upM_s]
          unfold feB
          rw [if_neg (by omega), Nat.add_sub_cancel_left]
        · rw [upM_k _ _ e]
          exact hP.2.1 q (by omega)
    · intro J hP
      refine g_ild3 (pc' := 31) dX9_feed_30 rfl ?_
      refine g_ild1 (pc' := 32) dX9_feed_31 rfl ?_
      refine g_icmpgeN (pc' := 35) (by omega) (by omega) (tgt := 70) dX9_feed_32 (by decide) rfl (fun h32 => ?_) (fun h32 => ?_)
      · refine g_ald0 (pc' := 71) dX9_feed_70 rfl ?_
        refine g_getI (pc' := 74) mg.s40 (by decide) fX9_121 hP.1 dX9_feed_71 rfl ?_
        refine g_iret rfl dX9_feed_74 ?_
        exact eI ⟨rfl, hP⟩
      · exact absurd h32 (by omega)
  · exact absurd h22 (by omega)

theorem c_mOfN (l : Launch) {S : Shp} {I : MI} {L : ML} {R : MR} (mg : MG S R) {m : Nat} (hm : I (40, 0) 18 = nI m) (hM : m ≤ 9) {x : Int32} (hx : inb x m = false) (y : Int32) : Ct l mX9_of 3 0 0 [.inr (.inr (some (40, 0))), .inl x, .inl y] S I L R (PIp S I L R (-1)) := by
  refine Ct.of [some (.inr (.inr (some (40, 0)))), some (.inl x), some (.inl y), none] (by decide) rfl (Nat.le_of_ble_eq_true rfl) ?_
  refine g_ald0 (pc' := 1) dX9_of_0 rfl ?_
  refine g_ild1 (pc' := 2) dX9_of_1 rfl ?_
  refine g_callV (pc' := 5) (c_misWorld l mg hm hM x) mg.s40 (by decide) wX9_isWorld lX9_186 rfl rfl (Nat.le_of_ble_eq_true rfl) ⟨Nat.le_of_ble_eq_true rfl, Nat.le_of_ble_eq_true rfl⟩ ⟨Nat.le_of_ble_eq_true rfl, Nat.le_of_ble_eq_true rfl⟩ dX9_of_2 rfl (kIp ?_)
  refine g_ifneB (pc' := 8) (tgt := 10) dX9_of_5 (by decide) rfl (fun h5 => (by first | exact absurd h5 (Bool.eq_false_iff.mp hx) | exact absurd (Bool.eq_false_iff.mp hx) h5)) (fun h5 => ?_)
  refine g_iconst (pc' := 9) (v := (-1)) dX9_of_8 rfl (by decide) ?_
  refine g_iret rfl dX9_of_9 ?_
  exact eIp rfl

def mofV (n : Nat) (f : Nat → Int32) (ca ke lw sh : Int32) (q : Nat) : Int32 := if q = 0 then ca else if q = 1 then ke else if q = 2 then lw else if q = 3 then sh else if q = 4 then (if n = 0 then (-2) else nI (rkO f n 0)) else -1
def mosV (n : Nat) (f : Nat → Int32) (ca un sh : Int32) (a s : Nat) : Int32 := if a = 1 then f s else if a = 2 then nI (plc f n s) else if a = 3 then psI sh ca un n (nI (plc f n s)) else if a = 4 then shareI f n s else -1
theorem c_mOfD (l : Launch) {S : Shp} {I : MI} {L : ML} {R : MR} (mg : MG S R) {n : Nat} (hn : I (40, 0) 6 = nI n) (hN : n ≤ 12) {m : Nat} (hm : I (40, 0) 18 = nI m) (hM : m ≤ 9) {w : Nat} (hwm : w < m) {y : Int32} (hy : y < 0) : Ct l mX9_of 3 0 0 [.inr (.inr (some (40, 0))), .inl (nI w), .inl y] S I L R (PIp S I L R (-1)) := by
  refine Ct.of [some (.inr (.inr (some (40, 0)))), some (.inl (nI w)), some (.inl y), none] (by decide) rfl (Nat.le_of_ble_eq_true rfl) ?_
  refine g_ald0 (pc' := 1) dX9_of_0 rfl ?_
  refine g_ild1 (pc' := 2) dX9_of_1 rfl ?_
  refine g_callV (pc' := 5) (c_misWorld l mg hm hM (nI w)) mg.s40 (by decide) wX9_isWorld lX9_186 rfl rfl (Nat.le_of_ble_eq_true rfl) ⟨Nat.le_of_ble_eq_true rfl, Nat.le_of_ble_eq_true rfl⟩ ⟨Nat.le_of_ble_eq_true rfl, Nat.le_of_ble_eq_true rfl⟩ dX9_of_2 rfl (kIp ?_)
  refine g_ifneB (pc' := 8) (tgt := 10) dX9_of_5 (by decide) rfl (fun h5 => ?_) (fun h5 => (by first | exact absurd h5 (by rw [inb_nI (by omega) (by omega)]; simp [hwm]) | exact absurd (by rw [inb_nI (by omega) (by omega)]; simp [hwm]) h5))
  refine g_ild2 (pc' := 11) dX9_of_10 rfl ?_
  refine g_tout (tgt := 91) dX9_of_11 (Or.inl ?_) (by decide) ?_
  · have := Int32.lt_iff_toInt_lt.mp hy
    exact this
  refine g_ild2 (pc' := 92) dX9_of_91 rfl ?_
  refine g_bipush (pc' := 94) (v := nI 100) dX9_of_92 rfl (by decide) ?_
  refine g_irem (pc' := 95) dX9_of_94 rfl (by decide) ?_
  refine g_ist3 (pc' := 96) rfl (by decide) dX9_of_95 rfl ?_
  refine g_ild2 (pc' := 97) dX9_of_96 rfl ?_
  refine g_i2l (pc' := 98) dX9_of_97 rfl ?_
  refine g_ldc2 (pc' := 101) dX9_of_98 rfl kX9_212 ?_
  refine g_ldc2 (pc' := 104) dX9_of_101 rfl kX9_214 ?_
  refine g_callS (pc' := 107) (c_mWI l y (nI 100) (nI 499) (A := 100) (B := 499) (by decide) (by decide)) wX9_within lX9_102 rfl rfl (Nat.le_of_ble_eq_true rfl) ⟨Nat.le_of_ble_eq_true rfl, Nat.le_of_ble_eq_true rfl⟩ ⟨Nat.le_of_ble_eq_true rfl, Nat.le_of_ble_eq_true rfl⟩ dX9_of_104 rfl (kIp ?_)
  refine g_ifeqB (pc' := 110) (tgt := 118) dX9_of_107 (by decide) rfl (fun h107 => ?_) (fun h107 => ?_)
  · refine g_iconst (pc' := 119) (v := (-1)) dX9_of_118 rfl (by decide) ?_
    refine g_iret rfl dX9_of_119 ?_
    exact eIp rfl
  · refine g_ald0 (pc' := 111) dX9_of_110 rfl ?_
    refine g_ild3 (pc' := 112) dX9_of_111 rfl ?_
    exact absurd h107 (wi_no (Or.inl (Int32.lt_of_lt_of_le hy (by decide))))

theorem c_mOfS (l : Launch) {S : Shp} {I : MI} {L : ML} {R : MR} (mg : MG S R) {n : Nat} (hn : I (40, 0) 6 = nI n) (hN : n ≤ 12) {m : Nat} (hm : I (40, 0) 18 = nI m) (hM : m ≤ 9) {w : Nat} (hwm : w < m) {f : Nat → Int32} (hf : ∀ o, o < n → I (50, 0) (23 + 12 * w + o) = f o) {ca ke lw sh un : Int32} (hca : I (73, 0) w = ca) (hke : I (74, 0) w = ke) (hlw : I (69, 0) w = lw) (hsh : I (70, 0) w = sh) (hun : I (71, 0) w = un) {q : Nat} (hq : q < 100) : Ct l mX9_of 4 0 0 [.inr (.inr (some (40, 0))), .inl (nI w), .inl (nI q)] S I L R (PIp S I L R (mofV n f ca ke lw sh q)) := by
  refine Ct.of [some (.inr (.inr (some (40, 0)))), some (.inl (nI w)), some (.inl (nI q)), none] (by decide) rfl (Nat.le_of_ble_eq_true rfl) ?_
  refine g_ald0 (pc' := 1) dX9_of_0 rfl ?_
  refine g_ild1 (pc' := 2) dX9_of_1 rfl ?_
  refine g_callV (pc' := 5) (c_misWorld l mg hm hM (nI w)) mg.s40 (by decide) wX9_isWorld lX9_186 rfl rfl (Nat.le_of_ble_eq_true rfl) ⟨Nat.le_of_ble_eq_true rfl, Nat.le_of_ble_eq_true rfl⟩ ⟨Nat.le_of_ble_eq_true rfl, Nat.le_of_ble_eq_true rfl⟩ dX9_of_2 rfl (kIp ?_)
  refine g_ifneB (pc' := 8) (tgt := 10) dX9_of_5 (by decide) rfl (fun h5 => ?_) (fun h5 => (by first | exact absurd h5 (by rw [inb_nI (by omega) (by omega)]; simp [hwm]) | exact absurd (by rw [inb_nI (by omega) (by omega)]; simp [hwm]) h5))
  refine g_ild2 (pc' := 11) dX9_of_10 rfl ?_
  rcases (show q = 0 ∨ q = 1 ∨ q = 2 ∨ q = 3 ∨ q = 4 ∨ 5 ≤ q by omega) with rfl | rfl | rfl | rfl | rfl | h5q
  · refine g_tin (off := 33) (tgt := 44) dX9_of_11 (by decide) (by decide) (by decide) (by decide) ?_
    refine g_ald0 (pc' := 45) dX9_of_44 rfl ?_
    refine g_getR (pc' := 48) mg.s40 (by decide) fX9_46 mg.r40_23 dX9_of_45 rfl ?_
    refine g_ild1 (pc' := 49) dX9_of_48 rfl ?_
    refine g_iald (pc' := 50) (j := w) mg.s73 rfl (by omega) (by decide) hca dX9_of_49 rfl ?_
    refine g_iret rfl dX9_of_50 ?_
    exact eIp (by unfold mofV; simp)
  · refine g_tin (off := 40) (tgt := 51) dX9_of_11 (by decide) (by decide) (by decide) (by decide) ?_
    refine g_ald0 (pc' := 52) dX9_of_51 rfl ?_
    refine g_getR (pc' := 55) mg.s40 (by decide) fX9_49 mg.r40_24 dX9_of_52 rfl ?_
    refine g_ild1 (pc' := 56) dX9_of_55 rfl ?_
    refine g_iald (pc' := 57) (j := w) mg.s74 rfl (by omega) (by decide) hke dX9_of_56 rfl ?_
    refine g_iret rfl dX9_of_57 ?_
    exact eIp (by unfold mofV; simp)
  · refine g_tin (off := 47) (tgt := 58) dX9_of_11 (by decide) (by decide) (by decide) (by decide) ?_
    refine g_ald0 (pc' := 59) dX9_of_58 rfl ?_
    refine g_getR (pc' := 62) mg.s40 (by decide) fX9_34 mg.r40_19 dX9_of_59 rfl ?_
    refine g_ild1 (pc' := 63) dX9_of_62 rfl ?_
    refine g_iald (pc' := 64) (j := w) mg.s69 rfl (by omega) (by decide) hlw dX9_of_63 rfl ?_
    refine g_iret rfl dX9_of_64 ?_
    exact eIp (by unfold mofV; simp)
  · refine g_tin (off := 54) (tgt := 65) dX9_of_11 (by decide) (by decide) (by decide) (by decide) ?_
    refine g_ald0 (pc' := 66) dX9_of_65 rfl ?_
    refine g_getR (pc' := 69) mg.s40 (by decide) fX9_37 mg.r40_20 dX9_of_66 rfl ?_
    refine g_ild1 (pc' := 70) dX9_of_69 rfl ?_
    refine g_iald (pc' := 71) (j := w) mg.s70 rfl (by omega) (by decide) hsh dX9_of_70 rfl ?_
    refine g_iret rfl dX9_of_71 ?_
    exact eIp (by unfold mofV; simp)
  · refine g_tin (off := 61) (tgt := 72) dX9_of_11 (by decide) (by decide) (by decide) (by decide) ?_
    refine g_ald0 (pc' := 73) dX9_of_72 rfl ?_
    refine g_getI (pc' := 76) mg.s40 (by decide) fX9_99 hn dX9_of_73 rfl ?_
    refine g_ifneN (pc' := 79) (by omega) (tgt := 84) dX9_of_76 (by decide) rfl (fun h76 => ?_) (fun h76 => ?_)
    · refine g_ald0 (pc' := 85) dX9_of_84 rfl ?_
      refine g_ild1 (pc' := 86) dX9_of_85 rfl ?_
      refine g_iconst (pc' := 87) (v := nI 0) dX9_of_86 rfl (by decide) ?_
      refine g_callV (pc' := 90) (c_mSongAt l mg hn hN (by omega) hf (p := 0) (by omega)) mg.s40 (by decide) wX9_songAt lX9_209 rfl rfl (Nat.le_of_ble_eq_true rfl) ⟨Nat.le_of_ble_eq_true rfl, Nat.le_of_ble_eq_true rfl⟩ ⟨Nat.le_of_ble_eq_true rfl, Nat.le_of_ble_eq_true rfl⟩ dX9_of_87 rfl (kIp ?_)
      refine g_iret rfl dX9_of_90 ?_
      exact eIp (by unfold mofV; first | (rw [if_neg (by decide), if_neg (by decide), if_neg (by decide), if_neg (by decide), if_pos rfl, if_pos (by omega)]; done) | (rw [if_neg (by decide), if_neg (by decide), if_neg (by decide), if_neg (by decide), if_pos rfl, if_neg (by omega)]))
    · refine g_bipush (pc' := 81) (v := (-2)) dX9_of_79 rfl (by decide) ?_
      refine g_goto (tgt := 90) dX9_of_81 (by decide) ?_
      refine g_iret rfl dX9_of_90 ?_
      exact eIp (by unfold mofV; first | (rw [if_neg (by decide), if_neg (by decide), if_neg (by decide), if_neg (by decide), if_pos rfl, if_pos (by omega)]; done) | (rw [if_neg (by decide), if_neg (by decide), if_neg (by decide), if_neg (by decide), if_pos rfl, if_neg (by omega)]))
  · refine g_tout (tgt := 91) dX9_of_11 (Or.inr (by rw [nI_toInt (by omega)]; omega)) (by decide) ?_
    refine g_ild2 (pc' := 92) dX9_of_91 rfl ?_
    refine g_bipush (pc' := 94) (v := nI 100) dX9_of_92 rfl (by decide) ?_
    refine g_iremN (pc' := 95) (by omega) dX9_of_94 rfl ?_
    refine g_ist3 (pc' := 96) rfl (by decide) dX9_of_95 rfl ?_
    refine g_ild2 (pc' := 97) dX9_of_96 rfl ?_
    refine g_i2l (pc' := 98) dX9_of_97 rfl ?_
    refine g_ldc2 (pc' := 101) dX9_of_98 rfl kX9_212 ?_
    refine g_ldc2 (pc' := 104) dX9_of_101 rfl kX9_214 ?_
    refine g_callS (pc' := 107) (c_mWI l (nI q) (nI 100) (nI 499) (A := 100) (B := 499) (by decide) (by decide)) wX9_within lX9_102 rfl rfl (Nat.le_of_ble_eq_true rfl) ⟨Nat.le_of_ble_eq_true rfl, Nat.le_of_ble_eq_true rfl⟩ ⟨Nat.le_of_ble_eq_true rfl, Nat.le_of_ble_eq_true rfl⟩ dX9_of_104 rfl (kIp ?_)
    refine g_ifeqB (pc' := 110) (tgt := 118) dX9_of_107 (by decide) rfl (fun h107 => ?_) (fun h107 => ?_)
    · refine g_iconst (pc' := 119) (v := (-1)) dX9_of_118 rfl (by decide) ?_
      refine g_iret rfl dX9_of_119 ?_
      exact eIp (by unfold mofV; rw [if_neg (by omega), if_neg (by omega), if_neg (by omega), if_neg (by omega), if_neg (by omega)])
    · refine g_ald0 (pc' := 111) dX9_of_110 rfl ?_
      refine g_ild3 (pc' := 112) dX9_of_111 rfl ?_
      exact absurd h107 (wi_no (Or.inl (by rw [nI_ltI (by omega) (by omega)]; omega)))

theorem c_mOfM (l : Launch) {S : Shp} {I : MI} {L : ML} {R : MR} (mg : MG S R) {n : Nat} (hn : I (40, 0) 6 = nI n) (hN : n ≤ 12) {m : Nat} (hm : I (40, 0) 18 = nI m) (hM : m ≤ 9) {w : Nat} (hwm : w < m) {q : Nat} (hq : 100 ≤ q) (hq2 : q < 2 ^ 31) (hs : ¬ q % 100 < n) : Ct l mX9_of 4 0 0 [.inr (.inr (some (40, 0))), .inl (nI w), .inl (nI q)] S I L R (PIp S I L R (-1)) := by
  refine Ct.of [some (.inr (.inr (some (40, 0)))), some (.inl (nI w)), some (.inl (nI q)), none] (by decide) rfl (Nat.le_of_ble_eq_true rfl) ?_
  refine g_ald0 (pc' := 1) dX9_of_0 rfl ?_
  refine g_ild1 (pc' := 2) dX9_of_1 rfl ?_
  refine g_callV (pc' := 5) (c_misWorld l mg hm hM (nI w)) mg.s40 (by decide) wX9_isWorld lX9_186 rfl rfl (Nat.le_of_ble_eq_true rfl) ⟨Nat.le_of_ble_eq_true rfl, Nat.le_of_ble_eq_true rfl⟩ ⟨Nat.le_of_ble_eq_true rfl, Nat.le_of_ble_eq_true rfl⟩ dX9_of_2 rfl (kIp ?_)
  refine g_ifneB (pc' := 8) (tgt := 10) dX9_of_5 (by decide) rfl (fun h5 => ?_) (fun h5 => (by first | exact absurd h5 (by rw [inb_nI (by omega) (by omega)]; simp [hwm]) | exact absurd (by rw [inb_nI (by omega) (by omega)]; simp [hwm]) h5))
  refine g_ild2 (pc' := 11) dX9_of_10 rfl ?_
  refine g_tout (tgt := 91) dX9_of_11 (Or.inr (by rw [nI_toInt (by omega)]; omega)) (by decide) ?_
  refine g_ild2 (pc' := 92) dX9_of_91 rfl ?_
  refine g_bipush (pc' := 94) (v := nI 100) dX9_of_92 rfl (by decide) ?_
  refine g_iremN (pc' := 95) (by omega) dX9_of_94 rfl ?_
  refine g_ist3 (pc' := 96) rfl (by decide) dX9_of_95 rfl ?_
  refine g_ild2 (pc' := 97) dX9_of_96 rfl ?_
  refine g_i2l (pc' := 98) dX9_of_97 rfl ?_
  refine g_ldc2 (pc' := 101) dX9_of_98 rfl kX9_212 ?_
  refine g_ldc2 (pc' := 104) dX9_of_101 rfl kX9_214 ?_
  refine g_callS (pc' := 107) (c_mWI l (nI q) (nI 100) (nI 499) (A := 100) (B := 499) (by decide) (by decide)) wX9_within lX9_102 rfl rfl (Nat.le_of_ble_eq_true rfl) ⟨Nat.le_of_ble_eq_true rfl, Nat.le_of_ble_eq_true rfl⟩ ⟨Nat.le_of_ble_eq_true rfl, Nat.le_of_ble_eq_true rfl⟩ dX9_of_104 rfl (kIp ?_)
  refine g_ifeqB (pc' := 110) (tgt := 118) dX9_of_107 (by decide) rfl (fun h107 => ?_) (fun h107 => ?_)
  · refine g_iconst (pc' := 119) (v := (-1)) dX9_of_118 rfl (by decide) ?_
    refine g_iret rfl dX9_of_119 ?_
    exact eIp rfl
  · refine g_ald0 (pc' := 111) dX9_of_110 rfl ?_
    refine g_ild3 (pc' := 112) dX9_of_111 rfl ?_
    refine g_callV (pc' := 115) (c_misSong l mg hn hN (nI (q % 100))) mg.s40 (by decide) wX9_isSong lX9_111 rfl rfl (Nat.le_of_ble_eq_true rfl) ⟨Nat.le_of_ble_eq_true rfl, Nat.le_of_ble_eq_true rfl⟩ ⟨Nat.le_of_ble_eq_true rfl, Nat.le_of_ble_eq_true rfl⟩ dX9_of_112 rfl (kIp ?_)
    refine g_ifneB (pc' := 118) (tgt := 120) dX9_of_115 (by decide) rfl (fun h115 => ?_) (fun h115 => ?_)
    · exfalso
      rw [inb_nI (by omega) (by omega)] at h115
      simp at h115
      omega
    · refine g_iconst (pc' := 119) (v := (-1)) dX9_of_118 rfl (by decide) ?_
      refine g_iret rfl dX9_of_119 ?_
      exact eIp rfl

theorem c_mOfL (l : Launch) {S : Shp} {I : MI} {L : ML} {R : MR} (mg : MG S R) {n : Nat} (hn : I (40, 0) 6 = nI n) (hN : n ≤ 12) {m : Nat} (hm : I (40, 0) 18 = nI m) (hM : m ≤ 9) {w : Nat} (hwm : w < m) {f : Nat → Int32} (hf : ∀ o, o < n → I (50, 0) (23 + 12 * w + o) = f o) (hbd : bdN f n) {ca ke lw sh un : Int32} (hca : I (73, 0) w = ca) (hke : I (74, 0) w = ke) (hlw : I (69, 0) w = lw) (hsh : I (70, 0) w = sh) (hun : I (71, 0) w = un) {q : Nat} (hq : 100 ≤ q) (hq2 : q < 2 ^ 31) (hs : q % 100 < n) : Ct l mX9_of 5 0 0 [.inr (.inr (some (40, 0))), .inl (nI w), .inl (nI q)] S I L R (PIp S I L R (mosV n f ca un sh (q / 100) (q % 100))) := by
  refine Ct.of [some (.inr (.inr (some (40, 0)))), some (.inl (nI w)), some (.inl (nI q)), none] (by decide) rfl (Nat.le_of_ble_eq_true rfl) ?_
  refine g_ald0 (pc' := 1) dX9_of_0 rfl ?_
  refine g_ild1 (pc' := 2) dX9_of_1 rfl ?_
  refine g_callV (pc' := 5) (c_misWorld l mg hm hM (nI w)) mg.s40 (by decide) wX9_isWorld lX9_186 rfl rfl (Nat.le_of_ble_eq_true rfl) ⟨Nat.le_of_ble_eq_true rfl, Nat.le_of_ble_eq_true rfl⟩ ⟨Nat.le_of_ble_eq_true rfl, Nat.le_of_ble_eq_true rfl⟩ dX9_of_2 rfl (kIp ?_)
  refine g_ifneB (pc' := 8) (tgt := 10) dX9_of_5 (by decide) rfl (fun h5 => ?_) (fun h5 => (by first | exact absurd h5 (by rw [inb_nI (by omega) (by omega)]; simp [hwm]) | exact absurd (by rw [inb_nI (by omega) (by omega)]; simp [hwm]) h5))
  refine g_ild2 (pc' := 11) dX9_of_10 rfl ?_
  refine g_tout (tgt := 91) dX9_of_11 (Or.inr (by rw [nI_toInt (by omega)]; omega)) (by decide) ?_
  refine g_ild2 (pc' := 92) dX9_of_91 rfl ?_
  refine g_bipush (pc' := 94) (v := nI 100) dX9_of_92 rfl (by decide) ?_
  refine g_iremN (pc' := 95) (by omega) dX9_of_94 rfl ?_
  refine g_ist3 (pc' := 96) rfl (by decide) dX9_of_95 rfl ?_
  refine g_ild2 (pc' := 97) dX9_of_96 rfl ?_
  refine g_i2l (pc' := 98) dX9_of_97 rfl ?_
  refine g_ldc2 (pc' := 101) dX9_of_98 rfl kX9_212 ?_
  refine g_ldc2 (pc' := 104) dX9_of_101 rfl kX9_214 ?_
  refine g_callS (pc' := 107) (c_mWI l (nI q) (nI 100) (nI 499) (A := 100) (B := 499) (by decide) (by decide)) wX9_within lX9_102 rfl rfl (Nat.le_of_ble_eq_true rfl) ⟨Nat.le_of_ble_eq_true rfl, Nat.le_of_ble_eq_true rfl⟩ ⟨Nat.le_of_ble_eq_true rfl, Nat.le_of_ble_eq_true rfl⟩ dX9_of_104 rfl (kIp ?_)
  refine g_ifeqB (pc' := 110) (tgt := 118) dX9_of_107 (by decide) rfl (fun h107 => ?_) (fun h107 => ?_)
  · refine g_iconst (pc' := 119) (v := (-1)) dX9_of_118 rfl (by decide) ?_
    refine g_iret rfl dX9_of_119 ?_
    refine eIp ?_
    by_cases hb5 : q < 500
    · exfalso
      first | exact absurd h107 (wi_yesN (by omega) (by decide)) | exact absurd h115 (by rw [inb_nI (by omega) (by omega)]; simp [hs])
    · unfold mosV
      rw [if_neg (by omega), if_neg (by omega), if_neg (by omega), if_neg (by omega)]
  · refine g_ald0 (pc' := 111) dX9_of_110 rfl ?_
    refine g_ild3 (pc' := 112) dX9_of_111 rfl ?_
    refine g_callV (pc' := 115) (c_misSong l mg hn hN (nI (q % 100))) mg.s40 (by decide) wX9_isSong lX9_111 rfl rfl (Nat.le_of_ble_eq_true rfl) ⟨Nat.le_of_ble_eq_true rfl, Nat.le_of_ble_eq_true rfl⟩ ⟨Nat.le_of_ble_eq_true rfl, Nat.le_of_ble_eq_true rfl⟩ dX9_of_112 rfl (kIp ?_)
    refine g_ifneB (pc' := 118) (tgt := 120) dX9_of_115 (by decide) rfl (fun h115 => ?_) (fun h115 => ?_)
    · refine g_ild2 (pc' := 121) dX9_of_120 rfl ?_
      refine g_sipush (pc' := 124) (v := nI 200) dX9_of_121 rfl (by decide) ?_
      refine g_icmpgeN (pc' := 127) (by omega) (by omega) (tgt := 136) dX9_of_124 (by decide) rfl (fun h124 => ?_) (fun h124 => ?_)
      · refine g_ild2 (pc' := 137) dX9_of_136 rfl ?_
        refine g_sipush (pc' := 140) (v := nI 300) dX9_of_137 rfl (by decide) ?_
        refine g_icmpgeN (pc' := 143) (by omega) (by omega) (tgt := 152) dX9_of_140 (by decide) rfl (fun h140 => ?_) (fun h140 => ?_)
        · refine g_ild2 (pc' := 153) dX9_of_152 rfl ?_
          refine g_sipush (pc' := 156) (v := nI 400) dX9_of_153 rfl (by decide) ?_
          refine g_icmpgeN (pc' := 159) (by omega) (by omega) (tgt := 168) dX9_of_156 (by decide) rfl (fun h156 => ?_) (fun h156 => ?_)
          · refine g_ald0 (pc' := 169) dX9_of_168 rfl ?_
            refine g_ild1 (pc' := 170) dX9_of_169 rfl ?_
            refine g_ild3 (pc' := 171) dX9_of_170 rfl ?_
            refine g_callV (pc' := 174) (c_mShare l mg hn hN (by omega) hf hbd hs) mg.s40 (by decide) wX9_share lX9_216 rfl rfl (Nat.le_of_ble_eq_true rfl) ⟨Nat.le_of_ble_eq_true rfl, Nat.le_of_ble_eq_true rfl⟩ ⟨Nat.le_of_ble_eq_true rfl, Nat.le_of_ble_eq_true rfl⟩ dX9_of_171 rfl (kIp ?_)
            refine g_iret rfl dX9_of_174 ?_
            have h499 : q < 500 := by
              rcases Nat.lt_or_ge q 500 with h | h
              · exact h
              · exact absurd h107 (wi_no (Or.inr (by rw [nI_ltI (by decide) (by omega)]; omega)))
            exact eIp (by unfold mosV; first | (rw [if_pos (by omega)]; done) | (rw [if_neg (by omega), if_pos (by omega)]; done) | (rw [if_neg (by omega), if_neg (by omega), if_pos (by omega)]; done) | (rw [if_neg (by omega), if_neg (by omega), if_neg (by omega), if_pos (by omega)]))
          · refine g_ald0 (pc' := 160) dX9_of_159 rfl ?_
            refine g_ild1 (pc' := 161) dX9_of_160 rfl ?_
            refine g_ild3 (pc' := 162) dX9_of_161 rfl ?_
            refine g_callV (pc' := 165) (c_mSeen l mg hn hN (by omega) hf hs hsh hca hun) mg.s40 (by decide) wX9_seenPlace lX9_197 rfl rfl (Nat.le_of_ble_eq_true rfl) ⟨Nat.le_of_ble_eq_true rfl, Nat.le_of_ble_eq_true rfl⟩ ⟨Nat.le_of_ble_eq_true rfl, Nat.le_of_ble_eq_true rfl⟩ dX9_of_162 rfl (kIp ?_)
            refine g_goto (tgt := 174) dX9_of_165 (by decide) ?_
            refine g_iret rfl dX9_of_174 ?_
            have h499 : q < 500 := by
              rcases Nat.lt_or_ge q 500 with h | h
              · exact h
              · exact absurd h107 (wi_no (Or.inr (by rw [nI_ltI (by decide) (by omega)]; omega)))
            exact eIp (by unfold mosV; first | (rw [if_pos (by omega)]; done) | (rw [if_neg (by omega), if_pos (by omega)]; done) | (rw [if_neg (by omega), if_neg (by omega), if_pos (by omega)]; done) | (rw [if_neg (by omega), if_neg (by omega), if_neg (by omega), if_pos (by omega)]))
        · refine g_ald0 (pc' := 144) dX9_of_143 rfl ?_
          refine g_ild1 (pc' := 145) dX9_of_144 rfl ?_
          refine g_ild3 (pc' := 146) dX9_of_145 rfl ?_
          refine g_callV (pc' := 149) (c_mPlace l mg hn hN (by omega) hf hs) mg.s40 (by decide) wX9_place lX9_194 rfl rfl (Nat.le_of_ble_eq_true rfl) ⟨Nat.le_of_ble_eq_true rfl, Nat.le_of_ble_eq_true rfl⟩ ⟨Nat.le_of_ble_eq_true rfl, Nat.le_of_ble_eq_true rfl⟩ dX9_of_146 rfl (kIp ?_)
          refine g_goto (tgt := 174) dX9_of_149 (by decide) ?_
          refine g_iret rfl dX9_of_174 ?_
          have h499 : q < 500 := by
            rcases Nat.lt_or_ge q 500 with h | h
            · exact h
            · exact absurd h107 (wi_no (Or.inr (by rw [nI_ltI (by decide) (by omega)]; omega)))
          exact eIp (by unfold mosV; first | (rw [if_pos (by omega)]; done) | (rw [if_neg (by omega), if_pos (by omega)]; done) | (rw [if_neg (by omega), if_neg (by omega), if_pos (by omega)]; done) | (rw [if_neg (by omega), if_neg (by omega), if_neg (by omega), if_pos (by omega)]))
      · refine g_ald0 (pc' := 128) dX9_of_127 rfl ?_
        refine g_ild1 (pc' := 129) dX9_of_128 rfl ?_
        refine g_ild3 (pc' := 130) dX9_of_129 rfl ?_
        refine g_callV (pc' := 133) (c_mCount l mg (by omega) (by omega) (hf _ hs)) mg.s40 (by decide) wX9_countOf lX9_191 rfl rfl (Nat.le_of_ble_eq_true rfl) ⟨Nat.le_of_ble_eq_true rfl, Nat.le_of_ble_eq_true rfl⟩ ⟨Nat.le_of_ble_eq_true rfl, Nat.le_of_ble_eq_true rfl⟩ dX9_of_130 rfl (kIp ?_)
        refine g_goto (tgt := 174) dX9_of_133 (by decide) ?_
        refine g_iret rfl dX9_of_174 ?_
        have h499 : q < 500 := by
          rcases Nat.lt_or_ge q 500 with h | h
          · exact h
          · exact absurd h107 (wi_no (Or.inr (by rw [nI_ltI (by decide) (by omega)]; omega)))
        exact eIp (by unfold mosV; first | (rw [if_pos (by omega)]; done) | (rw [if_neg (by omega), if_pos (by omega)]; done) | (rw [if_neg (by omega), if_neg (by omega), if_pos (by omega)]; done) | (rw [if_neg (by omega), if_neg (by omega), if_neg (by omega), if_pos (by omega)]))
    · refine g_iconst (pc' := 119) (v := (-1)) dX9_of_118 rfl (by decide) ?_
      refine g_iret rfl dX9_of_119 ?_
      refine eIp ?_
      by_cases hb5 : q < 500
      · exfalso
        first | exact absurd h107 (wi_yesN (by omega) (by decide)) | exact absurd h115 (by rw [inb_nI (by omega) (by omega)]; simp [hs])
      · unfold mosV
        rw [if_neg (by omega), if_neg (by omega), if_neg (by omega), if_neg (by omega)]
