/-! the model: changes -/
theorem wi_no {x a b : Int32} (h : x < a ∨ b < x) : ¬ wi x a b = true := by
  unfold wi
  rcases h with h | h
  · rw [decide_eq_false (Int32.not_le.mpr h)]; simp
  · rw [decide_eq_false (Int32.not_le.mpr h), Bool.and_false]; simp
theorem wi_yes {x a b : Int32} (h : ¬ x < a) (h2 : ¬ b < x) : ¬ wi x a b = false := by
  unfold wi
  rw [decide_eq_true (Int32.not_lt.mp h), decide_eq_true (Int32.not_lt.mp h2)]
  simp
theorem wi_yesN {q a b : Nat} (h : a ≤ q ∧ q ≤ b) (hb : b < 2 ^ 31) : ¬ wi (nI q) (nI a) (nI b) = false := wi_yes (by rw [nI_ltI (by omega) (by omega)]; omega) (by rw [nI_ltI (by omega) (by omega)]; omega)
def sh1 (f : Nat → Int32) (k j : Nat) : Int32 := if j + 1 < k then f (j + 1) else f j
theorem sh1_1 (f : Nat → Int32) : sh1 f 1 = f := funext fun j => if_neg (by omega)
theorem sh1_k (f : Nat → Int32) (k : Nat) : sh1 f k k = f k := if_neg (by omega)
def bcB (I : MI) (k : Nat) : MI := upT (upT (upT I (51, 0) (sh1 (I (51, 0)) k)) (52, 0) (sh1 (I (52, 0)) k)) (53, 0) (sh1 (I (53, 0)) k)
theorem bcB_1 (I : MI) : bcB I 1 = I := by
  unfold bcB
  rw [sh1_1, sh1_1, sh1_1, upT_self]
  rw [upT_self, upT_self]
theorem bcB_51 (I : MI) (k : Nat) : bcB I k (51, 0) = sh1 (I (51, 0)) k := by unfold bcB; rw [upT_n _ (by simp), upT_n _ (by simp), upT_s]
theorem bcB_52 (I : MI) (k : Nat) : bcB I k (52, 0) = sh1 (I (52, 0)) k := by unfold bcB; rw [upT_n _ (by simp), upT_s]
theorem bcB_53 (I : MI) (k : Nat) : bcB I k (53, 0) = sh1 (I (53, 0)) k := by unfold bcB; rw [upT_s]
theorem bcB_n (I : MI) (k : Nat) {t : Tok} (h : t ≠ (51, 0)) (h2 : t ≠ (52, 0)) (h3 : t ≠ (53, 0)) : bcB I k t = I t := by unfold bcB; rw [upT_n _ h3, upT_n _ h2, upT_n _ h]
theorem sh1_s (f : Nat → Int32) {k : Nat} (hk : 1 ≤ k) : (fun j => if j = k - 1 then f k else sh1 f k j) = sh1 f (k + 1) := by
  funext j
  unfold sh1
  by_cases h : j = k - 1
  · rw [if_pos h, if_pos (by omega), h, show k - 1 + 1 = k by omega]
  · rw [if_neg h]
    by_cases h2 : j + 1 < k
    · rw [if_pos h2, if_pos (by omega)]
    · rw [if_neg h2, if_neg (by omega)]
theorem bcB_s (I : MI) {k : Nat} (hk : 1 ≤ k) : upM (upM (upM (bcB I k) (51, 0) (k - 1) (I (51, 0) k)) (52, 0) (k - 1) (I (52, 0) k)) (53, 0) (k - 1) (I (53, 0) k) = bcB I (k + 1) := by
  funext t
  by_cases h3 : t = (53, 0)
  · subst h3
    rw [upM_r, upM_n _ (by simp), upM_n _ (by simp), bcB_53, bcB_53, sh1_s _ hk]
  · rw [upM_n _ h3]
    by_cases h2 : t = (52, 0)
    · subst h2
      rw [upM_r, upM_n _ (by simp), bcB_52, bcB_52, sh1_s _ hk]
    · rw [upM_n _ h2]
      by_cases h1 : t = (51, 0)
      · subst h1
        rw [upM_r, bcB_51, bcB_51, sh1_s _ hk]
      · rw [upM_n _ h1, bcB_n _ _ h1 h2 h3, bcB_n _ _ h1 h2 h3]
def bcP (I : MI) (d q : Nat) (x v : Int32) : MI := upM (upM (upM (upM (upM (upM I (51, 0) d (nI q)) (52, 0) d x) (53, 0) d v) (40, 0) 5 (nI (d + 1))) (40, 0) 4 (nI (d + 1))) (50, 0) q v
def bcF (I : MI) : MI := upM (bcB I 40) (40, 0) 5 (nI 39)
def bcmI (I : MI) (d q : Nat) (x v : Int32) : MI := if x = v then I else if d < 40 then bcP I d q x v else bcP (bcF I) 39 q x v
theorem c_mBecE (l : Launch) {S : Shp} {I : MI} {L : ML} {R : MR} (mg : MG S R) {q : Nat} (hq : q < 155) {x : Int32} (hx : I (50, 0) q = x) {v : Int32} (he : x = v) : Ct l mX9_becomes 1 0 0 [.inr (.inr (some (40, 0))), .inl (nI q), .inl v] S I L R (PIp S I L R x) := by
  refine Ct.of [some (.inr (.inr (some (40, 0)))), some (.inl (nI q)), some (.inl v), none, none] (by decide) rfl (Nat.le_of_ble_eq_true rfl) ?_
  refine g_ald0 (pc' := 1) dX9_becomes_0 rfl ?_
  refine g_getR (pc' := 4) mg.s40 (by decide) fX9_9 mg.r40_0 dX9_becomes_1 rfl ?_
  refine g_ild1 (pc' := 5) dX9_becomes_4 rfl ?_
  refine g_iald (pc' := 6) (j := q) mg.s50 rfl (by omega) (by decide) hx dX9_becomes_5 rfl ?_
  refine g_ist3 (pc' := 7) rfl (by decide) dX9_becomes_6 rfl ?_
  refine g_ild3 (pc' := 8) dX9_becomes_7 rfl ?_
  refine g_ild2 (pc' := 9) dX9_becomes_8 rfl ?_
  refine g_icmpne (pc' := 12) (tgt := 14) dX9_becomes_9 (by decide) rfl (fun h9 => (by first | exact absurd h9 he | exact absurd he h9)) (fun h9 => ?_)
  refine g_ild3 (pc' := 13) dX9_becomes_12 rfl ?_
  refine g_iret rfl dX9_becomes_13 ?_
  exact eIp rfl

theorem c_mBecA (l : Launch) {S : Shp} {I : MI} {L : ML} {R : MR} (mg : MG S R) {q : Nat} (hq : q < 155) {x : Int32} (hx : I (50, 0) q = x) {v : Int32} (he : ¬ x = v) {d : Nat} (hd : I (40, 0) 5 = nI d) (hd40 : d < 40) : Ct l mX9_becomes 1 0 0 [.inr (.inr (some (40, 0))), .inl (nI q), .inl v] S I L R (PIm S L R (fun r J => r = x ∧ J = bcP I d q x v)) := by
  refine Ct.of [some (.inr (.inr (some (40, 0)))), some (.inl (nI q)), some (.inl v), none, none] (by decide) rfl (Nat.le_of_ble_eq_true rfl) ?_
  refine g_ald0 (pc' := 1) dX9_becomes_0 rfl ?_
  refine g_getR (pc' := 4) mg.s40 (by decide) fX9_9 mg.r40_0 dX9_becomes_1 rfl ?_
  refine g_ild1 (pc' := 5) dX9_becomes_4 rfl ?_
  refine g_iald (pc' := 6) (j := q) mg.s50 rfl (by omega) (by decide) hx dX9_becomes_5 rfl ?_
  refine g_ist3 (pc' := 7) rfl (by decide) dX9_becomes_6 rfl ?_
  refine g_ild3 (pc' := 8) dX9_becomes_7 rfl ?_
  refine g_ild2 (pc' := 9) dX9_becomes_8 rfl ?_
  refine g_icmpne (pc' := 12) (tgt := 14) dX9_becomes_9 (by decide) rfl (fun h9 => ?_) (fun h9 => (by first | exact absurd h9 he | exact absurd he h9))
  refine g_ald0 (pc' := 15) dX9_becomes_14 rfl ?_
  refine g_getI (pc' := 18) mg.s40 (by decide) fX9_92 hd dX9_becomes_15 rfl ?_
  refine g_bipush (pc' := 20) (v := nI 40) dX9_becomes_18 rfl (by decide) ?_
  refine g_icmpneN (pc' := 23) (by omega) (by omega) (tgt := 97) dX9_becomes_20 (by decide) rfl (fun h20 => ?_) (fun h20 => ?_)
  · refine g_ald0 (pc' := 98) dX9_becomes_97 rfl ?_
    refine g_getR (pc' := 101) mg.s40 (by decide) fX9_13 mg.r40_1 dX9_becomes_98 rfl ?_
    refine g_ald0 (pc' := 102) dX9_becomes_101 rfl ?_
    refine g_getI (pc' := 105) mg.s40 (by decide) fX9_92 hd dX9_becomes_102 rfl ?_
    refine g_ild1 (pc' := 106) dX9_becomes_105 rfl ?_
    refine g_iast (pc' := 107) (j := d) mg.s51 rfl (by omega) (by decide) dX9_becomes_106 rfl ?_
    refine g_ald0 (pc' := 108) dX9_becomes_107 rfl ?_
    refine g_getR (pc' := 111) mg.s40 (by decide) fX9_16 mg.r40_2 dX9_becomes_108 rfl ?_
    refine g_ald0 (pc' := 112) dX9_becomes_111 rfl ?_
    refine g_getI (pc' := 115) mg.s40 (by decide) fX9_92 (v := nI d) (by simp [upM, hd]) dX9_becomes_112 rfl ?_
    refine g_ild3 (pc' := 116) dX9_becomes_115 rfl ?_
    refine g_iast (pc' := 117) (j := d) mg.s52 rfl (by omega) (by decide) dX9_becomes_116 rfl ?_
    refine g_ald0 (pc' := 118) dX9_becomes_117 rfl ?_
    refine g_getR (pc' := 121) mg.s40 (by decide) fX9_19 mg.r40_3 dX9_becomes_118 rfl ?_
    refine g_ald0 (pc' := 122) dX9_becomes_121 rfl ?_
    refine g_getI (pc' := 125) mg.s40 (by decide) fX9_92 (v := nI d) (by simp [upM, hd]) dX9_becomes_122 rfl ?_
    refine g_ild2 (pc' := 126) dX9_becomes_125 rfl ?_
    refine g_iast (pc' := 127) (j := d) mg.s53 rfl (by omega) (by decide) dX9_becomes_126 rfl ?_
    refine g_ald0 (pc' := 128) dX9_becomes_127 rfl ?_
    refine g_dupR (pc' := 129) dX9_becomes_128 rfl ?_
    refine g_getI (pc' := 132) mg.s40 (by decide) fX9_92 (v := nI d) (by simp [upM, hd]) dX9_becomes_129 rfl ?_
    refine g_iconst (pc' := 133) (v := nI 1) dX9_becomes_132 rfl (by decide) ?_
    refine g_iaddN (pc' := 134) dX9_becomes_133 rfl ?_
    refine g_putI (pc' := 137) mg.s40 (by decide) ⟨fX9_92, rfl, pI⟩ dX9_becomes_134 rfl ?_
    refine g_ald0 (pc' := 138) dX9_becomes_137 rfl ?_
    refine g_ald0 (pc' := 139) dX9_becomes_138 rfl ?_
    refine g_getI (pc' := 142) mg.s40 (by decide) fX9_92 (v := nI (d + 1)) (by simp [upM]) dX9_becomes_139 rfl ?_
    refine g_putI (pc' := 145) mg.s40 (by decide) ⟨fX9_96, rfl, pI⟩ dX9_becomes_142 rfl ?_
    refine g_ald0 (pc' := 146) dX9_becomes_145 rfl ?_
    refine g_getR (pc' := 149) mg.s40 (by decide) fX9_9 mg.r40_0 dX9_becomes_146 rfl ?_
    refine g_ild1 (pc' := 150) dX9_becomes_149 rfl ?_
    refine g_ild2 (pc' := 151) dX9_becomes_150 rfl ?_
    refine g_iast (pc' := 152) (j := q) mg.s50 rfl (by omega) (by decide) dX9_becomes_151 rfl ?_
    refine g_ild3 (pc' := 153) dX9_becomes_152 rfl ?_
    refine g_iret rfl dX9_becomes_153 ?_
    exact eI ⟨rfl, rfl⟩
  · exact absurd h20 (by omega)

theorem c_mBecF (l : Launch) {S : Shp} {I : MI} {L : ML} {R : MR} (mg : MG S R) {q : Nat} (hq : q < 155) {x : Int32} (hx : I (50, 0) q = x) {v : Int32} (he : ¬ x = v) (hd : I (40, 0) 5 = nI 40) : Ct l mX9_becomes 1 0 0 [.inr (.inr (some (40, 0))), .inl (nI q), .inl v] S I L R (PIm S L R (fun r J => r = x ∧ J = bcP (bcF I) 39 q x v)) := by
  refine Ct.of [some (.inr (.inr (some (40, 0)))), some (.inl (nI q)), some (.inl v), none, none] (by decide) rfl (Nat.le_of_ble_eq_true rfl) ?_
  refine g_ald0 (pc' := 1) dX9_becomes_0 rfl ?_
  refine g_getR (pc' := 4) mg.s40 (by decide) fX9_9 mg.r40_0 dX9_becomes_1 rfl ?_
  refine g_ild1 (pc' := 5) dX9_becomes_4 rfl ?_
  refine g_iald (pc' := 6) (j := q) mg.s50 rfl (by omega) (by decide) hx dX9_becomes_5 rfl ?_
  refine g_ist3 (pc' := 7) rfl (by decide) dX9_becomes_6 rfl ?_
  refine g_ild3 (pc' := 8) dX9_becomes_7 rfl ?_
  refine g_ild2 (pc' := 9) dX9_becomes_8 rfl ?_
  refine g_icmpne (pc' := 12) (tgt := 14) dX9_becomes_9 (by decide) rfl (fun h9 => ?_) (fun h9 => (by first | exact absurd h9 he | exact absurd he h9))
  refine g_ald0 (pc' := 15) dX9_becomes_14 rfl ?_
  refine g_getI (pc' := 18) mg.s40 (by decide) fX9_92 hd dX9_becomes_15 rfl ?_
  refine g_bipush (pc' := 20) (v := nI 40) dX9_becomes_18 rfl (by decide) ?_
  refine g_icmpneN (pc' := 23) (by omega) (by omega) (tgt := 97) dX9_becomes_20 (by decide) rfl (fun h20 => ?_) (fun h20 => ?_)
  · exact absurd h20 (by omega)
  · refine g_iconst (pc' := 24) (v := nI 1) dX9_becomes_23 rfl (by decide) ?_
    refine g_ist4 (pc' := 26) rfl (by decide) dX9_becomes_24 rfl ?_
    have hd4 : bcB I 40 (40, 0) 5 = nI 40 := by rw [bcB_n _ _ (by simp) (by simp) (by simp)]; exact hd
    refine g_mem (bcB_1 I).symm ?_
    refine g_loop (σ := Unit) (fun k _ => 1 ≤ k) (fun k _ => [some (.inr (.inr (some (40, 0)))), some (.inl (nI q)), some (.inl v), some (.inl x), some (.inl (nI k))]) (fun k _ => bcB I k) 40 1 () (by omega) (by omega) ?_ ?_
    · intro k _ hi hP ih
      refine g_ild4 (pc' := 28) dX9_becomes_26 rfl ?_
      refine g_bipush (pc' := 30) (v := nI 40) dX9_becomes_28 rfl (by decide) ?_
      refine g_icmpgeN (pc' := 33) (by omega) (by omega) (tgt := 87) dX9_becomes_30 (by decide) rfl (fun h30 => ?_) (fun h30 => ?_)
      · exact absurd h30 (by omega)
      · refine g_ald0 (pc' := 34) dX9_becomes_33 rfl ?_
        refine g_getR (pc' := 37) mg.s40 (by decide) fX9_13 mg.r40_1 dX9_becomes_34 rfl ?_
        refine g_ild4 (pc' := 39) dX9_becomes_37 rfl ?_
        refine g_iconst (pc' := 40) (v := nI 1) dX9_becomes_39 rfl (by decide) ?_
        refine g_isubN (pc' := 41) (by omega) dX9_becomes_40 rfl ?_
        refine g_ald0 (pc' := 42) dX9_becomes_41 rfl ?_
        refine g_getR (pc' := 45) mg.s40 (by decide) fX9_13 mg.r40_1 dX9_becomes_42 rfl ?_
        refine g_ild4 (pc' := 47) dX9_becomes_45 rfl ?_
        refine g_iald (pc' := 48) (j := k) mg.s51 rfl (by omega) (by decide) (v := I (51, 0) k) (by rw [bcB_51, sh1_k]) dX9_becomes_47 rfl ?_
        refine g_iast (pc' := 49) (j := k - 1) mg.s51 rfl (by omega) (by decide) dX9_becomes_48 rfl ?_
        refine g_ald0 (pc' := 50) dX9_becomes_49 rfl ?_
        refine g_getR (pc' := 53) mg.s40 (by decide) fX9_16 mg.r40_2 dX9_becomes_50 rfl ?_
        refine g_ild4 (pc' := 55) dX9_becomes_53 rfl ?_
        refine g_iconst (pc' := 56) (v := nI 1) dX9_becomes_55 rfl (by decide) ?_
        refine g_isubN (pc' := 57) (by omega) dX9_becomes_56 rfl ?_
        refine g_ald0 (pc' := 58) dX9_becomes_57 rfl ?_
        refine g_getR (pc' := 61) mg.s40 (by decide) fX9_16 mg.r40_2 dX9_becomes_58 rfl ?_
        refine g_ild4 (pc' := 63) dX9_becomes_61 rfl ?_
        refine g_iald (pc' := 64) (j := k) mg.s52 rfl (by omega) (by decide) (v := I (52, 0) k) (by rw [upM_n _ (by simp), bcB_52, sh1_k]) dX9_becomes_63 rfl ?_
        refine g_iast (pc' := 65) (j := k - 1) mg.s52 rfl (by omega) (by decide) dX9_becomes_64 rfl ?_
        refine g_ald0 (pc' := 66) dX9_becomes_65 rfl ?_
        refine g_getR (pc' := 69) mg.s40 (by decide) fX9_19 mg.r40_3 dX9_becomes_66 rfl ?_
        refine g_ild4 (pc' := 71) dX9_becomes_69 rfl ?_
        refine g_iconst (pc' := 72) (v := nI 1) dX9_becomes_71 rfl (by decide) ?_
        refine g_isubN (pc' := 73) (by omega) dX9_becomes_72 rfl ?_
        refine g_ald0 (pc' := 74) dX9_becomes_73 rfl ?_
        refine g_getR (pc' := 77) mg.s40 (by decide) fX9_19 mg.r40_3 dX9_becomes_74 rfl ?_
        refine g_ild4 (pc' := 79) dX9_becomes_77 rfl ?_
        refine g_iald (pc' := 80) (j := k) mg.s53 rfl (by omega) (by decide) (v := I (53, 0) k) (by rw [upM_n _ (by simp), upM_n _ (by simp), bcB_53, sh1_k]) dX9_becomes_79 rfl ?_
        refine g_iast (pc' := 81) (j := k - 1) mg.s53 rfl (by omega) (by decide) dX9_becomes_80 rfl ?_
        refine g_inc4 (pc' := 84) rfl (by decide) (v := nI (k + 1)) (nI_1 _) dX9_becomes_81 rfl ?_
        refine g_goto (tgt := 26) dX9_becomes_84 (by decide) ?_
        rw [bcB_s _ hP]
        exact ih () (by omega)
    · intro _ hP
      refine g_ild4 (pc' := 28) dX9_becomes_26 rfl ?_
      refine g_bipush (pc' := 30) (v := nI 40) dX9_becomes_28 rfl (by decide) ?_
      refine g_icmpgeN (pc' := 33) (by omega) (by omega) (tgt := 87) dX9_becomes_30 (by decide) rfl (fun h30 => ?_) (fun h30 => ?_)
      · refine g_ald0 (pc' := 88) dX9_becomes_87 rfl ?_
        refine g_dupR (pc' := 89) dX9_becomes_88 rfl ?_
        refine g_getI (pc' := 92) mg.s40 (by decide) fX9_92 hd4 dX9_becomes_89 rfl ?_
        refine g_iconst (pc' := 93) (v := nI 1) dX9_becomes_92 rfl (by decide) ?_
        refine g_isubN (pc' := 94) (by omega) dX9_becomes_93 rfl ?_
        refine g_putI (pc' := 97) mg.s40 (by decide) ⟨fX9_92, rfl, pI⟩ dX9_becomes_94 rfl ?_
        refine g_name (fun J hJ => ?_)
        have hJ : J = bcF I := hJ
        rw [show bcP (bcF I) 39 q x v = bcP J 39 q x v by rw [hJ]]
        have hdJ : J (40, 0) 5 = nI 39 := by rw [hJ]; exact upM_s _ _ _ _
        refine g_ald0 (pc' := 98) dX9_becomes_97 rfl ?_
        refine g_getR (pc' := 101) mg.s40 (by decide) fX9_13 mg.r40_1 dX9_becomes_98 rfl ?_
        refine g_ald0 (pc' := 102) dX9_becomes_101 rfl ?_
        refine g_getI (pc' := 105) mg.s40 (by decide) fX9_92 hdJ dX9_becomes_102 rfl ?_
        refine g_ild1 (pc' := 106) dX9_becomes_105 rfl ?_
        refine g_iast (pc' := 107) (j := 39) mg.s51 rfl (by omega) (by decide) dX9_becomes_106 rfl ?_
        refine g_ald0 (pc' := 108) dX9_becomes_107 rfl ?_
        refine g_getR (pc' := 111) mg.s40 (by decide) fX9_16 mg.r40_2 dX9_becomes_108 rfl ?_
        refine g_ald0 (pc' := 112) dX9_becomes_111 rfl ?_
        refine g_getI (pc' := 115) mg.s40 (by decide) fX9_92 (v := nI 39) (by simp [upM, hdJ]) dX9_becomes_112 rfl ?_
        refine g_ild3 (pc' := 116) dX9_becomes_115 rfl ?_
        refine g_iast (pc' := 117) (j := 39) mg.s52 rfl (by omega) (by decide) dX9_becomes_116 rfl ?_
        refine g_ald0 (pc' := 118) dX9_becomes_117 rfl ?_
        refine g_getR (pc' := 121) mg.s40 (by decide) fX9_19 mg.r40_3 dX9_becomes_118 rfl ?_
        refine g_ald0 (pc' := 122) dX9_becomes_121 rfl ?_
        refine g_getI (pc' := 125) mg.s40 (by decide) fX9_92 (v := nI 39) (by simp [upM, hdJ]) dX9_becomes_122 rfl ?_
        refine g_ild2 (pc' := 126) dX9_becomes_125 rfl ?_
        refine g_iast (pc' := 127) (j := 39) mg.s53 rfl (by omega) (by decide) dX9_becomes_126 rfl ?_
        refine g_ald0 (pc' := 128) dX9_becomes_127 rfl ?_
        refine g_dupR (pc' := 129) dX9_becomes_128 rfl ?_
        refine g_getI (pc' := 132) mg.s40 (by decide) fX9_92 (v := nI 39) (by simp [upM, hdJ]) dX9_becomes_129 rfl ?_
        refine g_iconst (pc' := 133) (v := nI 1) dX9_becomes_132 rfl (by decide) ?_
        refine g_iaddN (pc' := 134) dX9_becomes_133 rfl ?_
        refine g_putI (pc' := 137) mg.s40 (by decide) ⟨fX9_92, rfl, pI⟩ dX9_becomes_134 rfl ?_
        refine g_ald0 (pc' := 138) dX9_becomes_137 rfl ?_
        refine g_ald0 (pc' := 139) dX9_becomes_138 rfl ?_
        refine g_getI (pc' := 142) mg.s40 (by decide) fX9_92 (v := nI (39 + 1)) (by simp [upM]) dX9_becomes_139 rfl ?_
        refine g_putI (pc' := 145) mg.s40 (by decide) ⟨fX9_96, rfl, pI⟩ dX9_becomes_142 rfl ?_
        refine g_ald0 (pc' := 146) dX9_becomes_145 rfl ?_
        refine g_getR (pc' := 149) mg.s40 (by decide) fX9_9 mg.r40_0 dX9_becomes_146 rfl ?_
        refine g_ild1 (pc' := 150) dX9_becomes_149 rfl ?_
        refine g_ild2 (pc' := 151) dX9_becomes_150 rfl ?_
        refine g_iast (pc' := 152) (j := q) mg.s50 rfl (by omega) (by decide) dX9_becomes_151 rfl ?_
        refine g_ild3 (pc' := 153) dX9_becomes_152 rfl ?_
        refine g_iret rfl dX9_becomes_153 ?_
        exact eI ⟨rfl, rfl⟩
      · exact absurd h30 (by omega)

theorem c_mBec (l : Launch) {S : Shp} {I : MI} {L : ML} {R : MR} (mg : MG S R) {q : Nat} (hq : q < 155) {x : Int32} (hx : I (50, 0) q = x) {d : Nat} (hd : I (40, 0) 5 = nI d) (hd40 : d ≤ 40) (v : Int32) : Ct l mX9_becomes 1 0 0 [.inr (.inr (some (40, 0))), .inl (nI q), .inl v] S I L R (PIm S L R (fun r J => r = x ∧ J = bcmI I d q x v)) := by
  by_cases h : x = v
  · have e : bcmI I d q x v = I := if_pos h
    rw [e]
    exact c_mBecE l mg hq hx h
  · by_cases h2 : d < 40
    · have e : bcmI I d q x v = bcP I d q x v := by unfold bcmI; rw [if_neg h, if_pos h2]
      rw [e]
      exact c_mBecA l mg hq hx h hd h2
    · have e : bcmI I d q x v = bcP (bcF I) 39 q x v := by unfold bcmI; rw [if_neg h, if_neg h2]
      rw [e]
      obtain rfl : d = 40 := by omega
      exact c_mBecF l mg hq hx h hd
theorem c_mUndoE (l : Launch) {S : Shp} {I : MI} {L : ML} {R : MR} (mg : MG S R) (hd : I (40, 0) 5 = nI 0) : Ct l mX9_undo 1 0 0 [.inr (.inr (some (40, 0)))] S I L R (PIp S I L R (-5)) := by
  refine Ct.of [some (.inr (.inr (some (40, 0))))] (by decide) rfl (Nat.le_of_ble_eq_true rfl) ?_
  refine g_ald0 (pc' := 1) dX9_undo_0 rfl ?_
  refine g_getI (pc' := 4) mg.s40 (by decide) fX9_92 hd dX9_undo_1 rfl ?_
  refine g_ifneN (pc' := 7) (by omega) (tgt := 10) dX9_undo_4 (by decide) rfl (fun h4 => ?_) (fun h4 => ?_)
  · exact absurd h4 (by omega)
  · refine g_bipush (pc' := 9) (v := (-5)) dX9_undo_7 rfl (by decide) ?_
    refine g_iret rfl dX9_undo_9 ?_
    exact eIp rfl

theorem c_mUndoS (l : Launch) {S : Shp} {I : MI} {L : ML} {R : MR} (mg : MG S R) {t q : Nat} (ht : t < 40) (hd : I (40, 0) 5 = nI (t + 1)) (hat : I (51, 0) t = nI q) (hq : q < 155) : Ct l mX9_undo 1 0 0 [.inr (.inr (some (40, 0)))] S I L R (PIm S L R (fun v J => v = nI t ∧ J = upM (upM I (40, 0) 5 (nI t)) (50, 0) q (I (52, 0) t))) := by
  refine Ct.of [some (.inr (.inr (some (40, 0))))] (by decide) rfl (Nat.le_of_ble_eq_true rfl) ?_
  refine g_ald0 (pc' := 1) dX9_undo_0 rfl ?_
  refine g_getI (pc' := 4) mg.s40 (by decide) fX9_92 hd dX9_undo_1 rfl ?_
  refine g_ifneN (pc' := 7) (by omega) (tgt := 10) dX9_undo_4 (by decide) rfl (fun h4 => ?_) (fun h4 => ?_)
  · refine g_ald0 (pc' := 11) dX9_undo_10 rfl ?_
    refine g_dupR (pc' := 12) dX9_undo_11 rfl ?_
    refine g_getI (pc' := 15) mg.s40 (by decide) fX9_92 hd dX9_undo_12 rfl ?_
    refine g_iconst (pc' := 16) (v := nI 1) dX9_undo_15 rfl (by decide) ?_
    refine g_isub (pc' := 17) dX9_undo_16 rfl ?_
    refine g_topi (v := nI t) (pk_sub (by omega)) ?_
    refine g_putI (pc' := 20) mg.s40 (by decide) ⟨fX9_92, rfl, pI⟩ dX9_undo_17 rfl ?_
    refine g_ald0 (pc' := 21) dX9_undo_20 rfl ?_
    refine g_getR (pc' := 24) mg.s40 (by decide) fX9_9 mg.r40_0 dX9_undo_21 rfl ?_
    refine g_ald0 (pc' := 25) dX9_undo_24 rfl ?_
    refine g_getR (pc' := 28) mg.s40 (by decide) fX9_13 mg.r40_1 dX9_undo_25 rfl ?_
    refine g_ald0 (pc' := 29) dX9_undo_28 rfl ?_
    refine g_getI (pc' := 32) mg.s40 (by decide) fX9_92 (v := nI t) (by simp [upM]) dX9_undo_29 rfl ?_
    refine g_iald (pc' := 33) (j := t) mg.s51 rfl (by omega) (by decide) (v := nI q) (by rw [upM_n _ (by simp)]; exact hat) dX9_undo_32 rfl ?_
    refine g_ald0 (pc' := 34) dX9_undo_33 rfl ?_
    refine g_getR (pc' := 37) mg.s40 (by decide) fX9_16 mg.r40_2 dX9_undo_34 rfl ?_
    refine g_ald0 (pc' := 38) dX9_undo_37 rfl ?_
    refine g_getI (pc' := 41) mg.s40 (by decide) fX9_92 (v := nI t) (by simp [upM]) dX9_undo_38 rfl ?_
    refine g_iald (pc' := 42) (j := t) mg.s52 rfl (by omega) (by decide) (v := I (52, 0) t) (by rw [upM_n _ (by simp)]) dX9_undo_41 rfl ?_
    refine g_iast (pc' := 43) (j := q) mg.s50 rfl (by omega) (by decide) dX9_undo_42 rfl ?_
    refine g_ald0 (pc' := 44) dX9_undo_43 rfl ?_
    refine g_getI (pc' := 47) mg.s40 (by decide) fX9_92 (v := nI t) (by rw [upM_n _ (by simp), upM_s]) dX9_undo_44 rfl ?_
    refine g_iret rfl dX9_undo_47 ?_
    exact eI ⟨rfl, rfl⟩
  · exact absurd h4 (by omega)

theorem c_mRedoE (l : Launch) {S : Shp} {I : MI} {L : ML} {R : MR} (mg : MG S R) {t z : Nat} (hd : I (40, 0) 5 = nI t) (hz : I (40, 0) 4 = nI z) (hz4 : z ≤ 40) (he : t = z) : Ct l mX9_redo 1 0 0 [.inr (.inr (some (40, 0)))] S I L R (PIp S I L R (-5)) := by
  refine Ct.of [some (.inr (.inr (some (40, 0))))] (by decide) rfl (Nat.le_of_ble_eq_true rfl) ?_
  refine g_ald0 (pc' := 1) dX9_redo_0 rfl ?_
  refine g_getI (pc' := 4) mg.s40 (by decide) fX9_92 hd dX9_redo_1 rfl ?_
  refine g_ald0 (pc' := 5) dX9_redo_4 rfl ?_
  refine g_getI (pc' := 8) mg.s40 (by decide) fX9_96 hz dX9_redo_5 rfl ?_
  refine g_icmpneN (pc' := 11) (by omega) (by omega) (tgt := 14) dX9_redo_8 (by decide) rfl (fun h8 => ?_) (fun h8 => ?_)
  · exact absurd h8 (by omega)
  · refine g_bipush (pc' := 13) (v := (-5)) dX9_redo_11 rfl (by decide) ?_
    refine g_iret rfl dX9_redo_13 ?_
    exact eIp rfl

theorem c_mRedoS (l : Launch) {S : Shp} {I : MI} {L : ML} {R : MR} (mg : MG S R) {t z : Nat} (hd : I (40, 0) 5 = nI t) (hz : I (40, 0) 4 = nI z) (hz4 : z ≤ 40) (hlt : t < z) {q : Nat} (hat : I (51, 0) t = nI q) (hq : q < 155) : Ct l mX9_redo 1 0 0 [.inr (.inr (some (40, 0)))] S I L R (PIm S L R (fun v J => v = nI (z - (t + 1)) ∧ J = upM (upM I (50, 0) q (I (53, 0) t)) (40, 0) 5 (nI (t + 1)))) := by
  refine Ct.of [some (.inr (.inr (some (40, 0))))] (by decide) rfl (Nat.le_of_ble_eq_true rfl) ?_
  refine g_ald0 (pc' := 1) dX9_redo_0 rfl ?_
  refine g_getI (pc' := 4) mg.s40 (by decide) fX9_92 hd dX9_redo_1 rfl ?_
  refine g_ald0 (pc' := 5) dX9_redo_4 rfl ?_
  refine g_getI (pc' := 8) mg.s40 (by decide) fX9_96 hz dX9_redo_5 rfl ?_
  refine g_icmpneN (pc' := 11) (by omega) (by omega) (tgt := 14) dX9_redo_8 (by decide) rfl (fun h8 => ?_) (fun h8 => ?_)
  · refine g_ald0 (pc' := 15) dX9_redo_14 rfl ?_
    refine g_getR (pc' := 18) mg.s40 (by decide) fX9_9 mg.r40_0 dX9_redo_15 rfl ?_
    refine g_ald0 (pc' := 19) dX9_redo_18 rfl ?_
    refine g_getR (pc' := 22) mg.s40 (by decide) fX9_13 mg.r40_1 dX9_redo_19 rfl ?_
    refine g_ald0 (pc' := 23) dX9_redo_22 rfl ?_
    refine g_getI (pc' := 26) mg.s40 (by decide) fX9_92 hd dX9_redo_23 rfl ?_
    refine g_iald (pc' := 27) (j := t) mg.s51 rfl (by omega) (by decide) (v := nI q) (hat) dX9_redo_26 rfl ?_
    refine g_ald0 (pc' := 28) dX9_redo_27 rfl ?_
    refine g_getR (pc' := 31) mg.s40 (by decide) fX9_19 mg.r40_3 dX9_redo_28 rfl ?_
    refine g_ald0 (pc' := 32) dX9_redo_31 rfl ?_
    refine g_getI (pc' := 35) mg.s40 (by decide) fX9_92 hd dX9_redo_32 rfl ?_
    refine g_iald (pc' := 36) (j := t) mg.s53 rfl (by omega) (by decide) (v := I (53, 0) t) (rfl) dX9_redo_35 rfl ?_
    refine g_iast (pc' := 37) (j := q) mg.s50 rfl (by omega) (by decide) dX9_redo_36 rfl ?_
    refine g_ald0 (pc' := 38) dX9_redo_37 rfl ?_
    refine g_dupR (pc' := 39) dX9_redo_38 rfl ?_
    refine g_getI (pc' := 42) mg.s40 (by decide) fX9_92 (v := nI t) (by rw [upM_n _ (by simp)]; exact hd) dX9_redo_39 rfl ?_
    refine g_iconst (pc' := 43) (v := nI 1) dX9_redo_42 rfl (by decide) ?_
    refine g_iaddN (pc' := 44) dX9_redo_43 rfl ?_
    refine g_putI (pc' := 47) mg.s40 (by decide) ⟨fX9_92, rfl, pI⟩ dX9_redo_44 rfl ?_
    refine g_ald0 (pc' := 48) dX9_redo_47 rfl ?_
    refine g_getI (pc' := 51) mg.s40 (by decide) fX9_96 (v := nI z) (by rw [upM_k _ _ (by decide), upM_n _ (by simp)]; exact hz) dX9_redo_48 rfl ?_
    refine g_ald0 (pc' := 52) dX9_redo_51 rfl ?_
    refine g_getI (pc' := 55) mg.s40 (by decide) fX9_92 (v := nI (t + 1)) (by rw [upM_s]) dX9_redo_52 rfl ?_
    refine g_isubN (pc' := 56) (by omega) dX9_redo_55 rfl ?_
    refine g_iret rfl dX9_redo_56 ?_
    exact eI ⟨rfl, rfl⟩
  · exact absurd h8 (by omega)

theorem c_mSongB (l : Launch) {S : Shp} {I : MI} {L : ML} {R : MR} (mg : MG S R) {x : Int32} (hb : x < nI 0 ∨ nI 999 < x) : Ct l mX9_song 2 0 0 [.inr (.inr (some (40, 0))), .inl x] S I L R (PIp S I L R (-1)) := by
  refine Ct.of [some (.inr (.inr (some (40, 0)))), some (.inl x)] (by decide) rfl (Nat.le_of_ble_eq_true rfl) ?_
  refine g_ild1 (pc' := 1) dX9_song_0 rfl ?_
  refine g_i2l (pc' := 2) dX9_song_1 rfl ?_
  refine g_lconst (pc' := 3) (v := 0) dX9_song_2 rfl (by decide) ?_
  refine g_ldc2 (pc' := 6) dX9_song_3 rfl kX9_109 ?_
  refine g_callS (pc' := 9) (c_mWI l x (nI 0) (nI 999) (A := 0) (B := 999) (by decide) (by decide)) wX9_within lX9_102 rfl rfl (Nat.le_of_ble_eq_true rfl) ⟨Nat.le_of_ble_eq_true rfl, Nat.le_of_ble_eq_true rfl⟩ ⟨Nat.le_of_ble_eq_true rfl, Nat.le_of_ble_eq_true rfl⟩ dX9_song_6 rfl (kIp ?_)
  refine g_ifneB (pc' := 12) (tgt := 14) dX9_song_9 (by decide) rfl (fun h9 => (by first | exact absurd h9 (wi_no hb) | exact absurd (wi_no hb) h9)) (fun h9 => ?_)
  refine g_iconst (pc' := 13) (v := (-1)) dX9_song_12 rfl (by decide) ?_
  refine g_iret rfl dX9_song_13 ?_
  exact eIp rfl

theorem c_mSongF (l : Launch) {S : Shp} {I : MI} {L : ML} {R : MR} (mg : MG S R) {n : Nat} (hn : I (40, 0) 6 = nI n) (hN : n ≤ 12) {x : Int32} (hlo : ¬ x < nI 0) (hhi : ¬ nI 999 < x) (hf : n = 12) : Ct l mX9_song 2 0 0 [.inr (.inr (some (40, 0))), .inl x] S I L R (PIp S I L R (-3)) := by
  refine Ct.of [some (.inr (.inr (some (40, 0)))), some (.inl x)] (by decide) rfl (Nat.le_of_ble_eq_true rfl) ?_
  refine g_ild1 (pc' := 1) dX9_song_0 rfl ?_
  refine g_i2l (pc' := 2) dX9_song_1 rfl ?_
  refine g_lconst (pc' := 3) (v := 0) dX9_song_2 rfl (by decide) ?_
  refine g_ldc2 (pc' := 6) dX9_song_3 rfl kX9_109 ?_
  refine g_callS (pc' := 9) (c_mWI l x (nI 0) (nI 999) (A := 0) (B := 999) (by decide) (by decide)) wX9_within lX9_102 rfl rfl (Nat.le_of_ble_eq_true rfl) ⟨Nat.le_of_ble_eq_true rfl, Nat.le_of_ble_eq_true rfl⟩ ⟨Nat.le_of_ble_eq_true rfl, Nat.le_of_ble_eq_true rfl⟩ dX9_song_6 rfl (kIp ?_)
  refine g_ifneB (pc' := 12) (tgt := 14) dX9_song_9 (by decide) rfl (fun h9 => ?_) (fun h9 => (by first | exact absurd h9 (wi_yes hlo hhi) | exact absurd (wi_yes hlo hhi) h9))
  refine g_ald0 (pc' := 15) dX9_song_14 rfl ?_
  refine g_getI (pc' := 18) mg.s40 (by decide) fX9_99 hn dX9_song_15 rfl ?_
  refine g_bipush (pc' := 20) (v := nI 12) dX9_song_18 rfl (by decide) ?_
  refine g_icmpneN (pc' := 23) (by omega) (by omega) (tgt := 26) dX9_song_20 (by decide) rfl (fun h20 => ?_) (fun h20 => ?_)
  · exact absurd h20 (by omega)
  · refine g_bipush (pc' := 25) (v := (-3)) dX9_song_23 rfl (by decide) ?_
    refine g_iret rfl dX9_song_25 ?_
    exact eIp rfl

theorem c_mSongS (l : Launch) {S : Shp} {I : MI} {L : ML} {R : MR} (mg : MG S R) {n : Nat} (hn : I (40, 0) 6 = nI n) (hN : n ≤ 12) {x : Int32} (hlo : ¬ x < nI 0) (hhi : ¬ nI 999 < x) (hf : n < 12) : Ct l mX9_song 2 0 0 [.inr (.inr (some (40, 0))), .inl x] S I L R (PIm S L R (fun v J => v = nI n ∧ J = upM (upM I (50, 0) n x) (40, 0) 6 (nI (n + 1)))) := by
  refine Ct.of [some (.inr (.inr (some (40, 0)))), some (.inl x)] (by decide) rfl (Nat.le_of_ble_eq_true rfl) ?_
  refine g_ild1 (pc' := 1) dX9_song_0 rfl ?_
  refine g_i2l (pc' := 2) dX9_song_1 rfl ?_
  refine g_lconst (pc' := 3) (v := 0) dX9_song_2 rfl (by decide) ?_
  refine g_ldc2 (pc' := 6) dX9_song_3 rfl kX9_109 ?_
  refine g_callS (pc' := 9) (c_mWI l x (nI 0) (nI 999) (A := 0) (B := 999) (by decide) (by decide)) wX9_within lX9_102 rfl rfl (Nat.le_of_ble_eq_true rfl) ⟨Nat.le_of_ble_eq_true rfl, Nat.le_of_ble_eq_true rfl⟩ ⟨Nat.le_of_ble_eq_true rfl, Nat.le_of_ble_eq_true rfl⟩ dX9_song_6 rfl (kIp ?_)
  refine g_ifneB (pc' := 12) (tgt := 14) dX9_song_9 (by decide) rfl (fun h9 => ?_) (fun h9 => (by first | exact absurd h9 (wi_yes hlo hhi) | exact absurd (wi_yes hlo hhi) h9))
  refine g_ald0 (pc' := 15) dX9_song_14 rfl ?_
  refine g_getI (pc' := 18) mg.s40 (by decide) fX9_99 hn dX9_song_15 rfl ?_
  refine g_bipush (pc' := 20) (v := nI 12) dX9_song_18 rfl (by decide) ?_
  refine g_icmpneN (pc' := 23) (by omega) (by omega) (tgt := 26) dX9_song_20 (by decide) rfl (fun h20 => ?_) (fun h20 => ?_)
  · refine g_ald0 (pc' := 27) dX9_song_26 rfl ?_
    refine g_getR (pc' := 30) mg.s40 (by decide) fX9_9 mg.r40_0 dX9_song_27 rfl ?_
    refine g_ald0 (pc' := 31) dX9_song_30 rfl ?_
    refine g_getI (pc' := 34) mg.s40 (by decide) fX9_99 hn dX9_song_31 rfl ?_
    refine g_ild1 (pc' := 35) dX9_song_34 rfl ?_
    refine g_iast (pc' := 36) (j := n) mg.s50 rfl (by omega) (by decide) dX9_song_35 rfl ?_
    refine g_ald0 (pc' := 37) dX9_song_36 rfl ?_
    refine g_dupR (pc' := 38) dX9_song_37 rfl ?_
    refine g_getI (pc' := 41) mg.s40 (by decide) fX9_99 (v := nI n) (by simp [upM, hn]) dX9_song_38 rfl ?_
    refine g_iconst (pc' := 42) (v := nI 1) dX9_song_41 rfl (by decide) ?_
    refine g_iaddN (pc' := 43) dX9_song_42 rfl ?_
    refine g_putI (pc' := 46) mg.s40 (by decide) ⟨fX9_99, rfl, pI⟩ dX9_song_43 rfl ?_
    refine g_ald0 (pc' := 47) dX9_song_46 rfl ?_
    refine g_getI (pc' := 50) mg.s40 (by decide) fX9_99 (v := nI (n + 1)) (by simp [upM]) dX9_song_47 rfl ?_
    refine g_iconst (pc' := 51) (v := nI 1) dX9_song_50 rfl (by decide) ?_
    refine g_isub (pc' := 52) dX9_song_51 rfl ?_
    refine g_topi (v := nI n) (pk_sub (by omega)) ?_
    refine g_iret rfl dX9_song_52 ?_
    exact eI ⟨rfl, rfl⟩
  · exact absurd h20 (by omega)

theorem c_mWorthN (l : Launch) {S : Shp} {I : MI} {L : ML} {R : MR} (mg : MG S R) {n : Nat} (hn : I (40, 0) 6 = nI n) (hN : n ≤ 12) {x v : Int32} (hb : inb x n = false ∨ v < nI 0 ∨ nI 999 < v) : Ct l mX9_worth 3 0 0 [.inr (.inr (some (40, 0))), .inl x, .inl v] S I L R (PIp S I L R (-1)) := by
  refine Ct.of [some (.inr (.inr (some (40, 0)))), some (.inl x), some (.inl v)] (by decide) rfl (Nat.le_of_ble_eq_true rfl) ?_
  refine g_ald0 (pc' := 1) dX9_worth_0 rfl ?_
  refine g_ild1 (pc' := 2) dX9_worth_1 rfl ?_
  refine g_callV (pc' := 5) (c_misSong l mg hn hN x) mg.s40 (by decide) wX9_isSong lX9_111 rfl rfl (Nat.le_of_ble_eq_true rfl) ⟨Nat.le_of_ble_eq_true rfl, Nat.le_of_ble_eq_true rfl⟩ ⟨Nat.le_of_ble_eq_true rfl, Nat.le_of_ble_eq_true rfl⟩ dX9_worth_2 rfl (kIp ?_)
  refine g_ifeqB (pc' := 8) (tgt := 29) dX9_worth_5 (by decide) rfl (fun h5 => ?_) (fun h5 => ?_)
  · refine g_iconst (pc' := 30) (v := (-1)) dX9_worth_29 rfl (by decide) ?_
    refine g_iret rfl dX9_worth_30 ?_
    exact eIp rfl
  · refine g_ild2 (pc' := 9) dX9_worth_8 rfl ?_
    refine g_i2l (pc' := 10) dX9_worth_9 rfl ?_
    refine g_lconst (pc' := 11) (v := 0) dX9_worth_10 rfl (by decide) ?_
    refine g_ldc2 (pc' := 14) dX9_worth_11 rfl kX9_109 ?_
    refine g_callS (pc' := 17) (c_mWI l v (nI 0) (nI 999) (A := 0) (B := 999) (by decide) (by decide)) wX9_within lX9_102 rfl rfl (Nat.le_of_ble_eq_true rfl) ⟨Nat.le_of_ble_eq_true rfl, Nat.le_of_ble_eq_true rfl⟩ ⟨Nat.le_of_ble_eq_true rfl, Nat.le_of_ble_eq_true rfl⟩ dX9_worth_14 rfl (kIp ?_)
    refine g_ifeqB (pc' := 20) (tgt := 29) dX9_worth_17 (by decide) rfl (fun h17 => ?_) (fun h17 => ?_)
    · refine g_iconst (pc' := 30) (v := (-1)) dX9_worth_29 rfl (by decide) ?_
      refine g_iret rfl dX9_worth_30 ?_
      exact eIp rfl
    · exfalso
      rcases hb with h | h
      · rw [h] at h5; cases h5
      · exact wi_no h h17

theorem c_mWorthS (l : Launch) {S : Shp} {I : MI} {L : ML} {R : MR} (mg : MG S R) {n : Nat} (hn : I (40, 0) 6 = nI n) (hN : n ≤ 12) {d : Nat} (hd : I (40, 0) 5 = nI d) (hd40 : d ≤ 40) {s : Nat} (hs : s < n) {x v : Int32} (hx : I (50, 0) s = x) (hlo : ¬ v < nI 0) (hhi : ¬ nI 999 < v) : Ct l mX9_worth 3 0 0 [.inr (.inr (some (40, 0))), .inl (nI s), .inl v] S I L R (PIm S L R (fun r J => r = x ∧ J = bcmI I d s x v)) := by
  refine Ct.of [some (.inr (.inr (some (40, 0)))), some (.inl (nI s)), some (.inl v)] (by decide) rfl (Nat.le_of_ble_eq_true rfl) ?_
  refine g_ald0 (pc' := 1) dX9_worth_0 rfl ?_
  refine g_ild1 (pc' := 2) dX9_worth_1 rfl ?_
  refine g_callV (pc' := 5) (c_misSong l mg hn hN (nI s)) mg.s40 (by decide) wX9_isSong lX9_111 rfl rfl (Nat.le_of_ble_eq_true rfl) ⟨Nat.le_of_ble_eq_true rfl, Nat.le_of_ble_eq_true rfl⟩ ⟨Nat.le_of_ble_eq_true rfl, Nat.le_of_ble_eq_true rfl⟩ dX9_worth_2 rfl (kIp ?_)
  refine g_ifeqB (pc' := 8) (tgt := 29) dX9_worth_5 (by decide) rfl (fun h5 => (by first | exact absurd h5 (by rw [inb_nI (by omega) (by omega)]; simp [hs]) | exact absurd (by rw [inb_nI (by omega) (by omega)]; simp [hs]) h5)) (fun h5 => ?_)
  refine g_ild2 (pc' := 9) dX9_worth_8 rfl ?_
  refine g_i2l (pc' := 10) dX9_worth_9 rfl ?_
  refine g_lconst (pc' := 11) (v := 0) dX9_worth_10 rfl (by decide) ?_
  refine g_ldc2 (pc' := 14) dX9_worth_11 rfl kX9_109 ?_
  refine g_callS (pc' := 17) (c_mWI l v (nI 0) (nI 999) (A := 0) (B := 999) (by decide) (by decide)) wX9_within lX9_102 rfl rfl (Nat.le_of_ble_eq_true rfl) ⟨Nat.le_of_ble_eq_true rfl, Nat.le_of_ble_eq_true rfl⟩ ⟨Nat.le_of_ble_eq_true rfl, Nat.le_of_ble_eq_true rfl⟩ dX9_worth_14 rfl (kIp ?_)
  refine g_ifeqB (pc' := 20) (tgt := 29) dX9_worth_17 (by decide) rfl (fun h17 => (by first | exact absurd h17 (wi_yes hlo hhi) | exact absurd (wi_yes hlo hhi) h17)) (fun h17 => ?_)
  refine g_ald0 (pc' := 21) dX9_worth_20 rfl ?_
  refine g_ild1 (pc' := 22) dX9_worth_21 rfl ?_
  refine g_ild2 (pc' := 23) dX9_worth_22 rfl ?_
  refine g_callV (pc' := 26) (c_mBec l mg (q := s) (by omega) hx hd hd40 v) mg.s40 (by decide) wX9_becomes lX9_115 rfl rfl (Nat.le_of_ble_eq_true rfl) ⟨Nat.le_of_ble_eq_true rfl, Nat.le_of_ble_eq_true rfl⟩ ⟨Nat.le_of_ble_eq_true rfl, Nat.le_of_ble_eq_true rfl⟩ dX9_worth_23 rfl (kI (fun r J hq => ?_))
  refine g_goto (tgt := 30) dX9_worth_26 (by decide) ?_
  refine g_iret rfl dX9_worth_30 ?_
  exact eI hq

theorem c_mNothingN (l : Launch) {S : Shp} {I : MI} {L : ML} {R : MR} (mg : MG S R) {m : Nat} (hm : I (40, 0) 18 = nI m) (hM : m ≤ 9) {x v : Int32} (hb : inb x m = false ∨ v < nI 0 ∨ nI 9999 < v) : Ct l mX9_nothing 3 0 0 [.inr (.inr (some (40, 0))), .inl x, .inl v] S I L R (PIp S I L R (-1)) := by
  refine Ct.of [some (.inr (.inr (some (40, 0)))), some (.inl x), some (.inl v)] (by decide) rfl (Nat.le_of_ble_eq_true rfl) ?_
  refine g_ald0 (pc' := 1) dX9_nothing_0 rfl ?_
  refine g_ild1 (pc' := 2) dX9_nothing_1 rfl ?_
  refine g_callV (pc' := 5) (c_misWorld l mg hm hM x) mg.s40 (by decide) wX9_isWorld lX9_186 rfl rfl (Nat.le_of_ble_eq_true rfl) ⟨Nat.le_of_ble_eq_true rfl, Nat.le_of_ble_eq_true rfl⟩ ⟨Nat.le_of_ble_eq_true rfl, Nat.le_of_ble_eq_true rfl⟩ dX9_nothing_2 rfl (kIp ?_)
  refine g_ifeqB (pc' := 8) (tgt := 32) dX9_nothing_5 (by decide) rfl (fun h5 => ?_) (fun h5 => ?_)
  · refine g_iconst (pc' := 33) (v := (-1)) dX9_nothing_32 rfl (by decide) ?_
    refine g_iret rfl dX9_nothing_33 ?_
    exact eIp rfl
  · refine g_ild2 (pc' := 9) dX9_nothing_8 rfl ?_
    refine g_i2l (pc' := 10) dX9_nothing_9 rfl ?_
    refine g_lconst (pc' := 11) (v := 0) dX9_nothing_10 rfl (by decide) ?_
    refine g_ldc2 (pc' := 14) dX9_nothing_11 rfl kX9_189 ?_
    refine g_callS (pc' := 17) (c_mWI l v (nI 0) (nI 9999) (A := 0) (B := 9999) (by decide) (by decide)) wX9_within lX9_102 rfl rfl (Nat.le_of_ble_eq_true rfl) ⟨Nat.le_of_ble_eq_true rfl, Nat.le_of_ble_eq_true rfl⟩ ⟨Nat.le_of_ble_eq_true rfl, Nat.le_of_ble_eq_true rfl⟩ dX9_nothing_14 rfl (kIp ?_)
    refine g_ifeqB (pc' := 20) (tgt := 32) dX9_nothing_17 (by decide) rfl (fun h17 => ?_) (fun h17 => ?_)
    · refine g_iconst (pc' := 33) (v := (-1)) dX9_nothing_32 rfl (by decide) ?_
      refine g_iret rfl dX9_nothing_33 ?_
      exact eIp rfl
    · exfalso
      rcases hb with h | h
      · rw [h] at h5; cases h5
      · exact wi_no h h17

theorem c_mNothingS (l : Launch) {S : Shp} {I : MI} {L : ML} {R : MR} (mg : MG S R) {m : Nat} (hm : I (40, 0) 18 = nI m) (hM : m ≤ 9) {w : Nat} (hwm : w < m) {d : Nat} (hd : I (40, 0) 5 = nI d) (hd40 : d ≤ 40) {x v : Int32} (hx : I (50, 0) (12 + w) = x) (hlo : ¬ v < nI 0) (hhi : ¬ nI 9999 < v) : Ct l mX9_nothing 3 0 0 [.inr (.inr (some (40, 0))), .inl (nI w), .inl v] S I L R (PIm S L R (fun r J => r = x ∧ J = bcmI I d (12 + w) x v)) := by
  refine Ct.of [some (.inr (.inr (some (40, 0)))), some (.inl (nI w)), some (.inl v)] (by decide) rfl (Nat.le_of_ble_eq_true rfl) ?_
  refine g_ald0 (pc' := 1) dX9_nothing_0 rfl ?_
  refine g_ild1 (pc' := 2) dX9_nothing_1 rfl ?_
  refine g_callV (pc' := 5) (c_misWorld l mg hm hM (nI w)) mg.s40 (by decide) wX9_isWorld lX9_186 rfl rfl (Nat.le_of_ble_eq_true rfl) ⟨Nat.le_of_ble_eq_true rfl, Nat.le_of_ble_eq_true rfl⟩ ⟨Nat.le_of_ble_eq_true rfl, Nat.le_of_ble_eq_true rfl⟩ dX9_nothing_2 rfl (kIp ?_)
  refine g_ifeqB (pc' := 8) (tgt := 32) dX9_nothing_5 (by decide) rfl (fun h5 => (by first | exact absurd h5 (by rw [inb_nI (by omega) (by omega)]; simp [hwm]) | exact absurd (by rw [inb_nI (by omega) (by omega)]; simp [hwm]) h5)) (fun h5 => ?_)
  refine g_ild2 (pc' := 9) dX9_nothing_8 rfl ?_
  refine g_i2l (pc' := 10) dX9_nothing_9 rfl ?_
  refine g_lconst (pc' := 11) (v := 0) dX9_nothing_10 rfl (by decide) ?_
  refine g_ldc2 (pc' := 14) dX9_nothing_11 rfl kX9_189 ?_
  refine g_callS (pc' := 17) (c_mWI l v (nI 0) (nI 9999) (A := 0) (B := 9999) (by decide) (by decide)) wX9_within lX9_102 rfl rfl (Nat.le_of_ble_eq_true rfl) ⟨Nat.le_of_ble_eq_true rfl, Nat.le_of_ble_eq_true rfl⟩ ⟨Nat.le_of_ble_eq_true rfl, Nat.le_of_ble_eq_true rfl⟩ dX9_nothing_14 rfl (kIp ?_)
  refine g_ifeqB (pc' := 20) (tgt := 32) dX9_nothing_17 (by decide) rfl (fun h17 => (by first | exact absurd h17 (wi_yes hlo hhi) | exact absurd (wi_yes hlo hhi) h17)) (fun h17 => ?_)
  refine g_ald0 (pc' := 21) dX9_nothing_20 rfl ?_
  refine g_bipush (pc' := 23) (v := nI 12) dX9_nothing_21 rfl (by decide) ?_
  refine g_ild1 (pc' := 24) dX9_nothing_23 rfl ?_
  refine g_iaddN (pc' := 25) dX9_nothing_24 rfl ?_
  refine g_ild2 (pc' := 26) dX9_nothing_25 rfl ?_
  refine g_callV (pc' := 29) (c_mBec l mg (q := 12 + w) (by omega) hx hd hd40 v) mg.s40 (by decide) wX9_becomes lX9_115 rfl rfl (Nat.le_of_ble_eq_true rfl) ⟨Nat.le_of_ble_eq_true rfl, Nat.le_of_ble_eq_true rfl⟩ ⟨Nat.le_of_ble_eq_true rfl, Nat.le_of_ble_eq_true rfl⟩ dX9_nothing_26 rfl (kI (fun r J hq => ?_))
  refine g_goto (tgt := 33) dX9_nothing_29 (by decide) ?_
  refine g_iret rfl dX9_nothing_33 ?_
  exact eI hq

theorem c_mShopN (l : Launch) {S : Shp} {I : MI} {L : ML} {R : MR} (mg : MG S R) {m : Nat} (hm : I (40, 0) 18 = nI m) (hM : m ≤ 9) {x v : Int32} (hb : inb x m = false ∨ v < nI 0 ∨ nI 9 < v) : Ct l mX9_shop 3 0 0 [.inr (.inr (some (40, 0))), .inl x, .inl v] S I L R (PIp S I L R (-1)) := by
  refine Ct.of [some (.inr (.inr (some (40, 0)))), some (.inl x), some (.inl v), none] (by decide) rfl (Nat.le_of_ble_eq_true rfl) ?_
  refine g_ald0 (pc' := 1) dX9_shop_0 rfl ?_
  refine g_ild1 (pc' := 2) dX9_shop_1 rfl ?_
  refine g_callV (pc' := 5) (c_misWorld l mg hm hM x) mg.s40 (by decide) wX9_isWorld lX9_186 rfl rfl (Nat.le_of_ble_eq_true rfl) ⟨Nat.le_of_ble_eq_true rfl, Nat.le_of_ble_eq_true rfl⟩ ⟨Nat.le_of_ble_eq_true rfl, Nat.le_of_ble_eq_true rfl⟩ dX9_shop_2 rfl (kIp ?_)
  refine g_ifeqB (pc' := 8) (tgt := 20) dX9_shop_5 (by decide) rfl (fun h5 => ?_) (fun h5 => ?_)
  · refine g_iconst (pc' := 21) (v := (-1)) dX9_shop_20 rfl (by decide) ?_
    refine g_iret rfl dX9_shop_21 ?_
    exact eIp rfl
  · refine g_ild2 (pc' := 9) dX9_shop_8 rfl ?_
    refine g_i2l (pc' := 10) dX9_shop_9 rfl ?_
    refine g_lconst (pc' := 11) (v := 0) dX9_shop_10 rfl (by decide) ?_
    refine g_ldc2 (pc' := 14) dX9_shop_11 rfl kX9_284 ?_
    refine g_callS (pc' := 17) (c_mWI l v (nI 0) (nI 9) (A := 0) (B := 9) (by decide) (by decide)) wX9_within lX9_102 rfl rfl (Nat.le_of_ble_eq_true rfl) ⟨Nat.le_of_ble_eq_true rfl, Nat.le_of_ble_eq_true rfl⟩ ⟨Nat.le_of_ble_eq_true rfl, Nat.le_of_ble_eq_true rfl⟩ dX9_shop_14 rfl (kIp ?_)
    refine g_ifneB (pc' := 20) (tgt := 22) dX9_shop_17 (by decide) rfl (fun h17 => ?_) (fun h17 => ?_)
    · exfalso
      rcases hb with h | h
      · rw [h] at h5; cases h5
      · exact wi_no h h17
    · refine g_iconst (pc' := 21) (v := (-1)) dX9_shop_20 rfl (by decide) ?_
      refine g_iret rfl dX9_shop_21 ?_
      exact eIp rfl

theorem c_mShopS (l : Launch) {S : Shp} {I : MI} {L : ML} {R : MR} (mg : MG S R) {m : Nat} (hm : I (40, 0) 18 = nI m) (hM : m ≤ 9) {w : Nat} (hwm : w < m) {x v : Int32} (hx : I (82, 0) w = x) (hlo : ¬ v < nI 0) (hhi : ¬ nI 9 < v) : Ct l mX9_shop 3 0 0 [.inr (.inr (some (40, 0))), .inl (nI w), .inl v] S I L R (PIm S L R (fun r J => r = x ∧ J = upM I (82, 0) w v)) := by
  refine Ct.of [some (.inr (.inr (some (40, 0)))), some (.inl (nI w)), some (.inl v), none] (by decide) rfl (Nat.le_of_ble_eq_true rfl) ?_
  refine g_ald0 (pc' := 1) dX9_shop_0 rfl ?_
  refine g_ild1 (pc' := 2) dX9_shop_1 rfl ?_
  refine g_callV (pc' := 5) (c_misWorld l mg hm hM (nI w)) mg.s40 (by decide) wX9_isWorld lX9_186 rfl rfl (Nat.le_of_ble_eq_true rfl) ⟨Nat.le_of_ble_eq_true rfl, Nat.le_of_ble_eq_true rfl⟩ ⟨Nat.le_of_ble_eq_true rfl, Nat.le_of_ble_eq_true rfl⟩ dX9_shop_2 rfl (kIp ?_)
  refine g_ifeqB (pc' := 8) (tgt := 20) dX9_shop_5 (by decide) rfl (fun h5 => (by first | exact absurd h5 (by rw [inb_nI (by omega) (by omega)]; simp [hwm]) | exact absurd (by rw [inb_nI (by omega) (by omega)]; simp [hwm]) h5)) (fun h5 => ?_)
  refine g_ild2 (pc' := 9) dX9_shop_8 rfl ?_
  refine g_i2l (pc' := 10) dX9_shop_9 rfl ?_
  refine g_lconst (pc' := 11) (v := 0) dX9_shop_10 rfl (by decide) ?_
  refine g_ldc2 (pc' := 14) dX9_shop_11 rfl kX9_284 ?_
  refine g_callS (pc' := 17) (c_mWI l v (nI 0) (nI 9) (A := 0) (B := 9) (by decide) (by decide)) wX9_within lX9_102 rfl rfl (Nat.le_of_ble_eq_true rfl) ⟨Nat.le_of_ble_eq_true rfl, Nat.le_of_ble_eq_true rfl⟩ ⟨Nat.le_of_ble_eq_true rfl, Nat.le_of_ble_eq_true rfl⟩ dX9_shop_14 rfl (kIp ?_)
  refine g_ifneB (pc' := 20) (tgt := 22) dX9_shop_17 (by decide) rfl (fun h17 => ?_) (fun h17 => (by first | exact absurd h17 (wi_yes hlo hhi) | exact absurd (wi_yes hlo hhi) h17))
  refine g_ald0 (pc' := 23) dX9_shop_22 rfl ?_
  refine g_getR (pc' := 26) mg.s40 (by decide) fX9_64 mg.r40_32 dX9_shop_23 rfl ?_
  refine g_ild1 (pc' := 27) dX9_shop_26 rfl ?_
  refine g_iald (pc' := 28) (j := w) mg.s82 rfl (by omega) (by decide) hx dX9_shop_27 rfl ?_
  refine g_ist3 (pc' := 29) rfl (by decide) dX9_shop_28 rfl ?_
  refine g_ald0 (pc' := 30) dX9_shop_29 rfl ?_
  refine g_getR (pc' := 33) mg.s40 (by decide) fX9_64 mg.r40_32 dX9_shop_30 rfl ?_
  refine g_ild1 (pc' := 34) dX9_shop_33 rfl ?_
  refine g_ild2 (pc' := 35) dX9_shop_34 rfl ?_
  refine g_iast (pc' := 36) (j := w) mg.s82 rfl (by omega) (by decide) dX9_shop_35 rfl ?_
  refine g_ild3 (pc' := 37) dX9_shop_36 rfl ?_
  refine g_iret rfl dX9_shop_37 ?_
  exact eI ⟨rfl, rfl⟩

theorem c_mCrateN (l : Launch) {S : Shp} {I : MI} {L : ML} {R : MR} (mg : MG S R) {n : Nat} (hn : I (40, 0) 6 = nI n) (hN : n ≤ 12) {m : Nat} (hm : I (40, 0) 18 = nI m) (hM : m ≤ 9) {x y z : Int32} (hb : inb x m = false ∨ inb y n = false ∨ z < nI 1 ∨ nI 9999 < z) : Ct l mX9_crate 3 0 0 [.inr (.inr (some (40, 0))), .inl x, .inl y, .inl z] S I L R (PIp S I L R (-1)) := by
  refine Ct.of [some (.inr (.inr (some (40, 0)))), some (.inl x), some (.inl y), some (.inl z), none, none] (by decide) rfl (Nat.le_of_ble_eq_true rfl) ?_
  refine g_ald0 (pc' := 1) dX9_crate_0 rfl ?_
  refine g_ild1 (pc' := 2) dX9_crate_1 rfl ?_
  refine g_callV (pc' := 5) (c_misWorld l mg hm hM x) mg.s40 (by decide) wX9_isWorld lX9_186 rfl rfl (Nat.le_of_ble_eq_true rfl) ⟨Nat.le_of_ble_eq_true rfl, Nat.le_of_ble_eq_true rfl⟩ ⟨Nat.le_of_ble_eq_true rfl, Nat.le_of_ble_eq_true rfl⟩ dX9_crate_2 rfl (kIp ?_)
  refine g_ifeqB (pc' := 8) (tgt := 28) dX9_crate_5 (by decide) rfl (fun h5 => ?_) (fun h5 => ?_)
  · refine g_iconst (pc' := 29) (v := (-1)) dX9_crate_28 rfl (by decide) ?_
    refine g_iret rfl dX9_crate_29 ?_
    exact eIp rfl
  · refine g_ald0 (pc' := 9) dX9_crate_8 rfl ?_
    refine g_ild2 (pc' := 10) dX9_crate_9 rfl ?_
    refine g_callV (pc' := 13) (c_misSong l mg hn hN y) mg.s40 (by decide) wX9_isSong lX9_111 rfl rfl (Nat.le_of_ble_eq_true rfl) ⟨Nat.le_of_ble_eq_true rfl, Nat.le_of_ble_eq_true rfl⟩ ⟨Nat.le_of_ble_eq_true rfl, Nat.le_of_ble_eq_true rfl⟩ dX9_crate_10 rfl (kIp ?_)
    refine g_ifeqB (pc' := 16) (tgt := 28) dX9_crate_13 (by decide) rfl (fun h13 => ?_) (fun h13 => ?_)
    · refine g_iconst (pc' := 29) (v := (-1)) dX9_crate_28 rfl (by decide) ?_
      refine g_iret rfl dX9_crate_29 ?_
      exact eIp rfl
    · refine g_ild3 (pc' := 17) dX9_crate_16 rfl ?_
      refine g_i2l (pc' := 18) dX9_crate_17 rfl ?_
      refine g_lconst (pc' := 19) (v := 1) dX9_crate_18 rfl (by decide) ?_
      refine g_ldc2 (pc' := 22) dX9_crate_19 rfl kX9_189 ?_
      refine g_callS (pc' := 25) (c_mWI l z (nI 1) (nI 9999) (A := 1) (B := 9999) (by decide) (by decide)) wX9_within lX9_102 rfl rfl (Nat.le_of_ble_eq_true rfl) ⟨Nat.le_of_ble_eq_true rfl, Nat.le_of_ble_eq_true rfl⟩ ⟨Nat.le_of_ble_eq_true rfl, Nat.le_of_ble_eq_true rfl⟩ dX9_crate_22 rfl (kIp ?_)
      refine g_ifneB (pc' := 28) (tgt := 30) dX9_crate_25 (by decide) rfl (fun h25 => ?_) (fun h25 => ?_)
      · exfalso
        rcases hb with h | h | h
        · rw [h] at h5; cases h5
        · rw [h] at h13; cases h13
        · exact wi_no h h25
      · refine g_iconst (pc' := 29) (v := (-1)) dX9_crate_28 rfl (by decide) ?_
        refine g_iret rfl dX9_crate_29 ?_
        exact eIp rfl

theorem c_mCrateS (l : Launch) {S : Shp} {I : MI} {L : ML} {R : MR} (mg : MG S R) {n : Nat} (hn : I (40, 0) 6 = nI n) (hN : n ≤ 12) {m : Nat} (hm : I (40, 0) 18 = nI m) (hM : m ≤ 9) {w : Nat} (hwm : w < m) {d : Nat} (hd : I (40, 0) 5 = nI d) (hd40 : d ≤ 40) {s : Nat} (hs : s < n) {x z : Int32} (hx : I (50, 0) (23 + 12 * w + s) = x) (hlo : ¬ z < nI 1) (hhi : ¬ nI 9999 < z) : Ct l mX9_crate 3 0 0 [.inr (.inr (some (40, 0))), .inl (nI w), .inl (nI s), .inl z] S I L R (PIm S L R (fun r J => r = minI (x + z) 99999 ∧ J = bcmI I d (23 + 12 * w + s) x (minI (x + z) 99999))) := by
  refine Ct.of [some (.inr (.inr (some (40, 0)))), some (.inl (nI w)), some (.inl (nI s)), some (.inl z), none, none] (by decide) rfl (Nat.le_of_ble_eq_true rfl) ?_
  refine g_ald0 (pc' := 1) dX9_crate_0 rfl ?_
  refine g_ild1 (pc' := 2) dX9_crate_1 rfl ?_
  refine g_callV (pc' := 5) (c_misWorld l mg hm hM (nI w)) mg.s40 (by decide) wX9_isWorld lX9_186 rfl rfl (Nat.le_of_ble_eq_true rfl) ⟨Nat.le_of_ble_eq_true rfl, Nat.le_of_ble_eq_true rfl⟩ ⟨Nat.le_of_ble_eq_true rfl, Nat.le_of_ble_eq_true rfl⟩ dX9_crate_2 rfl (kIp ?_)
  refine g_ifeqB (pc' := 8) (tgt := 28) dX9_crate_5 (by decide) rfl (fun h5 => (by first | exact absurd h5 (by rw [inb_nI (by omega) (by omega)]; simp [hwm]) | exact absurd (by rw [inb_nI (by omega) (by omega)]; simp [hwm]) h5)) (fun h5 => ?_)
  refine g_ald0 (pc' := 9) dX9_crate_8 rfl ?_
  refine g_ild2 (pc' := 10) dX9_crate_9 rfl ?_
  refine g_callV (pc' := 13) (c_misSong l mg hn hN (nI s)) mg.s40 (by decide) wX9_isSong lX9_111 rfl rfl (Nat.le_of_ble_eq_true rfl) ⟨Nat.le_of_ble_eq_true rfl, Nat.le_of_ble_eq_true rfl⟩ ⟨Nat.le_of_ble_eq_true rfl, Nat.le_of_ble_eq_true rfl⟩ dX9_crate_10 rfl (kIp ?_)
  refine g_ifeqB (pc' := 16) (tgt := 28) dX9_crate_13 (by decide) rfl (fun h13 => (by first | exact absurd h13 (by rw [inb_nI (by omega) (by omega)]; simp [hs]) | exact absurd (by rw [inb_nI (by omega) (by omega)]; simp [hs]) h13)) (fun h13 => ?_)
  refine g_ild3 (pc' := 17) dX9_crate_16 rfl ?_
  refine g_i2l (pc' := 18) dX9_crate_17 rfl ?_
  refine g_lconst (pc' := 19) (v := 1) dX9_crate_18 rfl (by decide) ?_
  refine g_ldc2 (pc' := 22) dX9_crate_19 rfl kX9_189 ?_
  refine g_callS (pc' := 25) (c_mWI l z (nI 1) (nI 9999) (A := 1) (B := 9999) (by decide) (by decide)) wX9_within lX9_102 rfl rfl (Nat.le_of_ble_eq_true rfl) ⟨Nat.le_of_ble_eq_true rfl, Nat.le_of_ble_eq_true rfl⟩ ⟨Nat.le_of_ble_eq_true rfl, Nat.le_of_ble_eq_true rfl⟩ dX9_crate_22 rfl (kIp ?_)
  refine g_ifneB (pc' := 28) (tgt := 30) dX9_crate_25 (by decide) rfl (fun h25 => ?_) (fun h25 => (by first | exact absurd h25 (wi_yes hlo hhi) | exact absurd (wi_yes hlo hhi) h25))
  refine g_ald0 (pc' := 31) dX9_crate_30 rfl ?_
  refine g_ild1 (pc' := 32) dX9_crate_31 rfl ?_
  refine g_ild2 (pc' := 33) dX9_crate_32 rfl ?_
  refine g_callV (pc' := 36) (c_mCount l mg (by omega) (by omega) hx) mg.s40 (by decide) wX9_countOf lX9_191 rfl rfl (Nat.le_of_ble_eq_true rfl) ⟨Nat.le_of_ble_eq_true rfl, Nat.le_of_ble_eq_true rfl⟩ ⟨Nat.le_of_ble_eq_true rfl, Nat.le_of_ble_eq_true rfl⟩ dX9_crate_33 rfl (kIp ?_)
  refine g_ild3 (pc' := 37) dX9_crate_36 rfl ?_
  refine g_iadd (pc' := 38) dX9_crate_37 rfl ?_
  refine g_ist4 (pc' := 40) rfl (by decide) dX9_crate_38 rfl ?_
  refine g_ald0 (pc' := 41) dX9_crate_40 rfl ?_
  refine g_bipush (pc' := 43) (v := nI 23) dX9_crate_41 rfl (by decide) ?_
  refine g_bipush (pc' := 45) (v := nI 12) dX9_crate_43 rfl (by decide) ?_
  refine g_ild1 (pc' := 46) dX9_crate_45 rfl ?_
  refine g_imulN (pc' := 47) dX9_crate_46 rfl ?_
  refine g_iaddN (pc' := 48) dX9_crate_47 rfl ?_
  refine g_ild2 (pc' := 49) dX9_crate_48 rfl ?_
  refine g_iaddN (pc' := 50) dX9_crate_49 rfl ?_
  refine g_ild4 (pc' := 52) dX9_crate_50 rfl ?_
  refine g_ldc (pc' := 54) dX9_crate_52 rfl kX9_222 ?_
  refine g_icmple (pc' := 57) (tgt := 62) dX9_crate_54 (by decide) rfl (fun h54 => ?_) (fun h54 => ?_)
  · refine g_ild4 (pc' := 64) dX9_crate_62 rfl ?_
    refine g_topi (v := minI (x + z) 99999) (by unfold minI; first | rw [if_pos (Int32.not_le.mp h54)] | rw [if_neg (Int32.not_lt.mpr h54)] | rw [if_pos h54] | rw [if_neg h54]) ?_
    refine g_callV (pc' := 67) (c_mBec l mg (q := 23 + 12 * w + s) (by omega) hx hd hd40 (minI (x + z) 99999)) mg.s40 (by decide) wX9_becomes lX9_115 rfl rfl (Nat.le_of_ble_eq_true rfl) ⟨Nat.le_of_ble_eq_true rfl, Nat.le_of_ble_eq_true rfl⟩ ⟨Nat.le_of_ble_eq_true rfl, Nat.le_of_ble_eq_true rfl⟩ dX9_crate_64 rfl (kI (fun r J hq => ?_))
    have hJx : J (50, 0) (23 + 12 * w + s) = minI (x + z) 99999 := by
      rw [hq.2]
      unfold bcmI bcP
      split
      · rename_i h; rw [hx]; exact h
      · split <;> exact upM_s _ _ _ _
    refine g_ist5 (pc' := 69) rfl (by decide) dX9_crate_67 rfl ?_
    refine g_ald0 (pc' := 70) dX9_crate_69 rfl ?_
    refine g_ild1 (pc' := 71) dX9_crate_70 rfl ?_
    refine g_ild2 (pc' := 72) dX9_crate_71 rfl ?_
    refine g_callV (pc' := 75) (c_mCount l mg (by omega) (by omega) hJx) mg.s40 (by decide) wX9_countOf lX9_191 rfl rfl (Nat.le_of_ble_eq_true rfl) ⟨Nat.le_of_ble_eq_true rfl, Nat.le_of_ble_eq_true rfl⟩ ⟨Nat.le_of_ble_eq_true rfl, Nat.le_of_ble_eq_true rfl⟩ dX9_crate_72 rfl (kIp ?_)
    refine g_iret rfl dX9_crate_75 ?_
    exact eI ⟨rfl, hq.2⟩
  · refine g_ldc (pc' := 59) dX9_crate_57 rfl kX9_222 ?_
    refine g_goto (tgt := 64) dX9_crate_59 (by decide) ?_
    refine g_topi (v := minI (x + z) 99999) (by unfold minI; first | rw [if_pos (Int32.not_le.mp h54)] | rw [if_neg (Int32.not_lt.mpr h54)] | rw [if_pos h54] | rw [if_neg h54]) ?_
    refine g_callV (pc' := 67) (c_mBec l mg (q := 23 + 12 * w + s) (by omega) hx hd hd40 (minI (x + z) 99999)) mg.s40 (by decide) wX9_becomes lX9_115 rfl rfl (Nat.le_of_ble_eq_true rfl) ⟨Nat.le_of_ble_eq_true rfl, Nat.le_of_ble_eq_true rfl⟩ ⟨Nat.le_of_ble_eq_true rfl, Nat.le_of_ble_eq_true rfl⟩ dX9_crate_64 rfl (kI (fun r J hq => ?_))
    have hJx : J (50, 0) (23 + 12 * w + s) = minI (x + z) 99999 := by
      rw [hq.2]
      unfold bcmI bcP
      split
      · rename_i h; rw [hx]; exact h
      · split <;> exact upM_s _ _ _ _
    refine g_ist5 (pc' := 69) rfl (by decide) dX9_crate_67 rfl ?_
    refine g_ald0 (pc' := 70) dX9_crate_69 rfl ?_
    refine g_ild1 (pc' := 71) dX9_crate_70 rfl ?_
    refine g_ild2 (pc' := 72) dX9_crate_71 rfl ?_
    refine g_callV (pc' := 75) (c_mCount l mg (by omega) (by omega) hJx) mg.s40 (by decide) wX9_countOf lX9_191 rfl rfl (Nat.le_of_ble_eq_true rfl) ⟨Nat.le_of_ble_eq_true rfl, Nat.le_of_ble_eq_true rfl⟩ ⟨Nat.le_of_ble_eq_true rfl, Nat.le_of_ble_eq_true rfl⟩ dX9_crate_72 rfl (kIp ?_)
    refine g_iret rfl dX9_crate_75 ?_
    exact eI ⟨rfl, hq.2⟩

theorem c_mLedN (l : Launch) {S : Shp} {I : MI} {L : ML} {R : MR} (mg : MG S R) {m : Nat} (hm : I (40, 0) 18 = nI m) (hM : m ≤ 9) {x : Int32} (hx : inb x m = false) (y : Int32) : Ct l mX9_led 3 0 0 [.inr (.inr (some (40, 0))), .inl x, .inl y] S I L R (PIp S I L R (-1)) := by
  refine Ct.of [some (.inr (.inr (some (40, 0)))), some (.inl x), some (.inl y)] (by decide) rfl (Nat.le_of_ble_eq_true rfl) ?_
  refine g_ald0 (pc' := 1) dX9_led_0 rfl ?_
  refine g_ild1 (pc' := 2) dX9_led_1 rfl ?_
  refine g_callV (pc' := 5) (c_misWorld l mg hm hM x) mg.s40 (by decide) wX9_isWorld lX9_186 rfl rfl (Nat.le_of_ble_eq_true rfl) ⟨Nat.le_of_ble_eq_true rfl, Nat.le_of_ble_eq_true rfl⟩ ⟨Nat.le_of_ble_eq_true rfl, Nat.le_of_ble_eq_true rfl⟩ dX9_led_2 rfl (kIp ?_)
  refine g_ifeqB (pc' := 8) (tgt := 44) dX9_led_5 (by decide) rfl (fun h5 => ?_) (fun h5 => (by first | exact absurd h5 (Bool.eq_false_iff.mp hx) | exact absurd (Bool.eq_false_iff.mp hx) h5))
  refine g_iconst (pc' := 45) (v := (-1)) dX9_led_44 rfl (by decide) ?_
  refine g_iret rfl dX9_led_45 ?_
  exact eIp rfl

theorem c_mLedM (l : Launch) {S : Shp} {I : MI} {L : ML} {R : MR} (mg : MG S R) {m : Nat} (hm : I (40, 0) 18 = nI m) (hM : m ≤ 9) {w : Nat} (hwm : w < m) {ke : Nat} (hke : I (74, 0) w = nI ke) (hk : ke < 2 ^ 30) {y : Int32} (hy : inb y (min ke 200) = false) : Ct l mX9_led 3 0 0 [.inr (.inr (some (40, 0))), .inl (nI w), .inl y] S I L R (PIp S I L R (-1)) := by
  refine Ct.of [some (.inr (.inr (some (40, 0)))), some (.inl (nI w)), some (.inl y)] (by decide) rfl (Nat.le_of_ble_eq_true rfl) ?_
  refine g_ald0 (pc' := 1) dX9_led_0 rfl ?_
  refine g_ild1 (pc' := 2) dX9_led_1 rfl ?_
  refine g_callV (pc' := 5) (c_misWorld l mg hm hM (nI w)) mg.s40 (by decide) wX9_isWorld lX9_186 rfl rfl (Nat.le_of_ble_eq_true rfl) ⟨Nat.le_of_ble_eq_true rfl, Nat.le_of_ble_eq_true rfl⟩ ⟨Nat.le_of_ble_eq_true rfl, Nat.le_of_ble_eq_true rfl⟩ dX9_led_2 rfl (kIp ?_)
  refine g_ifeqB (pc' := 8) (tgt := 44) dX9_led_5 (by decide) rfl (fun h5 => (by first | exact absurd h5 (by rw [inb_nI (by omega) (by omega)]; simp [hwm]) | exact absurd (by rw [inb_nI (by omega) (by omega)]; simp [hwm]) h5)) (fun h5 => ?_)
  refine g_ild2 (pc' := 9) dX9_led_8 rfl ?_
  refine g_iflt (pc' := 12) (tgt := 44) dX9_led_9 (by decide) rfl (fun h9 => ?_) (fun h9 => ?_)
  · refine g_iconst (pc' := 45) (v := (-1)) dX9_led_44 rfl (by decide) ?_
    refine g_iret rfl dX9_led_45 ?_
    exact eIp rfl
  · refine g_ild2 (pc' := 13) dX9_led_12 rfl ?_
    refine g_ald0 (pc' := 14) dX9_led_13 rfl ?_
    refine g_getR (pc' := 17) mg.s40 (by decide) fX9_49 mg.r40_24 dX9_led_14 rfl ?_
    refine g_ild1 (pc' := 18) dX9_led_17 rfl ?_
    refine g_iald (pc' := 19) (j := w) mg.s74 rfl (by omega) (by decide) hke dX9_led_18 rfl ?_
    refine g_icmpge (pc' := 22) (tgt := 44) dX9_led_19 (by decide) rfl (fun h19 => ?_) (fun h19 => ?_)
    · refine g_iconst (pc' := 45) (v := (-1)) dX9_led_44 rfl (by decide) ?_
      refine g_iret rfl dX9_led_45 ?_
      exact eIp rfl
    · refine g_ild2 (pc' := 23) dX9_led_22 rfl ?_
      refine g_sipush (pc' := 26) (v := nI 200) dX9_led_23 rfl (by decide) ?_
      refine g_icmpge (pc' := 29) (tgt := 44) dX9_led_26 (by decide) rfl (fun h26 => ?_) (fun h26 => ?_)
      · refine g_iconst (pc' := 45) (v := (-1)) dX9_led_44 rfl (by decide) ?_
        refine g_iret rfl dX9_led_45 ?_
        exact eIp rfl
      · exfalso
        obtain ⟨j, hj, rfl⟩ := nI_of h9
        rw [nI_leI (by omega) hj] at h19
        rw [nI_leI (by omega) hj] at h26
        rw [inb_nI hj (by omega)] at hy
        simp at hy
        omega

theorem c_mLedS (l : Launch) {S : Shp} {I : MI} {L : ML} {R : MR} (mg : MG S R) {m : Nat} (hm : I (40, 0) 18 = nI m) (hM : m ≤ 9) {w : Nat} (hwm : w < m) {ke : Nat} (hke : I (74, 0) w = nI ke) (hk : ke < 2 ^ 30) {t : Nat} (ht : t < min ke 200) : Ct l mX9_led 3 0 0 [.inr (.inr (some (40, 0))), .inl (nI w), .inl (nI t)] S I L R (PIp S I L R (I (75, 0) (200 * w + t))) := by
  refine Ct.of [some (.inr (.inr (some (40, 0)))), some (.inl (nI w)), some (.inl (nI t))] (by decide) rfl (Nat.le_of_ble_eq_true rfl) ?_
  refine g_ald0 (pc' := 1) dX9_led_0 rfl ?_
  refine g_ild1 (pc' := 2) dX9_led_1 rfl ?_
  refine g_callV (pc' := 5) (c_misWorld l mg hm hM (nI w)) mg.s40 (by decide) wX9_isWorld lX9_186 rfl rfl (Nat.le_of_ble_eq_true rfl) ⟨Nat.le_of_ble_eq_true rfl, Nat.le_of_ble_eq_true rfl⟩ ⟨Nat.le_of_ble_eq_true rfl, Nat.le_of_ble_eq_true rfl⟩ dX9_led_2 rfl (kIp ?_)
  refine g_ifeqB (pc' := 8) (tgt := 44) dX9_led_5 (by decide) rfl (fun h5 => (by first | exact absurd h5 (by rw [inb_nI (by omega) (by omega)]; simp [hwm]) | exact absurd (by rw [inb_nI (by omega) (by omega)]; simp [hwm]) h5)) (fun h5 => ?_)
  refine g_ild2 (pc' := 9) dX9_led_8 rfl ?_
  refine g_ifltN (pc' := 12) (by omega) dX9_led_9 rfl ?_
  refine g_ild2 (pc' := 13) dX9_led_12 rfl ?_
  refine g_ald0 (pc' := 14) dX9_led_13 rfl ?_
  refine g_getR (pc' := 17) mg.s40 (by decide) fX9_49 mg.r40_24 dX9_led_14 rfl ?_
  refine g_ild1 (pc' := 18) dX9_led_17 rfl ?_
  refine g_iald (pc' := 19) (j := w) mg.s74 rfl (by omega) (by decide) hke dX9_led_18 rfl ?_
  refine g_icmpgeN (pc' := 22) (by omega) (by omega) (tgt := 44) dX9_led_19 (by decide) rfl (fun h19 => ?_) (fun h19 => ?_)
  · exact absurd h19 (by omega)
  · refine g_ild2 (pc' := 23) dX9_led_22 rfl ?_
    refine g_sipush (pc' := 26) (v := nI 200) dX9_led_23 rfl (by decide) ?_
    refine g_icmpgeN (pc' := 29) (by omega) (by omega) (tgt := 44) dX9_led_26 (by decide) rfl (fun h26 => ?_) (fun h26 => ?_)
    · exact absurd h26 (by omega)
    · refine g_ald0 (pc' := 30) dX9_led_29 rfl ?_
      refine g_getR (pc' := 33) mg.s40 (by decide) fX9_52 mg.r40_25 dX9_led_30 rfl ?_
      refine g_sipush (pc' := 36) (v := nI 200) dX9_led_33 rfl (by decide) ?_
      refine g_ild1 (pc' := 37) dX9_led_36 rfl ?_
      refine g_imulN (pc' := 38) dX9_led_37 rfl ?_
      refine g_ild2 (pc' := 39) dX9_led_38 rfl ?_
      refine g_iaddN (pc' := 40) dX9_led_39 rfl ?_
      refine g_iald (pc' := 41) (j := (200 * w) + t) mg.s75 rfl (by omega) (by decide) rfl dX9_led_40 rfl ?_
      refine g_goto (tgt := 45) dX9_led_41 (by decide) ?_
      refine g_iret rfl dX9_led_45 ?_
      exact eIp rfl

theorem c_mTraceM (l : Launch) {S : Shp} {I : MI} {L : ML} {R : MR} (mg : MG S R) {r : Nat} (hr : I (40, 0) 38 = nI r) {x : Int32} (hb : x < 0 ∨ ¬ x < nI r ∨ ¬ x < nI 24) : Ct l mX9_trace 1 0 0 [.inr (.inr (some (40, 0))), .inl x] S I L R (PIp S I L R (-1)) := by
  refine Ct.of [some (.inr (.inr (some (40, 0)))), some (.inl x)] (by decide) rfl (Nat.le_of_ble_eq_true rfl) ?_
  refine g_ild1 (pc' := 1) dX9_trace_0 rfl ?_
  refine g_iflt (pc' := 4) (tgt := 27) dX9_trace_1 (by decide) rfl (fun h1 => ?_) (fun h1 => ?_)
  · refine g_iconst (pc' := 28) (v := (-1)) dX9_trace_27 rfl (by decide) ?_
    refine g_iret rfl dX9_trace_28 ?_
    exact eIp rfl
  · refine g_ild1 (pc' := 5) dX9_trace_4 rfl ?_
    refine g_ald0 (pc' := 6) dX9_trace_5 rfl ?_
    refine g_getI (pc' := 9) mg.s40 (by decide) fX9_321 hr dX9_trace_6 rfl ?_
    refine g_icmpge (pc' := 12) (tgt := 27) dX9_trace_9 (by decide) rfl (fun h9 => ?_) (fun h9 => ?_)
    · refine g_iconst (pc' := 28) (v := (-1)) dX9_trace_27 rfl (by decide) ?_
      refine g_iret rfl dX9_trace_28 ?_
      exact eIp rfl
    · refine g_ild1 (pc' := 13) dX9_trace_12 rfl ?_
      refine g_bipush (pc' := 15) (v := nI 24) dX9_trace_13 rfl (by decide) ?_
      refine g_icmpge (pc' := 18) (tgt := 27) dX9_trace_15 (by decide) rfl (fun h15 => ?_) (fun h15 => ?_)
      · refine g_iconst (pc' := 28) (v := (-1)) dX9_trace_27 rfl (by decide) ?_
        refine g_iret rfl dX9_trace_28 ?_
        exact eIp rfl
      · exfalso
        rcases hb with h | h | h
        · exact h1 h
        · exact h (Int32.not_le.mp h9)
        · exact h (Int32.not_le.mp h15)

theorem c_mTraceS (l : Launch) {S : Shp} {I : MI} {L : ML} {R : MR} (mg : MG S R) {r t : Nat} (hr : I (40, 0) 38 = nI r) (hr2 : r < 2 ^ 31) (ht : t < r) (ht2 : t < 24) : Ct l mX9_trace 1 0 0 [.inr (.inr (some (40, 0))), .inl (nI t)] S I L R (PIp S I L R (I (87, 0) t)) := by
  refine Ct.of [some (.inr (.inr (some (40, 0)))), some (.inl (nI t))] (by decide) rfl (Nat.le_of_ble_eq_true rfl) ?_
  refine g_ild1 (pc' := 1) dX9_trace_0 rfl ?_
  refine g_ifltN (pc' := 4) (by omega) dX9_trace_1 rfl ?_
  refine g_ild1 (pc' := 5) dX9_trace_4 rfl ?_
  refine g_ald0 (pc' := 6) dX9_trace_5 rfl ?_
  refine g_getI (pc' := 9) mg.s40 (by decide) fX9_321 hr dX9_trace_6 rfl ?_
  refine g_icmpgeN (pc' := 12) (by omega) (by omega) (tgt := 27) dX9_trace_9 (by decide) rfl (fun h9 => ?_) (fun h9 => ?_)
  · exact absurd h9 (by omega)
  · refine g_ild1 (pc' := 13) dX9_trace_12 rfl ?_
    refine g_bipush (pc' := 15) (v := nI 24) dX9_trace_13 rfl (by decide) ?_
    refine g_icmpgeN (pc' := 18) (by omega) (by omega) (tgt := 27) dX9_trace_15 (by decide) rfl (fun h15 => ?_) (fun h15 => ?_)
    · exact absurd h15 (by omega)
    · refine g_ald0 (pc' := 19) dX9_trace_18 rfl ?_
      refine g_getR (pc' := 22) mg.s40 (by decide) fX9_76 mg.r40_37 dX9_trace_19 rfl ?_
      refine g_ild1 (pc' := 23) dX9_trace_22 rfl ?_
      refine g_iald (pc' := 24) (j := t) mg.s87 rfl (by omega) (by decide) rfl dX9_trace_23 rfl ?_
      refine g_goto (tgt := 28) dX9_trace_24 (by decide) ?_
      refine g_iret rfl dX9_trace_28 ?_
      exact eIp rfl

theorem c_mBodyB (l : Launch) {S : Shp} {I : MI} {L : ML} {R : MR} (mg : MG S R) {x : Int32} (hb : x < nI 0 ∨ nI 7 < x) : Ct l mX9_body 2 0 0 [.inr (.inr (some (40, 0))), .inl x] S I L R (PIp S I L R (-1)) := by
  refine Ct.of [some (.inr (.inr (some (40, 0)))), some (.inl x)] (by decide) rfl (Nat.le_of_ble_eq_true rfl) ?_
  refine g_ild1 (pc' := 1) dX9_body_0 rfl ?_
  refine g_i2l (pc' := 2) dX9_body_1 rfl ?_
  refine g_lconst (pc' := 3) (v := 0) dX9_body_2 rfl (by decide) ?_
  refine g_ldc2 (pc' := 6) dX9_body_3 rfl kX9_319 ?_
  refine g_callS (pc' := 9) (c_mWI l x (nI 0) (nI 7) (A := 0) (B := 7) (by decide) (by decide)) wX9_within lX9_102 rfl rfl (Nat.le_of_ble_eq_true rfl) ⟨Nat.le_of_ble_eq_true rfl, Nat.le_of_ble_eq_true rfl⟩ ⟨Nat.le_of_ble_eq_true rfl, Nat.le_of_ble_eq_true rfl⟩ dX9_body_6 rfl (kIp ?_)
  refine g_ifneB (pc' := 12) (tgt := 14) dX9_body_9 (by decide) rfl (fun h9 => (by first | exact absurd h9 (wi_no hb) | exact absurd (wi_no hb) h9)) (fun h9 => ?_)
  refine g_iconst (pc' := 13) (v := (-1)) dX9_body_12 rfl (by decide) ?_
  refine g_iret rfl dX9_body_13 ?_
  exact eIp rfl

theorem c_mBodyF (l : Launch) {S : Shp} {I : MI} {L : ML} {R : MR} (mg : MG S R) {b : Nat} (hb : I (40, 0) 35 = nI b) (hb5 : b ≤ 50) {x : Int32} (hlo : ¬ x < nI 0) (hhi : ¬ nI 7 < x) (hf : b = 50) : Ct l mX9_body 2 0 0 [.inr (.inr (some (40, 0))), .inl x] S I L R (PIp S I L R (-3)) := by
  refine Ct.of [some (.inr (.inr (some (40, 0)))), some (.inl x)] (by decide) rfl (Nat.le_of_ble_eq_true rfl) ?_
  refine g_ild1 (pc' := 1) dX9_body_0 rfl ?_
  refine g_i2l (pc' := 2) dX9_body_1 rfl ?_
  refine g_lconst (pc' := 3) (v := 0) dX9_body_2 rfl (by decide) ?_
  refine g_ldc2 (pc' := 6) dX9_body_3 rfl kX9_319 ?_
  refine g_callS (pc' := 9) (c_mWI l x (nI 0) (nI 7) (A := 0) (B := 7) (by decide) (by decide)) wX9_within lX9_102 rfl rfl (Nat.le_of_ble_eq_true rfl) ⟨Nat.le_of_ble_eq_true rfl, Nat.le_of_ble_eq_true rfl⟩ ⟨Nat.le_of_ble_eq_true rfl, Nat.le_of_ble_eq_true rfl⟩ dX9_body_6 rfl (kIp ?_)
  refine g_ifneB (pc' := 12) (tgt := 14) dX9_body_9 (by decide) rfl (fun h9 => ?_) (fun h9 => (by first | exact absurd h9 (wi_yes hlo hhi) | exact absurd (wi_yes hlo hhi) h9))
  refine g_ald0 (pc' := 15) dX9_body_14 rfl ?_
  refine g_getI (pc' := 18) mg.s40 (by decide) fX9_316 hb dX9_body_15 rfl ?_
  refine g_bipush (pc' := 20) (v := nI 50) dX9_body_18 rfl (by decide) ?_
  refine g_icmpneN (pc' := 23) (by omega) (by omega) (tgt := 26) dX9_body_20 (by decide) rfl (fun h20 => ?_) (fun h20 => ?_)
  · exact absurd h20 (by omega)
  · refine g_bipush (pc' := 25) (v := (-3)) dX9_body_23 rfl (by decide) ?_
    refine g_iret rfl dX9_body_25 ?_
    exact eIp rfl

theorem c_mBodyS (l : Launch) {S : Shp} {I : MI} {L : ML} {R : MR} (mg : MG S R) {b : Nat} (hb : I (40, 0) 35 = nI b) (hb5 : b ≤ 50) {x : Int32} (hlo : ¬ x < nI 0) (hhi : ¬ nI 7 < x) (hf : b < 50) : Ct l mX9_body 2 0 0 [.inr (.inr (some (40, 0))), .inl x] S I L R (PIm S L R (fun v J => v = nI b ∧ J = upM (upM I (86, 0) b x) (40, 0) 35 (nI (b + 1)))) := by
  refine Ct.of [some (.inr (.inr (some (40, 0)))), some (.inl x)] (by decide) rfl (Nat.le_of_ble_eq_true rfl) ?_
  refine g_ild1 (pc' := 1) dX9_body_0 rfl ?_
  refine g_i2l (pc' := 2) dX9_body_1 rfl ?_
  refine g_lconst (pc' := 3) (v := 0) dX9_body_2 rfl (by decide) ?_
  refine g_ldc2 (pc' := 6) dX9_body_3 rfl kX9_319 ?_
  refine g_callS (pc' := 9) (c_mWI l x (nI 0) (nI 7) (A := 0) (B := 7) (by decide) (by decide)) wX9_within lX9_102 rfl rfl (Nat.le_of_ble_eq_true rfl) ⟨Nat.le_of_ble_eq_true rfl, Nat.le_of_ble_eq_true rfl⟩ ⟨Nat.le_of_ble_eq_true rfl, Nat.le_of_ble_eq_true rfl⟩ dX9_body_6 rfl (kIp ?_)
  refine g_ifneB (pc' := 12) (tgt := 14) dX9_body_9 (by decide) rfl (fun h9 => ?_) (fun h9 => (by first | exact absurd h9 (wi_yes hlo hhi) | exact absurd (wi_yes hlo hhi) h9))
  refine g_ald0 (pc' := 15) dX9_body_14 rfl ?_
  refine g_getI (pc' := 18) mg.s40 (by decide) fX9_316 hb dX9_body_15 rfl ?_
  refine g_bipush (pc' := 20) (v := nI 50) dX9_body_18 rfl (by decide) ?_
  refine g_icmpneN (pc' := 23) (by omega) (by omega) (tgt := 26) dX9_body_20 (by decide) rfl (fun h20 => ?_) (fun h20 => ?_)
  · refine g_ald0 (pc' := 27) dX9_body_26 rfl ?_
    refine g_getR (pc' := 30) mg.s40 (by decide) fX9_73 mg.r40_36 dX9_body_27 rfl ?_
    refine g_ald0 (pc' := 31) dX9_body_30 rfl ?_
    refine g_getI (pc' := 34) mg.s40 (by decide) fX9_316 hb dX9_body_31 rfl ?_
    refine g_ild1 (pc' := 35) dX9_body_34 rfl ?_
    refine g_iast (pc' := 36) (j := b) mg.s86 rfl (by omega) (by decide) dX9_body_35 rfl ?_
    refine g_ald0 (pc' := 37) dX9_body_36 rfl ?_
    refine g_dupR (pc' := 38) dX9_body_37 rfl ?_
    refine g_getI (pc' := 41) mg.s40 (by decide) fX9_316 (v := nI b) (by simp [upM, hb]) dX9_body_38 rfl ?_
    refine g_iconst (pc' := 42) (v := nI 1) dX9_body_41 rfl (by decide) ?_
    refine g_iaddN (pc' := 43) dX9_body_42 rfl ?_
    refine g_putI (pc' := 46) mg.s40 (by decide) ⟨fX9_316, rfl, pI⟩ dX9_body_43 rfl ?_
    refine g_ald0 (pc' := 47) dX9_body_46 rfl ?_
    refine g_getI (pc' := 50) mg.s40 (by decide) fX9_316 (v := nI (b + 1)) (by simp [upM]) dX9_body_47 rfl ?_
    refine g_iconst (pc' := 51) (v := nI 1) dX9_body_50 rfl (by decide) ?_
    refine g_isub (pc' := 52) dX9_body_51 rfl ?_
    refine g_topi (v := nI b) (pk_sub (by omega)) ?_
    refine g_iret rfl dX9_body_52 ?_
    exact eI ⟨rfl, rfl⟩
  · exact absurd h20 (by omega)
