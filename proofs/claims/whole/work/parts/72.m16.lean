/-! the model: one -/
theorem c_mNameOf (l : Launch) {S : Shp} {I : MI} {L : ML} {R : MR} {b : Nat} (hb : b < 256) : Ct l mX9_nameOf 1 0 0 [.inl (nI b)] S I L R (PIp S I L R (flI (nameC b))) := by
  refine Ct.of [some (.inl (nI b))] (by decide) rfl (Nat.le_of_ble_eq_true rfl) ?_
  refine g_ild0 (pc' := 1) dX9_nameOf_0 rfl ?_
  rcases (show b < 99 ∨ 119 < b ∨ b = 99 ∨ b = 100 ∨ b = 101 ∨ b = 102 ∨ b = 103 ∨ b = 104 ∨ b = 105 ∨ b = 106 ∨ b = 107 ∨ b = 108 ∨ b = 109 ∨ b = 110 ∨ b = 111 ∨ b = 112 ∨ b = 113 ∨ b = 114 ∨ b = 115 ∨ b = 116 ∨ b = 117 ∨ b = 118 ∨ b = 119 by omega) with h | h | rfl | rfl | rfl | rfl | rfl | rfl | rfl | rfl | rfl | rfl | rfl | rfl | rfl | rfl | rfl | rfl | rfl | rfl | rfl | rfl | rfl
  · refine g_tout (tgt := 115) dX9_nameOf_1 (Or.inl (by rw [nI_toInt (by omega)]; omega)) (by decide) ?_
    refine g_iconst (pc' := 116) (v := (-1)) dX9_nameOf_115 rfl (by decide) ?_
    refine g_iret rfl dX9_nameOf_116 ?_
    exact eIp (by unfold nameC; split <;> first | rfl | omega)
  · refine g_tout (tgt := 115) dX9_nameOf_1 (Or.inr (by rw [nI_toInt (by omega)]; omega)) (by decide) ?_
    refine g_iconst (pc' := 116) (v := (-1)) dX9_nameOf_115 rfl (by decide) ?_
    refine g_iret rfl dX9_nameOf_116 ?_
    exact eIp (by unfold nameC; split <;> first | rfl | omega)
  · refine g_tin (off := 101) (tgt := 102) dX9_nameOf_1 (by decide) (by decide) (by decide) (by decide) ?_
    refine g_iconst (pc' := 103) (v := nI 1) dX9_nameOf_102 rfl (by decide) ?_
    refine g_iret rfl dX9_nameOf_103 ?_
    exact eIp rfl
  · refine g_tin (off := 114) (tgt := 115) dX9_nameOf_1 (by decide) (by decide) (by decide) (by decide) ?_
    refine g_iconst (pc' := 116) (v := (-1)) dX9_nameOf_115 rfl (by decide) ?_
    refine g_iret rfl dX9_nameOf_116 ?_
    exact eIp rfl
  · refine g_tin (off := 114) (tgt := 115) dX9_nameOf_1 (by decide) (by decide) (by decide) (by decide) ?_
    refine g_iconst (pc' := 116) (v := (-1)) dX9_nameOf_115 rfl (by decide) ?_
    refine g_iret rfl dX9_nameOf_116 ?_
    exact eIp rfl
  · refine g_tin (off := 114) (tgt := 115) dX9_nameOf_1 (by decide) (by decide) (by decide) (by decide) ?_
    refine g_iconst (pc' := 116) (v := (-1)) dX9_nameOf_115 rfl (by decide) ?_
    refine g_iret rfl dX9_nameOf_116 ?_
    exact eIp rfl
  · refine g_tin (off := 114) (tgt := 115) dX9_nameOf_1 (by decide) (by decide) (by decide) (by decide) ?_
    refine g_iconst (pc' := 116) (v := (-1)) dX9_nameOf_115 rfl (by decide) ?_
    refine g_iret rfl dX9_nameOf_116 ?_
    exact eIp rfl
  · refine g_tin (off := 114) (tgt := 115) dX9_nameOf_1 (by decide) (by decide) (by decide) (by decide) ?_
    refine g_iconst (pc' := 116) (v := (-1)) dX9_nameOf_115 rfl (by decide) ?_
    refine g_iret rfl dX9_nameOf_116 ?_
    exact eIp rfl
  · refine g_tin (off := 111) (tgt := 112) dX9_nameOf_1 (by decide) (by decide) (by decide) (by decide) ?_
    refine g_bipush (pc' := 114) (v := nI 6) dX9_nameOf_112 rfl (by decide) ?_
    refine g_iret rfl dX9_nameOf_114 ?_
    exact eIp rfl
  · refine g_tin (off := 114) (tgt := 115) dX9_nameOf_1 (by decide) (by decide) (by decide) (by decide) ?_
    refine g_iconst (pc' := 116) (v := (-1)) dX9_nameOf_115 rfl (by decide) ?_
    refine g_iret rfl dX9_nameOf_116 ?_
    exact eIp rfl
  · refine g_tin (off := 109) (tgt := 110) dX9_nameOf_1 (by decide) (by decide) (by decide) (by decide) ?_
    refine g_iconst (pc' := 111) (v := nI 5) dX9_nameOf_110 rfl (by decide) ?_
    refine g_iret rfl dX9_nameOf_111 ?_
    exact eIp rfl
  · refine g_tin (off := 114) (tgt := 115) dX9_nameOf_1 (by decide) (by decide) (by decide) (by decide) ?_
    refine g_iconst (pc' := 116) (v := (-1)) dX9_nameOf_115 rfl (by decide) ?_
    refine g_iret rfl dX9_nameOf_116 ?_
    exact eIp rfl
  · refine g_tin (off := 114) (tgt := 115) dX9_nameOf_1 (by decide) (by decide) (by decide) (by decide) ?_
    refine g_iconst (pc' := 116) (v := (-1)) dX9_nameOf_115 rfl (by decide) ?_
    refine g_iret rfl dX9_nameOf_116 ?_
    exact eIp rfl
  · refine g_tin (off := 105) (tgt := 106) dX9_nameOf_1 (by decide) (by decide) (by decide) (by decide) ?_
    refine g_iconst (pc' := 107) (v := nI 3) dX9_nameOf_106 rfl (by decide) ?_
    refine g_iret rfl dX9_nameOf_107 ?_
    exact eIp rfl
  · refine g_tin (off := 114) (tgt := 115) dX9_nameOf_1 (by decide) (by decide) (by decide) (by decide) ?_
    refine g_iconst (pc' := 116) (v := (-1)) dX9_nameOf_115 rfl (by decide) ?_
    refine g_iret rfl dX9_nameOf_116 ?_
    exact eIp rfl
  · refine g_tin (off := 103) (tgt := 104) dX9_nameOf_1 (by decide) (by decide) (by decide) (by decide) ?_
    refine g_iconst (pc' := 105) (v := nI 2) dX9_nameOf_104 rfl (by decide) ?_
    refine g_iret rfl dX9_nameOf_105 ?_
    exact eIp rfl
  · refine g_tin (off := 114) (tgt := 115) dX9_nameOf_1 (by decide) (by decide) (by decide) (by decide) ?_
    refine g_iconst (pc' := 116) (v := (-1)) dX9_nameOf_115 rfl (by decide) ?_
    refine g_iret rfl dX9_nameOf_116 ?_
    exact eIp rfl
  · refine g_tin (off := 114) (tgt := 115) dX9_nameOf_1 (by decide) (by decide) (by decide) (by decide) ?_
    refine g_iconst (pc' := 116) (v := (-1)) dX9_nameOf_115 rfl (by decide) ?_
    refine g_iret rfl dX9_nameOf_116 ?_
    exact eIp rfl
  · refine g_tin (off := 114) (tgt := 115) dX9_nameOf_1 (by decide) (by decide) (by decide) (by decide) ?_
    refine g_iconst (pc' := 116) (v := (-1)) dX9_nameOf_115 rfl (by decide) ?_
    refine g_iret rfl dX9_nameOf_116 ?_
    exact eIp rfl
  · refine g_tin (off := 107) (tgt := 108) dX9_nameOf_1 (by decide) (by decide) (by decide) (by decide) ?_
    refine g_iconst (pc' := 109) (v := nI 4) dX9_nameOf_108 rfl (by decide) ?_
    refine g_iret rfl dX9_nameOf_109 ?_
    exact eIp rfl
  · refine g_tin (off := 114) (tgt := 115) dX9_nameOf_1 (by decide) (by decide) (by decide) (by decide) ?_
    refine g_iconst (pc' := 116) (v := (-1)) dX9_nameOf_115 rfl (by decide) ?_
    refine g_iret rfl dX9_nameOf_116 ?_
    exact eIp rfl
  · refine g_tin (off := 114) (tgt := 115) dX9_nameOf_1 (by decide) (by decide) (by decide) (by decide) ?_
    refine g_iconst (pc' := 116) (v := (-1)) dX9_nameOf_115 rfl (by decide) ?_
    refine g_iret rfl dX9_nameOf_116 ?_
    exact eIp rfl
  · refine g_tin (off := 99) (tgt := 100) dX9_nameOf_1 (by decide) (by decide) (by decide) (by decide) ?_
    refine g_iconst (pc' := 101) (v := nI 0) dX9_nameOf_100 rfl (by decide) ?_
    refine g_iret rfl dX9_nameOf_101 ?_
    exact eIp rfl

theorem MT.stay {B : Nat → Nat} {len op : Nat} {seen : Nat → Int32} {I : MI} {s : PS} (h : MT B len op seen I s) (hn : ¬ s.2.1 = none) : MT B len op seen I (psFail len s) := by
  obtain ⟨h1, h2, h3, h4, h5, h6⟩ := h
  have e : psFail len s = (len, s.2.1, s.2.2) := by
    unfold psFail
    cases hq : s.2.1 with
    | none => exact absurd hq hn
    | some p => rfl
  rw [e]
  exact ⟨h1, h2, h3, Nat.le_refl _, fun q => absurd q hn, fun _ => ⟨rfl, (h6 hn).2⟩⟩
theorem MT.inc {B : Nat → Nat} {len op : Nat} {seen : Nat → Int32} {I : MI} {s : PS} (h : MT B len op seen I s) (hn : s.2.1 = none) (hl : s.1 < len) : MT B len (op + 1) seen (upM (upM I (40, 0) 16 (nI (op + 1))) (40, 0) 13 (nI (s.1 + 1))) (psAdv s) := by
  obtain ⟨h1, h2, h3, h4, h5, h6⟩ := h
  refine ⟨h1.to ((Fr.rf.up (by simp [mtP])).up (by simp [mtP])), ?_, h3, hl, fun _ => ⟨upM_s _ _ _ _, ?_⟩, fun q => absurd hn q⟩
  · rw [upM_k _ _ (by decide), upM_k _ _ (by decide)]; exact h2
  · rw [upM_k _ _ (by decide), upM_s]
theorem MT.dec {B : Nat → Nat} {len op op2 : Nat} {seen : Nat → Int32} {I : MI} {s : PS} (h : MT B len op seen I s) (hn : s.2.1 = none) : MT B len op2 seen (upM I (40, 0) 16 (nI op2)) s := by
  obtain ⟨h1, h2, h3, h4, h5, h6⟩ := h
  refine ⟨h1.to (Fr.rf.up (by simp [mtP])), ?_, h3, h4, fun q => ⟨?_, upM_s _ _ _ _⟩, fun q => absurd hn q⟩
  · rw [upM_k _ _ (by decide)]; exact h2
  · rw [upM_k _ _ (by decide)]; exact (h5 q).1
theorem MT.ff {B : Nat → Nat} {len op op2 : Nat} {seen : Nat → Int32} {I : MI} {s : PS} {x : Int32} (h : MT B len op seen I s) (hn : ¬ s.2.1 = none) : MT B len op2 seen (upM I (40, 0) 16 x) s := by
  obtain ⟨h1, h2, h3, h4, h5, h6⟩ := h
  refine ⟨h1.to (Fr.rf.up (by simp [mtP])), ?_, h3, h4, fun q => absurd q hn, fun q => ⟨(h6 q).1, ?_⟩⟩
  · rw [upM_k _ _ (by decide)]; exact h2
  · obtain ⟨a, ha, e⟩ := (h6 q).2
    exact ⟨a, ha, by rw [upM_k _ _ (by decide)]; exact e⟩
theorem MT.f2 {B : Nat → Nat} {len op op2 : Nat} {seen : Nat → Int32} {I : MI} {s : PS} (h : MT B len op seen I s) (hn : ¬ s.2.1 = none) : MT B len op2 seen I s := by
  obtain ⟨h1, h2, h3, h4, h5, h6⟩ := h
  exact ⟨h1, h2, h3, h4, fun q => absurd q hn, h6⟩
def isOp (c : Nat) : Prop := c = 40 ∨ c = 33 ∨ c = 45
theorem isOp_no {c : Nat} (h : isOp c) : nameC c = none ∧ ¬ (48 ≤ c ∧ c ≤ 57) := by
  rcases h with rfl | rfl | rfl <;> exact ⟨rfl, by omega⟩
theorem c_oneC (l : Launch) {S : Shp} {I : MI} {L : ML} {R : MR} (mg : MG S R) {B : Nat → Nat} {len op : Nat} {seen : Nat → Int32} {s : PS} (h : MT B len op seen I s) {opn : Nat → PS → PS} {opv : Nat → PS → Int32} (hno : s.2.1 = none → s.1 < len → ¬ isOp (B s.1)) {dp : Nat} (hdp : 3 ≤ dp) : Ct l mX9_one (dp + 1) 0 0 [.inr (.inr (some (40, 0)))] S I L R (PIm S L R (fun v J => MT B len op seen J (cStep B len opn s) ∧ Fr mtP I J ∧ ((cStep B len opn s).2.1 = none → v = stepV B len opv seen s))) := by
  refine Ct.of [some (.inr (.inr (some (40, 0)))), none, none, none, none] (by decide) rfl (Nat.le_of_ble_eq_true rfl) ?_
  have hl120 := h.1.1
  have hb2 := bt_lt (a := s.1) h.1.2.1
  by_cases hn : s.2.1 = none
  · have hop : ¬ isOp (bt B len s.1) := by
      unfold bt
      split
      · exact hno hn (by assumption)
      · unfold isOp; omega
    have hs0 : s = (s.1, none, s.2.2) := by rw [← hn]
    have hs2 : s.2 = (none, s.2.2) := by rw [← hn]
    cases hnm : nameC (bt B len s.1) with
    | some q =>
      have hq7 := nameC_lt hnm
      have hl : s.1 < len := by
        rcases Nat.lt_or_ge s.1 len with q1 | q1
        · exact q1
        · rw [show bt B len s.1 = 0 from if_neg (by omega)] at hnm; cases hnm
      have hbB : bt B len s.1 = B s.1 := if_pos hl
      have hdg : ¬ (48 ≤ B s.1 ∧ B s.1 ≤ 57) := by
        rintro ⟨q1, q2⟩
        rw [hbB] at hnm
        unfold nameC at hnm
        split at hnm <;> first | omega | cases hnm
      have eC : cStep B len opn s = psMk 1 q (psAdv s) ∧ stepV B len opv seen s = seen q := by
        rw [hbB] at hnm
        constructor
        · unfold cStep; rw [show nxt B len s.1 = some (B s.1) from if_pos hl]; simp only; rw [if_neg hdg, hnm]
        · unfold stepV; rw [show nxt B len s.1 = some (B s.1) from if_pos hl]; simp only; rw [if_neg hdg, hnm]
      refine g_ald0 (pc' := 1) dX9_one_0 rfl ?_
      refine g_getI (pc' := 4) mg.s40 (by decide) fX9_133 (h.nf hn) dX9_one_1 rfl ?_
      refine g_iflt (pc' := 7) (tgt := 9) dX9_one_4 (by decide) rfl (fun h4 => ?_) (fun h4 => (by first | exact absurd h4 (by decide : (-1 : Int32) < 0) | exact absurd (by decide : (-1 : Int32) < 0) h4))
      refine g_ald0 (pc' := 10) dX9_one_9 rfl ?_
      refine g_callV (pc' := 13) (c_mByte l mg h.1 (h.2.2.2.2.1 hn).1 h.2.2.2.1) mg.s40 (by decide) wX9_byteAt lX9_136 rfl rfl (Nat.le_of_ble_eq_true rfl) (rOk (by omega) (by decide)) ⟨Nat.le_of_ble_eq_true rfl, Nat.le_of_ble_eq_true rfl⟩ dX9_one_10 rfl (kIp ?_)
      refine g_ist1 (pc' := 14) rfl (by decide) dX9_one_13 rfl ?_
      refine g_ild1 (pc' := 15) dX9_one_14 rfl ?_
      refine g_bipush (pc' := 17) (v := nI 33) dX9_one_15 rfl (by decide) ?_
      refine g_icmpeqN (pc' := 20) (by omega) (by omega) (tgt := 32) dX9_one_17 (by decide) rfl (fun h17 => ?_) (fun h17 => ?_)
      · exact absurd h17 (fun e => hop (Or.inr (Or.inl e)))
      · refine g_ild1 (pc' := 21) dX9_one_20 rfl ?_
        refine g_bipush (pc' := 23) (v := nI 45) dX9_one_21 rfl (by decide) ?_
        refine g_icmpeqN (pc' := 26) (by omega) (by omega) (tgt := 32) dX9_one_23 (by decide) rfl (fun h23 => ?_) (fun h23 => ?_)
        · exact absurd h23 (fun e => hop (Or.inr (Or.inr e)))
        · refine g_ild1 (pc' := 27) dX9_one_26 rfl ?_
          refine g_bipush (pc' := 29) (v := nI 40) dX9_one_27 rfl (by decide) ?_
          refine g_icmpneN (pc' := 32) (by omega) (by omega) (tgt := 145) dX9_one_29 (by decide) rfl (fun h29 => ?_) (fun h29 => ?_)
          · refine g_ild1 (pc' := 146) dX9_one_145 rfl ?_
            refine g_callS (pc' := 149) (c_mNameOf l (b := bt B len s.1) (by omega)) wX9_nameOf lX9_167 rfl rfl (Nat.le_of_ble_eq_true rfl) (rOk (by omega) (by decide)) ⟨Nat.le_of_ble_eq_true rfl, Nat.le_of_ble_eq_true rfl⟩ dX9_one_146 rfl (kIp ?_)
            rw [hnm, show flI (some q) = nI q from rfl]
            refine g_ist2 (pc' := 150) rfl (by decide) dX9_one_149 rfl ?_
            refine g_ild2 (pc' := 151) dX9_one_150 rfl ?_
            refine g_ifltN (pc' := 154) (by omega) dX9_one_151 rfl ?_
            refine g_ald0 (pc' := 155) dX9_one_154 rfl ?_
            refine g_dupR (pc' := 156) dX9_one_155 rfl ?_
            refine g_getI (pc' := 159) mg.s40 (by decide) fX9_124 (v := nI (s.1)) ((h.2.2.2.2.1 hn).1) dX9_one_156 rfl ?_
            refine g_iconst (pc' := 160) (v := nI 1) dX9_one_159 rfl (by decide) ?_
            refine g_iaddN (pc' := 161) dX9_one_160 rfl ?_
            refine g_putI (pc' := 164) mg.s40 (by decide) ⟨fX9_124, rfl, pI⟩ dX9_one_161 rfl ?_
            refine g_ald0 (pc' := 165) dX9_one_164 rfl ?_
            refine g_getR (pc' := 168) mg.s40 (by decide) fX9_31 mg.r40_17 dX9_one_165 rfl ?_
            refine g_ild2 (pc' := 169) dX9_one_168 rfl ?_
            refine g_iald (pc' := 170) (j := q) mg.s67 rfl (by omega) (by decide) (v := seen q) (by rw [upM_n _ (by simp)]; exact h.1.2.2.2.2 q hq7) dX9_one_169 rfl ?_
            refine g_iret rfl dX9_one_170 ?_
            exact eI ⟨by rw [eC.1]; exact (h.adv hn hl).mk, Fr.rf.up (by simp [mtP]), fun _ => eC.2.symm⟩
          · exact absurd h29 (fun e => hop (Or.inl e))
    | none =>
      by_cases hdg : 48 ≤ bt B len s.1 ∧ bt B len s.1 ≤ 57
      · have hl : s.1 < len := by
          rcases Nat.lt_or_ge s.1 len with q1 | q1
          · exact q1
          · rw [show bt B len s.1 = 0 from if_neg (by omega)] at hdg; omega
        have hbB : bt B len s.1 = B s.1 := if_pos hl
        have eC : cStep B len opn s = cNum B len s ∧ stepV B len opv seen s = nI (digs B len 4 0 s.1).1 := by
          rw [hbB] at hdg
          constructor
          · unfold cStep; rw [show nxt B len s.1 = some (B s.1) from if_pos hl]; simp only; rw [if_pos hdg]
          · unfold stepV; rw [show nxt B len s.1 = some (B s.1) from if_pos hl]; simp only; rw [if_pos hdg]
        refine g_ald0 (pc' := 1) dX9_one_0 rfl ?_
        refine g_getI (pc' := 4) mg.s40 (by decide) fX9_133 (h.nf hn) dX9_one_1 rfl ?_
        refine g_iflt (pc' := 7) (tgt := 9) dX9_one_4 (by decide) rfl (fun h4 => ?_) (fun h4 => (by first | exact absurd h4 (by decide : (-1 : Int32) < 0) | exact absurd (by decide : (-1 : Int32) < 0) h4))
        refine g_ald0 (pc' := 10) dX9_one_9 rfl ?_
        refine g_callV (pc' := 13) (c_mByte l mg h.1 (h.2.2.2.2.1 hn).1 h.2.2.2.1) mg.s40 (by decide) wX9_byteAt lX9_136 rfl rfl (Nat.le_of_ble_eq_true rfl) (rOk (by omega) (by decide)) ⟨Nat.le_of_ble_eq_true rfl, Nat.le_of_ble_eq_true rfl⟩ dX9_one_10 rfl (kIp ?_)
        refine g_ist1 (pc' := 14) rfl (by decide) dX9_one_13 rfl ?_
        refine g_ild1 (pc' := 15) dX9_one_14 rfl ?_
        refine g_bipush (pc' := 17) (v := nI 33) dX9_one_15 rfl (by decide) ?_
        refine g_icmpeqN (pc' := 20) (by omega) (by omega) (tgt := 32) dX9_one_17 (by decide) rfl (fun h17 => ?_) (fun h17 => ?_)
        · exact absurd h17 (fun e => hop (Or.inr (Or.inl e)))
        · refine g_ild1 (pc' := 21) dX9_one_20 rfl ?_
          refine g_bipush (pc' := 23) (v := nI 45) dX9_one_21 rfl (by decide) ?_
          refine g_icmpeqN (pc' := 26) (by omega) (by omega) (tgt := 32) dX9_one_23 (by decide) rfl (fun h23 => ?_) (fun h23 => ?_)
          · exact absurd h23 (fun e => hop (Or.inr (Or.inr e)))
          · refine g_ild1 (pc' := 27) dX9_one_26 rfl ?_
            refine g_bipush (pc' := 29) (v := nI 40) dX9_one_27 rfl (by decide) ?_
            refine g_icmpneN (pc' := 32) (by omega) (by omega) (tgt := 145) dX9_one_29 (by decide) rfl (fun h29 => ?_) (fun h29 => ?_)
            · refine g_ild1 (pc' := 146) dX9_one_145 rfl ?_
              refine g_callS (pc' := 149) (c_mNameOf l (b := bt B len s.1) (by omega)) wX9_nameOf lX9_167 rfl rfl (Nat.le_of_ble_eq_true rfl) (rOk (by omega) (by decide)) ⟨Nat.le_of_ble_eq_true rfl, Nat.le_of_ble_eq_true rfl⟩ dX9_one_146 rfl (kIp ?_)
              rw [hnm, show flI none = -1 from rfl]
              refine g_ist2 (pc' := 150) rfl (by decide) dX9_one_149 rfl ?_
              refine g_ild2 (pc' := 151) dX9_one_150 rfl ?_
              refine g_iflt (pc' := 154) (tgt := 171) dX9_one_151 (by decide) rfl (fun h151 => ?_) (fun h151 => (by first | exact absurd h151 (by decide : (-1 : Int32) < 0) | exact absurd (by decide : (-1 : Int32) < 0) h151))
              refine g_iconst (pc' := 172) (v := nI 0) dX9_one_171 rfl (by decide) ?_
              refine g_ist3 (pc' := 173) rfl (by decide) dX9_one_172 rfl ?_
              refine g_iconst (pc' := 174) (v := nI 0) dX9_one_173 rfl (by decide) ?_
              refine g_ist4 (pc' := 176) rfl (by decide) dX9_one_174 rfl ?_
              refine g_loop (σ := MI × Nat × Nat) (fun i q => MT B len op seen q.1 (q.2.2, none, s.2.2) ∧ Fr mtP I q.1 ∧ digs B len (4 - i) q.2.1 q.2.2 = (digs B len 4 0 s.1) ∧ (i = 0 → q.2.2 = s.1 ∧ q.2.1 = 0)) (fun i q => [some (.inr (.inr (some (40, 0)))), some (.inl (nI (bt B len s.1))), some (.inl (-1)), some (.inl (nI q.2.1)), some (.inl (nI i))]) (fun i q => q.1) 4 0 (I, 0, s.1) (by omega) ⟨hs0 ▸ h, Fr.rf, rfl, fun _ => ⟨rfl, rfl⟩⟩ ?_ ?_
              · rintro i ⟨J, v, a⟩ hi ⟨hM, hF, hD, h00⟩ ihd
                simp only at hM hF hD h00 ⊢
                refine g_ild4 (pc' := 178) dX9_one_176 rfl ?_
                refine g_iconst (pc' := 179) (v := nI 4) dX9_one_178 rfl (by decide) ?_
                refine g_icmpgeN (pc' := 182) (by omega) (by omega) (tgt := 229) dX9_one_179 (by decide) rfl (fun h179 => ?_) (fun h179 => ?_)
                · exact absurd h179 (by omega)
                · have hb2 := bt_lt (a := a) hM.1.2.1
                  refine g_ald0 (pc' := 183) dX9_one_182 rfl ?_
                  refine g_callV (pc' := 186) (c_mByte l mg hM.1 (a := a) (hM.2.2.2.2.1 rfl).1 hM.2.2.2.1) mg.s40 (by decide) wX9_byteAt lX9_136 rfl rfl (Nat.le_of_ble_eq_true rfl) (rOk (by omega) (by decide)) ⟨Nat.le_of_ble_eq_true rfl, Nat.le_of_ble_eq_true rfl⟩ dX9_one_183 rfl (kIp ?_)
                  refine g_bipush (pc' := 188) (v := nI 48) dX9_one_186 rfl (by decide) ?_
                  refine g_icmpltN (pc' := 191) (by omega) (by omega) (tgt := 229) dX9_one_188 (by decide) rfl (fun h188 => ?_) (fun h188 => ?_)
                  · have hdone : digs B len (4 - i) v a = (v, a) := by
                      rw [show 4 - i = (3 - i) + 1 by omega, digs, if_neg]
                      rintro ⟨q1, q2, q3⟩
                      have : bt B len a = B a := if_pos q1
                      omega
                    have hi0 : 0 < i := by
                      rcases Nat.eq_zero_or_pos i with h0 | h0
                      · exfalso
                        obtain ⟨e1, e2⟩ := h00 h0
                        rw [← e1] at hdg
                        omega
                      · exact h0
                    refine g_ild4 (pc' := 231) dX9_one_229 rfl ?_
                    refine g_ifneN (pc' := 234) (by omega) (tgt := 241) dX9_one_231 (by decide) rfl (fun h231 => ?_) (fun h231 => ?_)
                    · refine g_ild3 (pc' := 242) dX9_one_241 rfl ?_
                      refine g_iret rfl dX9_one_242 ?_
                      refine eI ⟨?_, hF, fun _ => ?_⟩
                      · rw [eC.1]; unfold cNum; rw [← hD, hdone]; have hx : MT B len op seen J (a, s.2) := by rw [hs2]; exact hM
                        exact hx.mk
                      · rw [eC.2, ← hD, hdone]
                    · exact absurd h231 (by omega)
                  · refine g_ald0 (pc' := 192) dX9_one_191 rfl ?_
                    refine g_callV (pc' := 195) (c_mByte l mg hM.1 (a := a) (hM.2.2.2.2.1 rfl).1 hM.2.2.2.1) mg.s40 (by decide) wX9_byteAt lX9_136 rfl rfl (Nat.le_of_ble_eq_true rfl) (rOk (by omega) (by decide)) ⟨Nat.le_of_ble_eq_true rfl, Nat.le_of_ble_eq_true rfl⟩ dX9_one_192 rfl (kIp ?_)
                    refine g_bipush (pc' := 197) (v := nI 57) dX9_one_195 rfl (by decide) ?_
                    refine g_icmpgtN (pc' := 200) (by omega) (by omega) (tgt := 229) dX9_one_197 (by decide) rfl (fun h197 => ?_) (fun h197 => ?_)
                    · have hdone : digs B len (4 - i) v a = (v, a) := by
                        rw [show 4 - i = (3 - i) + 1 by omega, digs, if_neg]
                        rintro ⟨q1, q2, q3⟩
                        have : bt B len a = B a := if_pos q1
                        omega
                      have hi0 : 0 < i := by
                        rcases Nat.eq_zero_or_pos i with h0 | h0
                        · exfalso
                          obtain ⟨e1, e2⟩ := h00 h0
                          rw [← e1] at hdg
                          omega
                        · exact h0
                      refine g_ild4 (pc' := 231) dX9_one_229 rfl ?_
                      refine g_ifneN (pc' := 234) (by omega) (tgt := 241) dX9_one_231 (by decide) rfl (fun h231 => ?_) (fun h231 => ?_)
                      · refine g_ild3 (pc' := 242) dX9_one_241 rfl ?_
                        refine g_iret rfl dX9_one_242 ?_
                        refine eI ⟨?_, hF, fun _ => ?_⟩
                        · rw [eC.1]; unfold cNum; rw [← hD, hdone]; have hx : MT B len op seen J (a, s.2) := by rw [hs2]; exact hM
                          exact hx.mk
                        · rw [eC.2, ← hD, hdone]
                      · exact absurd h231 (by omega)
                    · refine g_bipush (pc' := 202) (v := nI 10) dX9_one_200 rfl (by decide) ?_
                      refine g_ild3 (pc' := 203) dX9_one_202 rfl ?_
                      refine g_imulN (pc' := 204) dX9_one_203 rfl ?_
                      refine g_ald0 (pc' := 205) dX9_one_204 rfl ?_
                      refine g_callV (pc' := 208) (c_mByte l mg hM.1 (a := a) (hM.2.2.2.2.1 rfl).1 hM.2.2.2.1) mg.s40 (by decide) wX9_byteAt lX9_136 rfl rfl (Nat.le_of_ble_eq_true rfl) (rOk (by omega) (by decide)) ⟨Nat.le_of_ble_eq_true rfl, Nat.le_of_ble_eq_true rfl⟩ dX9_one_205 rfl (kIp ?_)
                      refine g_iaddN (pc' := 209) dX9_one_208 rfl ?_
                      refine g_bipush (pc' := 211) (v := nI 48) dX9_one_209 rfl (by decide) ?_
                      refine g_isubN (pc' := 212) (by omega) dX9_one_211 rfl ?_
                      refine g_ist3 (pc' := 213) rfl (by decide) dX9_one_212 rfl ?_
                      refine g_inc4 (pc' := 216) rfl (by decide) (v := nI (i + 1)) (nI_1 _) dX9_one_213 rfl ?_
                      refine g_ald0 (pc' := 217) dX9_one_216 rfl ?_
                      refine g_dupR (pc' := 218) dX9_one_217 rfl ?_
                      refine g_getI (pc' := 221) mg.s40 (by decide) fX9_124 (v := nI a) ((hM.2.2.2.2.1 rfl).1) dX9_one_218 rfl ?_
                      refine g_iconst (pc' := 222) (v := nI 1) dX9_one_221 rfl (by decide) ?_
                      refine g_iaddN (pc' := 223) dX9_one_222 rfl ?_
                      refine g_putI (pc' := 226) mg.s40 (by decide) ⟨fX9_124, rfl, pI⟩ dX9_one_223 rfl ?_
                      refine g_goto (tgt := 176) dX9_one_226 (by decide) ?_
                      have hal : a < len := by
                        rcases Nat.lt_or_ge a len with q | q
                        · exact q
                        · have : bt B len a = 0 := if_neg (by omega)
                          omega
                      have hBa : bt B len a = B a := if_pos hal
                      refine ihd (upM J (40, 0) 13 (nI (a + 1)), 10 * v + bt B len a - 48, a + 1) ⟨hM.adv rfl hal, hF.up (by simp [mtP]), ?_, fun q => absurd q (by omega)⟩
                      rw [← hD, show 4 - i = (4 - (i + 1)) + 1 by omega, digs, if_pos (show a < len ∧ 48 ≤ B a ∧ B a ≤ 57 by omega), hBa, Nat.mul_comm v 10]
              · rintro ⟨J, v, a⟩ ⟨hM, hF, hD, h00⟩
                simp only at hM hF hD h00 ⊢
                refine g_ild4 (pc' := 178) dX9_one_176 rfl ?_
                refine g_iconst (pc' := 179) (v := nI 4) dX9_one_178 rfl (by decide) ?_
                refine g_icmpgeN (pc' := 182) (by omega) (by omega) (tgt := 229) dX9_one_179 (by decide) rfl (fun h179 => ?_) (fun h179 => ?_)
                · have hdone : digs B len (4 - 4) v a = (v, a) := rfl
                  refine g_ild4 (pc' := 231) dX9_one_229 rfl ?_
                  refine g_ifneN (pc' := 234) (by omega) (tgt := 241) dX9_one_231 (by decide) rfl (fun h231 => ?_) (fun h231 => ?_)
                  · refine g_ild3 (pc' := 242) dX9_one_241 rfl ?_
                    refine g_iret rfl dX9_one_242 ?_
                    refine eI ⟨?_, hF, fun _ => ?_⟩
                    · rw [eC.1]; unfold cNum; rw [← hD, hdone]; have hx : MT B len op seen J (a, s.2) := by rw [hs2]; exact hM
                      exact hx.mk
                    · rw [eC.2, ← hD, hdone]
                  · exact absurd h231 (by omega)
                · exact absurd h179 (by omega)
            · exact absurd h29 (fun e => hop (Or.inl e))
      · have eC : cStep B len opn s = psFail len s := by
          unfold cStep
          by_cases hl : s.1 < len
          · have hbB : bt B len s.1 = B s.1 := if_pos hl
            rw [hbB] at hdg hnm
            rw [show nxt B len s.1 = some (B s.1) from if_pos hl]; simp only; rw [if_neg hdg, hnm]; simp only; exact if_neg (hno hn hl)
          · rw [show nxt B len s.1 = none from if_neg hl]
        refine g_ald0 (pc' := 1) dX9_one_0 rfl ?_
        refine g_getI (pc' := 4) mg.s40 (by decide) fX9_133 (h.nf hn) dX9_one_1 rfl ?_
        refine g_iflt (pc' := 7) (tgt := 9) dX9_one_4 (by decide) rfl (fun h4 => ?_) (fun h4 => (by first | exact absurd h4 (by decide : (-1 : Int32) < 0) | exact absurd (by decide : (-1 : Int32) < 0) h4))
        refine g_ald0 (pc' := 10) dX9_one_9 rfl ?_
        refine g_callV (pc' := 13) (c_mByte l mg h.1 (h.2.2.2.2.1 hn).1 h.2.2.2.1) mg.s40 (by decide) wX9_byteAt lX9_136 rfl rfl (Nat.le_of_ble_eq_true rfl) (rOk (by omega) (by decide)) ⟨Nat.le_of_ble_eq_true rfl, Nat.le_of_ble_eq_true rfl⟩ dX9_one_10 rfl (kIp ?_)
        refine g_ist1 (pc' := 14) rfl (by decide) dX9_one_13 rfl ?_
        refine g_ild1 (pc' := 15) dX9_one_14 rfl ?_
        refine g_bipush (pc' := 17) (v := nI 33) dX9_one_15 rfl (by decide) ?_
        refine g_icmpeqN (pc' := 20) (by omega) (by omega) (tgt := 32) dX9_one_17 (by decide) rfl (fun h17 => ?_) (fun h17 => ?_)
        · exact absurd h17 (fun e => hop (Or.inr (Or.inl e)))
        · refine g_ild1 (pc' := 21) dX9_one_20 rfl ?_
          refine g_bipush (pc' := 23) (v := nI 45) dX9_one_21 rfl (by decide) ?_
          refine g_icmpeqN (pc' := 26) (by omega) (by omega) (tgt := 32) dX9_one_23 (by decide) rfl (fun h23 => ?_) (fun h23 => ?_)
          · exact absurd h23 (fun e => hop (Or.inr (Or.inr e)))
          · refine g_ild1 (pc' := 27) dX9_one_26 rfl ?_
            refine g_bipush (pc' := 29) (v := nI 40) dX9_one_27 rfl (by decide) ?_
            refine g_icmpneN (pc' := 32) (by omega) (by omega) (tgt := 145) dX9_one_29 (by decide) rfl (fun h29 => ?_) (fun h29 => ?_)
            · refine g_ild1 (pc' := 146) dX9_one_145 rfl ?_
              refine g_callS (pc' := 149) (c_mNameOf l (b := bt B len s.1) (by omega)) wX9_nameOf lX9_167 rfl rfl (Nat.le_of_ble_eq_true rfl) (rOk (by omega) (by decide)) ⟨Nat.le_of_ble_eq_true rfl, Nat.le_of_ble_eq_true rfl⟩ dX9_one_146 rfl (kIp ?_)
              rw [hnm, show flI none = -1 from rfl]
              refine g_ist2 (pc' := 150) rfl (by decide) dX9_one_149 rfl ?_
              refine g_ild2 (pc' := 151) dX9_one_150 rfl ?_
              refine g_iflt (pc' := 154) (tgt := 171) dX9_one_151 (by decide) rfl (fun h151 => ?_) (fun h151 => (by first | exact absurd h151 (by decide : (-1 : Int32) < 0) | exact absurd (by decide : (-1 : Int32) < 0) h151))
              refine g_iconst (pc' := 172) (v := nI 0) dX9_one_171 rfl (by decide) ?_
              refine g_ist3 (pc' := 173) rfl (by decide) dX9_one_172 rfl ?_
              refine g_iconst (pc' := 174) (v := nI 0) dX9_one_173 rfl (by decide) ?_
              refine g_ist4 (pc' := 176) rfl (by decide) dX9_one_174 rfl ?_
              refine g_ild4 (pc' := 178) dX9_one_176 rfl ?_
              refine g_iconst (pc' := 179) (v := nI 4) dX9_one_178 rfl (by decide) ?_
              refine g_icmpgeN (pc' := 182) (by omega) (by omega) (tgt := 229) dX9_one_179 (by decide) rfl (fun h179 => ?_) (fun h179 => ?_)
              · exact absurd h179 (by omega)
              · refine g_ald0 (pc' := 183) dX9_one_182 rfl ?_
                refine g_callV (pc' := 186) (c_mByte l mg h.1 (h.2.2.2.2.1 hn).1 h.2.2.2.1) mg.s40 (by decide) wX9_byteAt lX9_136 rfl rfl (Nat.le_of_ble_eq_true rfl) (rOk (by omega) (by decide)) ⟨Nat.le_of_ble_eq_true rfl, Nat.le_of_ble_eq_true rfl⟩ dX9_one_183 rfl (kIp ?_)
                refine g_bipush (pc' := 188) (v := nI 48) dX9_one_186 rfl (by decide) ?_
                refine g_icmpltN (pc' := 191) (by omega) (by omega) (tgt := 229) dX9_one_188 (by decide) rfl (fun h188 => ?_) (fun h188 => ?_)
                · refine g_ild4 (pc' := 231) dX9_one_229 rfl ?_
                  refine g_ifneN (pc' := 234) (by omega) (tgt := 241) dX9_one_231 (by decide) rfl (fun h231 => ?_) (fun h231 => ?_)
                  · exact absurd h231 (by omega)
                  · refine g_ald0 (pc' := 235) dX9_one_234 rfl ?_
                    refine g_callV (pc' := 238) (c_mWrong l mg h) mg.s40 (by decide) wX9_wrong lX9_161 rfl rfl (Nat.le_of_ble_eq_true rfl) (rOk (by omega) (by decide)) ⟨Nat.le_of_ble_eq_true rfl, Nat.le_of_ble_eq_true rfl⟩ dX9_one_235 rfl (kI (fun v J hq => ?_))
                    refine g_goto (tgt := 242) dX9_one_238 (by decide) ?_
                    refine g_iret rfl dX9_one_242 ?_
                    exact eI ⟨by rw [eC]; exact hq.2.1, hq.2.2, fun hF0 => absurd (by rw [eC] at hF0; exact hF0) (psFail_some len s)⟩
                · refine g_ald0 (pc' := 192) dX9_one_191 rfl ?_
                  refine g_callV (pc' := 195) (c_mByte l mg h.1 (h.2.2.2.2.1 hn).1 h.2.2.2.1) mg.s40 (by decide) wX9_byteAt lX9_136 rfl rfl (Nat.le_of_ble_eq_true rfl) (rOk (by omega) (by decide)) ⟨Nat.le_of_ble_eq_true rfl, Nat.le_of_ble_eq_true rfl⟩ dX9_one_192 rfl (kIp ?_)
                  refine g_bipush (pc' := 197) (v := nI 57) dX9_one_195 rfl (by decide) ?_
                  refine g_icmpgtN (pc' := 200) (by omega) (by omega) (tgt := 229) dX9_one_197 (by decide) rfl (fun h197 => ?_) (fun h197 => ?_)
                  · refine g_ild4 (pc' := 231) dX9_one_229 rfl ?_
                    refine g_ifneN (pc' := 234) (by omega) (tgt := 241) dX9_one_231 (by decide) rfl (fun h231 => ?_) (fun h231 => ?_)
                    · exact absurd h231 (by omega)
                    · refine g_ald0 (pc' := 235) dX9_one_234 rfl ?_
                      refine g_callV (pc' := 238) (c_mWrong l mg h) mg.s40 (by decide) wX9_wrong lX9_161 rfl rfl (Nat.le_of_ble_eq_true rfl) (rOk (by omega) (by decide)) ⟨Nat.le_of_ble_eq_true rfl, Nat.le_of_ble_eq_true rfl⟩ dX9_one_235 rfl (kI (fun v J hq => ?_))
                      refine g_goto (tgt := 242) dX9_one_238 (by decide) ?_
                      refine g_iret rfl dX9_one_242 ?_
                      exact eI ⟨by rw [eC]; exact hq.2.1, hq.2.2, fun hF0 => absurd (by rw [eC] at hF0; exact hF0) (psFail_some len s)⟩
                  · exact absurd (show 48 ≤ bt B len s.1 ∧ bt B len s.1 ≤ 57 by omega) hdg
            · exact absurd h29 (fun e => hop (Or.inl e))
  · obtain ⟨p, hp, h15, hsp, hsl⟩ := h.sf hn
    have eC : cStep B len opn s = psFail len s := by unfold cStep; rw [show nxt B len s.1 = none from if_neg (by omega)]
    refine g_ald0 (pc' := 1) dX9_one_0 rfl ?_
    refine g_getI (pc' := 4) mg.s40 (by decide) fX9_133 h15 dX9_one_1 rfl ?_
    refine g_ifltN (pc' := 7) (by omega) dX9_one_4 rfl ?_
    refine g_iconst (pc' := 8) (v := nI 0) dX9_one_7 rfl (by decide) ?_
    refine g_iret rfl dX9_one_8 ?_
    exact eI ⟨by rw [eC]; exact h.stay hn, Fr.rf, fun hF0 => absurd (by rw [eC] at hF0; exact hF0) (psFail_some len s)⟩
