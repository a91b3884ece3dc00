/-! the model: reading and working out a TEXT -/
def bt (B : Nat → Nat) (len a : Nat) : Nat := if a < len then B a else 0
def SRC (B : Nat → Nat) (len : Nat) (I : MI) : Prop := (I (40, 0) 12 = -1 ∧ ∀ i, i < len → I (57, 0) i = nI (B i)) ∨ ∃ b, b + 120 ≤ 720 ∧ I (40, 0) 12 = nI b ∧ ∀ i, i < len → I (60, 0) (b + i) = nI (B i)
def TXm (B : Nat → Nat) (len : Nat) (seen : Nat → Int32) (I : MI) : Prop := len ≤ 120 ∧ (∀ i, i < len → B i < 256) ∧ I (40, 0) 14 = nI len ∧ SRC B len I ∧ ∀ k, k < 7 → I (67, 0) k = seen k
def MT (B : Nat → Nat) (len op : Nat) (seen : Nat → Int32) (I : MI) (s : PS) : Prop := TXm B len seen I ∧ I (40, 0) 15 = flI s.2.1 ∧ (∀ p, s.2.1 = some p → p ≤ len) ∧ s.1 ≤ len ∧ (s.2.1 = none → I (40, 0) 13 = nI s.1 ∧ I (40, 0) 16 = nI op) ∧ (¬ s.2.1 = none → s.1 = len ∧ ∃ a, a ≤ len ∧ I (40, 0) 13 = nI a)
def mtP (t : Tok) (i : Nat) : Prop := t = (40, 0) ∧ (i = 13 ∨ i = 15 ∨ i = 16)
theorem TXm.to {B : Nat → Nat} {len : Nat} {seen : Nat → Int32} {I J : MI} (h : TXm B len seen I) (hf : Fr mtP I J) : TXm B len seen J := by
  obtain ⟨h1, h2, h3, h4, h5⟩ := h
  refine ⟨h1, h2, (hf _ _ (by simp [mtP])).trans h3, ?_, fun k hk => (hf _ _ (by simp [mtP])).trans (h5 k hk)⟩
  rcases h4 with ⟨q1, q2⟩ | ⟨b, hb, q1, q2⟩
  · exact Or.inl ⟨(hf _ _ (by simp [mtP])).trans q1, fun i hi => (hf _ _ (by simp [mtP])).trans (q2 i hi)⟩
  · exact Or.inr ⟨b, hb, (hf _ _ (by simp [mtP])).trans q1, fun i hi => (hf _ _ (by simp [mtP])).trans (q2 i hi)⟩
theorem bt_lt {B : Nat → Nat} {len a : Nat} (h : ∀ i, i < len → B i < 256) : bt B len a < 256 := by
  unfold bt
  split
  · exact h _ (by assumption)
  · decide
theorem bt_in {B : Nat → Nat} {len a c : Nat} (h : bt B len a = c) (hc : 0 < c) : a < len ∧ B a = c := by
  unfold bt at h
  split at h
  · exact ⟨by assumption, h⟩
  · omega
theorem MT.at {B : Nat → Nat} {len op : Nat} {seen : Nat → Int32} {I : MI} {s : PS} (h : MT B len op seen I s) : ∃ a, a ≤ len ∧ I (40, 0) 13 = nI a ∧ (s.2.1 = none → a = s.1) := by
  obtain ⟨-, -, -, h4, h5, h6⟩ := h
  by_cases hn : s.2.1 = none
  · exact ⟨s.1, h4, (h5 hn).1, fun _ => rfl⟩
  · obtain ⟨-, a, ha, e⟩ := h6 hn
    exact ⟨a, ha, e, fun q => absurd q hn⟩
theorem MT.adv {B : Nat → Nat} {len op : Nat} {seen : Nat → Int32} {I : MI} {s : PS} (h : MT B len op seen I s) (hn : s.2.1 = none) (hl : s.1 < len) : MT B len op seen (upM I (40, 0) 13 (nI (s.1 + 1))) (psAdv s) := by
  obtain ⟨h1, h2, h3, h4, h5, h6⟩ := h
  refine ⟨h1.to (Fr.rf.up (by simp [mtP])), ?_, h3, hl, fun _ => ⟨upM_s _ _ _ _, ?_⟩, fun q => absurd hn q⟩
  · rw [upM_k _ _ (by decide)]; exact h2
  · rw [upM_k _ _ (by decide)]; exact (h5 hn).2
theorem MT.mk {B : Nat → Nat} {len op m x : Nat} {seen : Nat → Int32} {I : MI} {s : PS} (h : MT B len op seen I s) : MT B len op seen I (psMk m x s) := h
theorem MT.nf {B : Nat → Nat} {len op : Nat} {seen : Nat → Int32} {I : MI} {s : PS} (h : MT B len op seen I s) (hn : s.2.1 = none) : I (40, 0) 15 = -1 := by rw [h.2.1, hn]; rfl
theorem MT.sf {B : Nat → Nat} {len op : Nat} {seen : Nat → Int32} {I : MI} {s : PS} (h : MT B len op seen I s) (hn : ¬ s.2.1 = none) : ∃ p, p ≤ len ∧ I (40, 0) 15 = nI p ∧ s.2.1 = some p ∧ s.1 = len := by
  cases e : s.2.1 with
  | none => exact absurd e hn
  | some p => exact ⟨p, h.2.2.1 p e, by rw [h.2.1, e]; rfl, rfl, (h.2.2.2.2.2 hn).1⟩
def Vz (l : Launch) (S : Shp) (L : ML) (R : MR) (B : Nat → Nat) (len : Nat) (seen : Nat → Int32) (mi : MInf) (dp op : Nat) (f : PS → PS) (fv : PS → Int32) : Prop := ∀ (I : MI) (s : PS), MT B len op seen I s → Ct l mi dp 0 0 [.inr (.inr (some (40, 0)))] S I L R (PIm S L R (fun v J => MT B len op seen J (f s) ∧ Fr mtP I J ∧ ((f s).2.1 = none → v = fv s)))
theorem c_mByte (l : Launch) {S : Shp} {I : MI} {L : ML} {R : MR} (mg : MG S R) {B : Nat → Nat} {len : Nat} {seen : Nat → Int32} (tx : TXm B len seen I) {a : Nat} (ha : I (40, 0) 13 = nI a) (hal : a ≤ len) : Ct l mX9_byteAt 1 0 0 [.inr (.inr (some (40, 0)))] S I L R (PIp S I L R (nI (bt B len a))) := by
  have hl120 := tx.1
  refine Ct.of [some (.inr (.inr (some (40, 0))))] (by decide) rfl (Nat.le_of_ble_eq_true rfl) ?_
  refine g_ald0 (pc' := 1) dX9_byteAt_0 rfl ?_
  refine g_getI (pc' := 4) mg.s40 (by decide) fX9_124 ha dX9_byteAt_1 rfl ?_
  refine g_ald0 (pc' := 5) dX9_byteAt_4 rfl ?_
  refine g_getI (pc' := 8) mg.s40 (by decide) fX9_127 tx.2.2.1 dX9_byteAt_5 rfl ?_
  refine g_icmpgeN (pc' := 11) (by omega) (by omega) (tgt := 47) dX9_byteAt_8 (by decide) rfl (fun h8 => ?_) (fun h8 => ?_)
  · refine g_iconst (pc' := 48) (v := nI 0) dX9_byteAt_47 rfl (by decide) ?_
    refine g_iret rfl dX9_byteAt_48 ?_
    exact eIp (by unfold bt; rw [if_neg (by omega)])
  · obtain ⟨hl120, -, -, hsrc, -⟩ := tx
    rcases hsrc with ⟨q1, q2⟩ | ⟨b, hb, q1, q2⟩
    · have hk : True := trivial
      refine g_ald0 (pc' := 12) dX9_byteAt_11 rfl ?_
      refine g_getI (pc' := 15) mg.s40 (by decide) fX9_130 q1 dX9_byteAt_12 rfl ?_
      refine g_ifge (pc' := 18) (tgt := 30) dX9_byteAt_15 (by decide) rfl (fun h15 => (by first | exact absurd h15 (by decide : ¬ (0 : Int32) ≤ -1) | exact absurd (by decide : ¬ (0 : Int32) ≤ -1) h15)) (fun h15 => ?_)
      refine g_ald0 (pc' := 19) dX9_byteAt_18 rfl ?_
      refine g_getR (pc' := 22) mg.s40 (by decide) fX9_22 mg.r40_7 dX9_byteAt_19 rfl ?_
      refine g_ald0 (pc' := 23) dX9_byteAt_22 rfl ?_
      refine g_getI (pc' := 26) mg.s40 (by decide) fX9_124 ha dX9_byteAt_23 rfl ?_
      refine g_iald (pc' := 27) (j := a) mg.s57 rfl (by omega) (by decide) (v := nI (B a)) (q2 a h8) dX9_byteAt_26 rfl ?_
      refine g_goto (tgt := 48) dX9_byteAt_27 (by decide) ?_
      refine g_iret rfl dX9_byteAt_48 ?_
      exact eIp (by unfold bt; rw [if_pos h8])
    · have hk : True := trivial
      refine g_ald0 (pc' := 12) dX9_byteAt_11 rfl ?_
      refine g_getI (pc' := 15) mg.s40 (by decide) fX9_130 q1 dX9_byteAt_12 rfl ?_
      refine g_ifgeN (by omega) (tgt := 30) dX9_byteAt_15 (by decide) ?_
      refine g_ald0 (pc' := 31) dX9_byteAt_30 rfl ?_
      refine g_getR (pc' := 34) mg.s40 (by decide) fX9_25 mg.r40_10 dX9_byteAt_31 rfl ?_
      refine g_ald0 (pc' := 35) dX9_byteAt_34 rfl ?_
      refine g_getI (pc' := 38) mg.s40 (by decide) fX9_130 q1 dX9_byteAt_35 rfl ?_
      refine g_ald0 (pc' := 39) dX9_byteAt_38 rfl ?_
      refine g_getI (pc' := 42) mg.s40 (by decide) fX9_124 ha dX9_byteAt_39 rfl ?_
      refine g_iaddN (pc' := 43) dX9_byteAt_42 rfl ?_
      refine g_iald (pc' := 44) (j := b + a) mg.s60 rfl (by omega) (by decide) (v := nI (B a)) (q2 a h8) dX9_byteAt_43 rfl ?_
      refine g_goto (tgt := 48) dX9_byteAt_44 (by decide) ?_
      refine g_iret rfl dX9_byteAt_48 ?_
      exact eIp (by unfold bt; rw [if_pos h8])

theorem c_mWrong (l : Launch) {S : Shp} {I : MI} {L : ML} {R : MR} (mg : MG S R) {B : Nat → Nat} {len op : Nat} {seen : Nat → Int32} {s : PS} (h : MT B len op seen I s) : Ct l mX9_wrong 1 0 0 [.inr (.inr (some (40, 0)))] S I L R (PIm S L R (fun v J => v = nI 0 ∧ MT B len op seen J (psFail len s) ∧ Fr mtP I J)) := by
  refine Ct.of [some (.inr (.inr (some (40, 0))))] (by decide) rfl (Nat.le_of_ble_eq_true rfl) ?_
  have hl120 := h.1.1
  by_cases hn : s.2.1 = none
  · have hk : True := trivial
    refine g_ald0 (pc' := 1) dX9_wrong_0 rfl ?_
    refine g_ald0 (pc' := 2) dX9_wrong_1 rfl ?_
    refine g_getI (pc' := 5) mg.s40 (by decide) fX9_133 (h.nf hn) dX9_wrong_2 rfl ?_
    refine g_ifge (pc' := 8) (tgt := 15) dX9_wrong_5 (by decide) rfl (fun h5 => (by first | exact absurd h5 (by decide : ¬ (0 : Int32) ≤ -1) | exact absurd (by decide : ¬ (0 : Int32) ≤ -1) h5)) (fun h5 => ?_)
    refine g_ald0 (pc' := 9) dX9_wrong_8 rfl ?_
    refine g_getI (pc' := 12) mg.s40 (by decide) fX9_124 (v := nI (s.1)) ((h.2.2.2.2.1 hn).1) dX9_wrong_9 rfl ?_
    refine g_goto (tgt := 19) dX9_wrong_12 (by decide) ?_
    refine g_putI (pc' := 22) mg.s40 (by decide) ⟨fX9_133, rfl, pI⟩ dX9_wrong_19 rfl ?_
    refine g_iconst (pc' := 23) (v := nI 0) dX9_wrong_22 rfl (by decide) ?_
    refine g_iret rfl dX9_wrong_23 ?_
    refine eI ⟨rfl, ?_, Fr.rf.up (by simp [mtP])⟩
    obtain ⟨h1, h2, h3, h4, h5, h6⟩ := h
    have e : psFail len s = (len, some s.1, s.2.2) := by unfold psFail; rw [hn]
    rw [e]
    exact ⟨h1.to (Fr.rf.up (by simp [mtP])), upM_s _ _ _ _, fun p hp => by injection hp with hp; omega, Nat.le_refl _, fun q => (by cases q), fun _ => ⟨rfl, s.1, h4, by rw [upM_k _ _ (by decide)]; exact (h5 hn).1⟩⟩
  · obtain ⟨p, hp, h15, hsp, hsl⟩ := h.sf hn
    refine g_ald0 (pc' := 1) dX9_wrong_0 rfl ?_
    refine g_ald0 (pc' := 2) dX9_wrong_1 rfl ?_
    refine g_getI (pc' := 5) mg.s40 (by decide) fX9_133 h15 dX9_wrong_2 rfl ?_
    refine g_ifgeN (by omega) (tgt := 15) dX9_wrong_5 (by decide) ?_
    refine g_ald0 (pc' := 16) dX9_wrong_15 rfl ?_
    refine g_getI (pc' := 19) mg.s40 (by decide) fX9_133 h15 dX9_wrong_16 rfl ?_
    refine g_putI (pc' := 22) mg.s40 (by decide) ⟨fX9_133, rfl, pI⟩ dX9_wrong_19 rfl ?_
    refine g_iconst (pc' := 23) (v := nI 0) dX9_wrong_22 rfl (by decide) ?_
    refine g_iret rfl dX9_wrong_23 ?_
    refine eI ⟨rfl, ?_, Fr.rf.up (by simp [mtP])⟩
    obtain ⟨h1, h2, h3, h4, h5, h6⟩ := h
    have e : psFail len s = (len, some p, s.2.2) := by unfold psFail; rw [hsp]
    rw [e]
    obtain ⟨-, a, ha, hia⟩ := h6 hn
    exact ⟨h1.to (Fr.rf.up (by simp [mtP])), upM_s _ _ _ _, fun p' hp' => by injection hp' with hp'; omega, Nat.le_refl _, fun q => (by cases q), fun _ => ⟨rfl, a, ha, by rw [upM_k _ _ (by decide)]; exact hia⟩⟩

theorem c_mTakesY (l : Launch) {S : Shp} {I : MI} {L : ML} {R : MR} (mg : MG S R) {B : Nat → Nat} {len op : Nat} {seen : Nat → Int32} {s : PS} (h : MT B len op seen I s) {c : Nat} (hc : c < 256) (hn : s.2.1 = none) (hl : s.1 < len) (hB : B s.1 = c) : Ct l mX9_takes 2 0 0 [.inr (.inr (some (40, 0))), .inl (nI c)] S I L R (PIm S L R (fun v J => v = bI true ∧ J = upM I (40, 0) 13 (nI (s.1 + 1)))) := by
  refine Ct.of [some (.inr (.inr (some (40, 0)))), some (.inl (nI c))] (by decide) rfl (Nat.le_of_ble_eq_true rfl) ?_
  have hl120 := h.1.1
  obtain ⟨a, hal, hia, has⟩ := h.at
  have ha := has hn
  have hb : bt B len a = c := by unfold bt; rw [ha, if_pos hl, hB]
  have hb2 := bt_lt (a := a) h.1.2.1
  refine g_ald0 (pc' := 1) dX9_takes_0 rfl ?_
  refine g_getI (pc' := 4) mg.s40 (by decide) fX9_133 (h.nf hn) dX9_takes_1 rfl ?_
  refine g_ifge (pc' := 7) (tgt := 15) dX9_takes_4 (by decide) rfl (fun h4 => (by first | exact absurd h4 (by decide : ¬ (0 : Int32) ≤ -1) | exact absurd (by decide : ¬ (0 : Int32) ≤ -1) h4)) (fun h4 => ?_)
  refine g_ald0 (pc' := 8) dX9_takes_7 rfl ?_
  refine g_callV (pc' := 11) (c_mByte l mg h.1 hia hal) mg.s40 (by decide) wX9_byteAt lX9_136 rfl rfl (Nat.le_of_ble_eq_true rfl) ⟨Nat.le_of_ble_eq_true rfl, Nat.le_of_ble_eq_true rfl⟩ ⟨Nat.le_of_ble_eq_true rfl, Nat.le_of_ble_eq_true rfl⟩ dX9_takes_8 rfl (kIp ?_)
  refine g_ild1 (pc' := 12) dX9_takes_11 rfl ?_
  refine g_icmpeqN (pc' := 15) (by omega) (by omega) (tgt := 17) dX9_takes_12 (by decide) rfl (fun h12 => ?_) (fun h12 => ?_)
  · refine g_ald0 (pc' := 18) dX9_takes_17 rfl ?_
    refine g_dupR (pc' := 19) dX9_takes_18 rfl ?_
    refine g_getI (pc' := 22) mg.s40 (by decide) fX9_124 (v := nI (s.1)) ((h.2.2.2.2.1 hn).1) dX9_takes_19 rfl ?_
    refine g_iconst (pc' := 23) (v := nI 1) dX9_takes_22 rfl (by decide) ?_
    refine g_iaddN (pc' := 24) dX9_takes_23 rfl ?_
    refine g_putI (pc' := 27) mg.s40 (by decide) ⟨fX9_124, rfl, pI⟩ dX9_takes_24 rfl ?_
    refine g_iconst (pc' := 28) (v := nI 1) dX9_takes_27 rfl (by decide) ?_
    refine g_zret (ty := .boolean) rfl (by decide) dX9_takes_28 ?_
    exact eI ⟨rfl, rfl⟩
  · exact absurd h12 (by omega)

theorem c_mTakesN (l : Launch) {S : Shp} {I : MI} {L : ML} {R : MR} (mg : MG S R) {B : Nat → Nat} {len op : Nat} {seen : Nat → Int32} {s : PS} (h : MT B len op seen I s) {c : Nat} (hc0 : 0 < c) (hc : c < 256) (hno : ¬ (s.2.1 = none ∧ s.1 < len ∧ B s.1 = c)) : Ct l mX9_takes 2 0 0 [.inr (.inr (some (40, 0))), .inl (nI c)] S I L R (PIp S I L R (bI false)) := by
  refine Ct.of [some (.inr (.inr (some (40, 0)))), some (.inl (nI c))] (by decide) rfl (Nat.le_of_ble_eq_true rfl) ?_
  have hl120 := h.1.1
  obtain ⟨a, hal, hia, has⟩ := h.at
  have hb2 := bt_lt (a := a) h.1.2.1
  by_cases hn : s.2.1 = none
  · have hk : True := trivial
    refine g_ald0 (pc' := 1) dX9_takes_0 rfl ?_
    refine g_getI (pc' := 4) mg.s40 (by decide) fX9_133 (h.nf hn) dX9_takes_1 rfl ?_
    refine g_ifge (pc' := 7) (tgt := 15) dX9_takes_4 (by decide) rfl (fun h4 => (by first | exact absurd h4 (by decide : ¬ (0 : Int32) ≤ -1) | exact absurd (by decide : ¬ (0 : Int32) ≤ -1) h4)) (fun h4 => ?_)
    refine g_ald0 (pc' := 8) dX9_takes_7 rfl ?_
    refine g_callV (pc' := 11) (c_mByte l mg h.1 hia hal) mg.s40 (by decide) wX9_byteAt lX9_136 rfl rfl (Nat.le_of_ble_eq_true rfl) ⟨Nat.le_of_ble_eq_true rfl, Nat.le_of_ble_eq_true rfl⟩ ⟨Nat.le_of_ble_eq_true rfl, Nat.le_of_ble_eq_true rfl⟩ dX9_takes_8 rfl (kIp ?_)
    refine g_ild1 (pc' := 12) dX9_takes_11 rfl ?_
    refine g_icmpeqN (pc' := 15) (by omega) (by omega) (tgt := 17) dX9_takes_12 (by decide) rfl (fun h12 => ?_) (fun h12 => ?_)
    · exact absurd (bt_in h12 hc0) (fun q => hno ⟨hn, by rw [← has hn]; exact q.1, by rw [← has hn]; exact q.2⟩)
    · refine g_iconst (pc' := 16) (v := nI 0) dX9_takes_15 rfl (by decide) ?_
      refine g_zret (ty := .boolean) rfl (by decide) dX9_takes_16 ?_
      exact eIp rfl
  · obtain ⟨p, hp, h15, hsp, hsl⟩ := h.sf hn
    refine g_ald0 (pc' := 1) dX9_takes_0 rfl ?_
    refine g_getI (pc' := 4) mg.s40 (by decide) fX9_133 h15 dX9_takes_1 rfl ?_
    refine g_ifgeN (by omega) (tgt := 15) dX9_takes_4 (by decide) ?_
    refine g_iconst (pc' := 16) (v := nI 0) dX9_takes_15 rfl (by decide) ?_
    refine g_zret (ty := .boolean) rfl (by decide) dX9_takes_16 ?_
    exact eIp rfl

theorem vz_either {l : Launch} {S : Shp} {L : ML} {R : MR} (mg : MG S R) {B : Nat → Nat} {len dp op : Nat} {seen : Nat → Int32} {one : PS → PS} {ov : PS → Int32} (hn1 : Nice len one) (hsubc : Vz l S L R B len seen mX9_both dp op ((cAll B len one)) ((allV B len one ov))) (hdp : 3 ≤ dp) : Vz l S L R B len seen mX9_either (dp + 1) op (cAny B len one) (anyV B len one ov) := by
  intro I s0 h
  have hnice : Nice len ((cAll B len one)) := hn1.all
  refine Ct.of [some (.inr (.inr (some (40, 0)))), none, none] (by decide) rfl (Nat.le_of_ble_eq_true rfl) ?_
  refine g_ald0 (pc' := 1) dX9_either_0 rfl ?_
  refine g_callV (pc' := 4) (hsubc I s0 h) mg.s40 (by decide) wX9_both lX9_140 rfl rfl (Nat.le_of_ble_eq_true rfl) (rOk (by omega) (by decide)) ⟨Nat.le_of_ble_eq_true rfl, Nat.le_of_ble_eq_true rfl⟩ dX9_either_1 rfl (kI (fun v0 J0 hq0 => ?_))
  refine g_ist1 (pc' := 5) rfl (by decide) dX9_either_4 rfl ?_
  obtain ⟨hMa, hFa, hva⟩ := hq0
  refine g_loopD (σ := MI × PS × Int32) (fun f (q : MI × PS × Int32) => MT B len op seen q.1 q.2.1 ∧ Fr mtP I q.1 ∧ lpR B len opO (cAll B len one) f q.2.1 = cAny B len one s0 ∧ ((cAny B len one s0).2.1 = none → lpV B len opO (cAll B len one) (allV B len one ov) f q.2.1 q.2.2 = anyV B len one ov s0) ∧ len < f + q.2.1.1) (fun f q => [some (.inr (.inr (some (40, 0)))), some (.inl q.2.2), none]) (fun f q => q.1) 121 (J0, (cAll B len one) s0, v0) ⟨hMa, hFa, rfl, fun hF0 => by rw [hva ((hnice.loop (B := B) (op := opO) 121).run0 (hnice s0 h.2.2.2.1).2.1 hF0)]; rfl, by have := h.1.1; show len < 121 + _; omega⟩ ?_
  rintro f ⟨J, s, v⟩ hP ihD
  obtain ⟨hM, hF, hR, hV, hfu⟩ := hP
  simp only at hM hF hR hV hfu ⊢
  cases f with
  | zero => exact absurd hfu (by have := hM.2.2.2.1; omega)
  | succ f =>
    by_cases hyes : (s.2.1 = none ∧ s.1 < len ∧ B s.1 = 124)
    · have eR : lpR B len opO (cAll B len one) (f + 1) s = lpR B len opO (cAll B len one) f (psMk 6 0 ((cAll B len one) (psAdv s))) := by rw [lpR, if_pos hyes.2.1, hyes.2.2]; rfl
      have eV : lpV B len opO (cAll B len one) (allV B len one ov) (f + 1) s v = lpV B len opO (cAll B len one) (allV B len one ov) f (psMk 6 0 ((cAll B len one) (psAdv s))) (joinI 6 v ((allV B len one ov) (psAdv s))) := by rw [lpV, if_pos hyes.2.1, hyes.2.2]; rfl
      refine g_ald0 (pc' := 6) dX9_either_5 rfl ?_
      refine g_bipush (pc' := 8) (v := nI 124) dX9_either_6 rfl (by decide) ?_
      refine g_callV (pc' := 11) (c_mTakesY l mg hM (by decide) hyes.1 hyes.2.1 hyes.2.2) mg.s40 (by decide) wX9_takes lX9_143 rfl rfl (Nat.le_of_ble_eq_true rfl) (rOk (by omega) (by decide)) ⟨Nat.le_of_ble_eq_true rfl, Nat.le_of_ble_eq_true rfl⟩ dX9_either_8 rfl (kI (fun v1 J1 hq1 => ?_))
      obtain ⟨hv1, hJ1⟩ := hq1
      rw [hv1]
      have hM1 : MT B len op seen J1 (psAdv s) := by rw [hJ1]; exact hM.adv hyes.1 hyes.2.1
      have hfA : Fr mtP J J1 := by rw [hJ1]; exact Fr.rf.up (by simp [mtP])
      refine g_ifeqB (pc' := 14) (tgt := 36) dX9_either_11 (by decide) rfl (fun h11 => (by first | exact absurd h11 (by simp) | exact absurd (by simp) h11)) (fun h11 => ?_)
      refine g_ald0 (pc' := 15) dX9_either_14 rfl ?_
      refine g_callV (pc' := 18) (hsubc J1 (psAdv s) hM1) mg.s40 (by decide) wX9_both lX9_140 rfl rfl (Nat.le_of_ble_eq_true rfl) (rOk (by omega) (by decide)) ⟨Nat.le_of_ble_eq_true rfl, Nat.le_of_ble_eq_true rfl⟩ dX9_either_15 rfl (kI (fun w J2 hq2 => ?_))
      obtain ⟨hM2, hF2, hv2⟩ := hq2
      refine g_ist2 (pc' := 19) rfl (by decide) dX9_either_18 rfl ?_
      refine g_ild1 (pc' := 20) dX9_either_19 rfl ?_
      refine g_ifne (pc' := 23) (tgt := 27) dX9_either_20 (by decide) rfl (fun h20 => ?_) (fun h20 => ?_)
      · refine g_iconst (pc' := 28) (v := nI 1) dX9_either_27 rfl (by decide) ?_
        refine g_goto (tgt := 32) dX9_either_28 (by decide) ?_
        refine g_ist1 (pc' := 33) rfl (by decide) dX9_either_32 rfl ?_
        refine g_goto (tgt := 5) dX9_either_33 (by decide) ?_
        have ej : joinI 6 v w = nI 1 := by unfold joinI; simp [*]
        refine G.lsub [some (.inr (.inr (some (40, 0)))), some (.inl (nI 1)), none] (by intro j v; rcases j with _ | _ | _ | j <;> simp) ?_
        refine ihD f (J2, psMk 6 0 ((cAll B len one) (psAdv s)), nI 1) (by omega) ⟨hM2.mk, hF.tr (hfA.tr hF2), by rw [← hR, eR], fun hF0 => ?_, by have h1 := (hnice (psAdv s) hyes.2.1).1; have h2 : (psAdv s).1 = s.1 + 1 := rfl; show len < f + ((cAll B len one) (psAdv s)).1; omega⟩
        have hsub : ((cAll B len one) (psAdv s)).2.1 = none := (hnice.loop (B := B) (op := opO) f).run0 (s := psMk 6 0 ((cAll B len one) (psAdv s))) (hnice (psAdv s) hyes.2.1).2.1 (by rw [← eR, hR]; exact hF0)
        rw [hv2 hsub] at ej
        rw [← hV hF0, eV, ej]
      · refine g_ild2 (pc' := 24) dX9_either_23 rfl ?_
        refine g_ifeq (pc' := 27) (tgt := 31) dX9_either_24 (by decide) rfl (fun h24 => ?_) (fun h24 => ?_)
        · refine g_iconst (pc' := 32) (v := nI 0) dX9_either_31 rfl (by decide) ?_
          refine g_ist1 (pc' := 33) rfl (by decide) dX9_either_32 rfl ?_
          refine g_goto (tgt := 5) dX9_either_33 (by decide) ?_
          have ej : joinI 6 v w = nI 0 := by unfold joinI; simp [*]
          refine G.lsub [some (.inr (.inr (some (40, 0)))), some (.inl (nI 0)), none] (by intro j v; rcases j with _ | _ | _ | j <;> simp) ?_
          refine ihD f (J2, psMk 6 0 ((cAll B len one) (psAdv s)), nI 0) (by omega) ⟨hM2.mk, hF.tr (hfA.tr hF2), by rw [← hR, eR], fun hF0 => ?_, by have h1 := (hnice (psAdv s) hyes.2.1).1; have h2 : (psAdv s).1 = s.1 + 1 := rfl; show len < f + ((cAll B len one) (psAdv s)).1; omega⟩
          have hsub : ((cAll B len one) (psAdv s)).2.1 = none := (hnice.loop (B := B) (op := opO) f).run0 (s := psMk 6 0 ((cAll B len one) (psAdv s))) (hnice (psAdv s) hyes.2.1).2.1 (by rw [← eR, hR]; exact hF0)
          rw [hv2 hsub] at ej
          rw [← hV hF0, eV, ej]
        · refine g_iconst (pc' := 28) (v := nI 1) dX9_either_27 rfl (by decide) ?_
          refine g_goto (tgt := 32) dX9_either_28 (by decide) ?_
          refine g_ist1 (pc' := 33) rfl (by decide) dX9_either_32 rfl ?_
          refine g_goto (tgt := 5) dX9_either_33 (by decide) ?_
          have ej : joinI 6 v w = nI 1 := by unfold joinI; simp [*]
          refine G.lsub [some (.inr (.inr (some (40, 0)))), some (.inl (nI 1)), none] (by intro j v; rcases j with _ | _ | _ | j <;> simp) ?_
          refine ihD f (J2, psMk 6 0 ((cAll B len one) (psAdv s)), nI 1) (by omega) ⟨hM2.mk, hF.tr (hfA.tr hF2), by rw [← hR, eR], fun hF0 => ?_, by have h1 := (hnice (psAdv s) hyes.2.1).1; have h2 : (psAdv s).1 = s.1 + 1 := rfl; show len < f + ((cAll B len one) (psAdv s)).1; omega⟩
          have hsub : ((cAll B len one) (psAdv s)).2.1 = none := (hnice.loop (B := B) (op := opO) f).run0 (s := psMk 6 0 ((cAll B len one) (psAdv s))) (hnice (psAdv s) hyes.2.1).2.1 (by rw [← eR, hR]; exact hF0)
          rw [hv2 hsub] at ej
          rw [← hV hF0, eV, ej]
    · have hno : s.1 < len → opO (B s.1) = none := fun hl => by
        by_cases hn : s.2.1 = none
        · have hb : ¬ B s.1 = 124 := fun e => hyes ⟨hn, hl, e⟩
          unfold opO
          rw [if_neg hb]
        · have := (hM.2.2.2.2.2 hn).1; omega
      have eR : lpR B len opO (cAll B len one) (f + 1) s = s := by
        rw [lpR]
        by_cases hl : s.1 < len
        · rw [if_pos hl, hno hl]
        · rw [if_neg hl]
      have eV : lpV B len opO (cAll B len one) (allV B len one ov) (f + 1) s v = v := by
        rw [lpV]
        by_cases hl : s.1 < len
        · rw [if_pos hl, hno hl]
        · rw [if_neg hl]
      refine g_ald0 (pc' := 6) dX9_either_5 rfl ?_
      refine g_bipush (pc' := 8) (v := nI 124) dX9_either_6 rfl (by decide) ?_
      refine g_callV (pc' := 11) (c_mTakesN l mg hM (by decide) (by decide) hyes) mg.s40 (by decide) wX9_takes lX9_143 rfl rfl (Nat.le_of_ble_eq_true rfl) (rOk (by omega) (by decide)) ⟨Nat.le_of_ble_eq_true rfl, Nat.le_of_ble_eq_true rfl⟩ dX9_either_8 rfl (kIp ?_)
      refine g_ifeqB (pc' := 14) (tgt := 36) dX9_either_11 (by decide) rfl (fun h11 => ?_) (fun h11 => (by first | exact absurd h11 (by simp) | exact absurd (by simp) h11))
      refine g_ild1 (pc' := 37) dX9_either_36 rfl ?_
      refine g_iret rfl dX9_either_37 ?_
      exact eI ⟨by rw [← hR, eR]; exact hM, hF, fun hF0 => by rw [← hV hF0, eV]⟩

theorem vz_both {l : Launch} {S : Shp} {L : ML} {R : MR} (mg : MG S R) {B : Nat → Nat} {len dp op : Nat} {seen : Nat → Int32} {one : PS → PS} {ov : PS → Int32} (hn1 : Nice len one) (hsubc : Vz l S L R B len seen mX9_compared dp op ((cCmp B len one)) ((cmpV B len one ov))) (hdp : 3 ≤ dp) : Vz l S L R B len seen mX9_both (dp + 1) op (cAll B len one) (allV B len one ov) := by
  intro I s0 h
  have hnice : Nice len ((cCmp B len one)) := hn1.cmp
  refine Ct.of [some (.inr (.inr (some (40, 0)))), none, none] (by decide) rfl (Nat.le_of_ble_eq_true rfl) ?_
  refine g_ald0 (pc' := 1) dX9_both_0 rfl ?_
  refine g_callV (pc' := 4) (hsubc I s0 h) mg.s40 (by decide) wX9_compared lX9_146 rfl rfl (Nat.le_of_ble_eq_true rfl) (rOk (by omega) (by decide)) ⟨Nat.le_of_ble_eq_true rfl, Nat.le_of_ble_eq_true rfl⟩ dX9_both_1 rfl (kI (fun v0 J0 hq0 => ?_))
  refine g_ist1 (pc' := 5) rfl (by decide) dX9_both_4 rfl ?_
  obtain ⟨hMa, hFa, hva⟩ := hq0
  refine g_loopD (σ := MI × PS × Int32) (fun f (q : MI × PS × Int32) => MT B len op seen q.1 q.2.1 ∧ Fr mtP I q.1 ∧ lpR B len opA (cCmp B len one) f q.2.1 = cAll B len one s0 ∧ ((cAll B len one s0).2.1 = none → lpV B len opA (cCmp B len one) (cmpV B len one ov) f q.2.1 q.2.2 = allV B len one ov s0) ∧ len < f + q.2.1.1) (fun f q => [some (.inr (.inr (some (40, 0)))), some (.inl q.2.2), none]) (fun f q => q.1) 121 (J0, (cCmp B len one) s0, v0) ⟨hMa, hFa, rfl, fun hF0 => by rw [hva ((hnice.loop (B := B) (op := opA) 121).run0 (hnice s0 h.2.2.2.1).2.1 hF0)]; rfl, by have := h.1.1; show len < 121 + _; omega⟩ ?_
  rintro f ⟨J, s, v⟩ hP ihD
  obtain ⟨hM, hF, hR, hV, hfu⟩ := hP
  simp only at hM hF hR hV hfu ⊢
  cases f with
  | zero => exact absurd hfu (by have := hM.2.2.2.1; omega)
  | succ f =>
    by_cases hyes : (s.2.1 = none ∧ s.1 < len ∧ B s.1 = 38)
    · have eR : lpR B len opA (cCmp B len one) (f + 1) s = lpR B len opA (cCmp B len one) f (psMk 7 0 ((cCmp B len one) (psAdv s))) := by rw [lpR, if_pos hyes.2.1, hyes.2.2]; rfl
      have eV : lpV B len opA (cCmp B len one) (cmpV B len one ov) (f + 1) s v = lpV B len opA (cCmp B len one) (cmpV B len one ov) f (psMk 7 0 ((cCmp B len one) (psAdv s))) (joinI 7 v ((cmpV B len one ov) (psAdv s))) := by rw [lpV, if_pos hyes.2.1, hyes.2.2]; rfl
      refine g_ald0 (pc' := 6) dX9_both_5 rfl ?_
      refine g_bipush (pc' := 8) (v := nI 38) dX9_both_6 rfl (by decide) ?_
      refine g_callV (pc' := 11) (c_mTakesY l mg hM (by decide) hyes.1 hyes.2.1 hyes.2.2) mg.s40 (by decide) wX9_takes lX9_143 rfl rfl (Nat.le_of_ble_eq_true rfl) (rOk (by omega) (by decide)) ⟨Nat.le_of_ble_eq_true rfl, Nat.le_of_ble_eq_true rfl⟩ dX9_both_8 rfl (kI (fun v1 J1 hq1 => ?_))
      obtain ⟨hv1, hJ1⟩ := hq1
      rw [hv1]
      have hM1 : MT B len op seen J1 (psAdv s) := by rw [hJ1]; exact hM.adv hyes.1 hyes.2.1
      have hfA : Fr mtP J J1 := by rw [hJ1]; exact Fr.rf.up (by simp [mtP])
      refine g_ifeqB (pc' := 14) (tgt := 36) dX9_both_11 (by decide) rfl (fun h11 => (by first | exact absurd h11 (by simp) | exact absurd (by simp) h11)) (fun h11 => ?_)
      refine g_ald0 (pc' := 15) dX9_both_14 rfl ?_
      refine g_callV (pc' := 18) (hsubc J1 (psAdv s) hM1) mg.s40 (by decide) wX9_compared lX9_146 rfl rfl (Nat.le_of_ble_eq_true rfl) (rOk (by omega) (by decide)) ⟨Nat.le_of_ble_eq_true rfl, Nat.le_of_ble_eq_true rfl⟩ dX9_both_15 rfl (kI (fun w J2 hq2 => ?_))
      obtain ⟨hM2, hF2, hv2⟩ := hq2
      refine g_ist2 (pc' := 19) rfl (by decide) dX9_both_18 rfl ?_
      refine g_ild1 (pc' := 20) dX9_both_19 rfl ?_
      refine g_ifeq (pc' := 23) (tgt := 31) dX9_both_20 (by decide) rfl (fun h20 => ?_) (fun h20 => ?_)
      · refine g_iconst (pc' := 32) (v := nI 0) dX9_both_31 rfl (by decide) ?_
        refine g_ist1 (pc' := 33) rfl (by decide) dX9_both_32 rfl ?_
        refine g_goto (tgt := 5) dX9_both_33 (by decide) ?_
        have ej : joinI 7 v w = nI 0 := by unfold joinI; simp [*]
        refine G.lsub [some (.inr (.inr (some (40, 0)))), some (.inl (nI 0)), none] (by intro j v; rcases j with _ | _ | _ | j <;> simp) ?_
        refine ihD f (J2, psMk 7 0 ((cCmp B len one) (psAdv s)), nI 0) (by omega) ⟨hM2.mk, hF.tr (hfA.tr hF2), by rw [← hR, eR], fun hF0 => ?_, by have h1 := (hnice (psAdv s) hyes.2.1).1; have h2 : (psAdv s).1 = s.1 + 1 := rfl; show len < f + ((cCmp B len one) (psAdv s)).1; omega⟩
        have hsub : ((cCmp B len one) (psAdv s)).2.1 = none := (hnice.loop (B := B) (op := opA) f).run0 (s := psMk 7 0 ((cCmp B len one) (psAdv s))) (hnice (psAdv s) hyes.2.1).2.1 (by rw [← eR, hR]; exact hF0)
        rw [hv2 hsub] at ej
        rw [← hV hF0, eV, ej]
      · refine g_ild2 (pc' := 24) dX9_both_23 rfl ?_
        refine g_ifeq (pc' := 27) (tgt := 31) dX9_both_24 (by decide) rfl (fun h24 => ?_) (fun h24 => ?_)
        · refine g_iconst (pc' := 32) (v := nI 0) dX9_both_31 rfl (by decide) ?_
          refine g_ist1 (pc' := 33) rfl (by decide) dX9_both_32 rfl ?_
          refine g_goto (tgt := 5) dX9_both_33 (by decide) ?_
          have ej : joinI 7 v w = nI 0 := by unfold joinI; simp [*]
          refine G.lsub [some (.inr (.inr (some (40, 0)))), some (.inl (nI 0)), none] (by intro j v; rcases j with _ | _ | _ | j <;> simp) ?_
          refine ihD f (J2, psMk 7 0 ((cCmp B len one) (psAdv s)), nI 0) (by omega) ⟨hM2.mk, hF.tr (hfA.tr hF2), by rw [← hR, eR], fun hF0 => ?_, by have h1 := (hnice (psAdv s) hyes.2.1).1; have h2 : (psAdv s).1 = s.1 + 1 := rfl; show len < f + ((cCmp B len one) (psAdv s)).1; omega⟩
          have hsub : ((cCmp B len one) (psAdv s)).2.1 = none := (hnice.loop (B := B) (op := opA) f).run0 (s := psMk 7 0 ((cCmp B len one) (psAdv s))) (hnice (psAdv s) hyes.2.1).2.1 (by rw [← eR, hR]; exact hF0)
          rw [hv2 hsub] at ej
          rw [← hV hF0, eV, ej]
        · refine g_iconst (pc' := 28) (v := nI 1) dX9_both_27 rfl (by decide) ?_
          refine g_goto (tgt := 32) dX9_both_28 (by decide) ?_
          refine g_ist1 (pc' := 33) rfl (by decide) dX9_both_32 rfl ?_
          refine g_goto (tgt := 5) dX9_both_33 (by decide) ?_
          have ej : joinI 7 v w = nI 1 := by unfold joinI; simp [*]
          refine G.lsub [some (.inr (.inr (some (40, 0)))), some (.inl (nI 1)), none] (by intro j v; rcases j with _ | _ | _ | j <;> simp) ?_
          refine ihD f (J2, psMk 7 0 ((cCmp B len one) (psAdv s)), nI 1) (by omega) ⟨hM2.mk, hF.tr (hfA.tr hF2), by rw [← hR, eR], fun hF0 => ?_, by have h1 := (hnice (psAdv s) hyes.2.1).1; have h2 : (psAdv s).1 = s.1 + 1 := rfl; show len < f + ((cCmp B len one) (psAdv s)).1; omega⟩
          have hsub : ((cCmp B len one) (psAdv s)).2.1 = none := (hnice.loop (B := B) (op := opA) f).run0 (s := psMk 7 0 ((cCmp B len one) (psAdv s))) (hnice (psAdv s) hyes.2.1).2.1 (by rw [← eR, hR]; exact hF0)
          rw [hv2 hsub] at ej
          rw [← hV hF0, eV, ej]
    · have hno : s.1 < len → opA (B s.1) = none := fun hl => by
        by_cases hn : s.2.1 = none
        · have hb : ¬ B s.1 = 38 := fun e => hyes ⟨hn, hl, e⟩
          unfold opA
          rw [if_neg hb]
        · have := (hM.2.2.2.2.2 hn).1; omega
      have eR : lpR B len opA (cCmp B len one) (f + 1) s = s := by
        rw [lpR]
        by_cases hl : s.1 < len
        · rw [if_pos hl, hno hl]
        · rw [if_neg hl]
      have eV : lpV B len opA (cCmp B len one) (cmpV B len one ov) (f + 1) s v = v := by
        rw [lpV]
        by_cases hl : s.1 < len
        · rw [if_pos hl, hno hl]
        · rw [if_neg hl]
      refine g_ald0 (pc' := 6) dX9_both_5 rfl ?_
      refine g_bipush (pc' := 8) (v := nI 38) dX9_both_6 rfl (by decide) ?_
      refine g_callV (pc' := 11) (c_mTakesN l mg hM (by decide) (by decide) hyes) mg.s40 (by decide) wX9_takes lX9_143 rfl rfl (Nat.le_of_ble_eq_true rfl) (rOk (by omega) (by decide)) ⟨Nat.le_of_ble_eq_true rfl, Nat.le_of_ble_eq_true rfl⟩ dX9_both_8 rfl (kIp ?_)
      refine g_ifeqB (pc' := 14) (tgt := 36) dX9_both_11 (by decide) rfl (fun h11 => ?_) (fun h11 => (by first | exact absurd h11 (by simp) | exact absurd (by simp) h11))
      refine g_ild1 (pc' := 37) dX9_both_36 rfl ?_
      refine g_iret rfl dX9_both_37 ?_
      exact eI ⟨by rw [← hR, eR]; exact hM, hF, fun hF0 => by rw [← hV hF0, eV]⟩
